/-- what the tree holds: tags, starts, lengths, inner ones, how many -/
abbrev tt_T : Type := (Nat → Int32) × (Nat → Int32) × (Nat → Int32) × (Nat → Int32) × Int32
def kp_T (T : tt_T) (t s0 l0 ou : Int32) : tt_T := (f_Tree_keep_1 T.2.2.2.2 T.1 t, f_Tree_keep_2 T.2.2.2.2 T.2.1 s0, f_Tree_keep_3 T.2.2.2.2 T.2.2.1 l0, f_Tree_keep_4 T.2.2.2.2 T.2.2.2.1 ou, f_Tree_keep_size T.2.2.2.2)
/-- where the length stands, where the value begins, how long it is -/
def ct_l (n : Int32) (f : Nat → Int32) (a en : Int32) : Int32 := a + f_Tag_bytesOf (f_Tag_read n f a en)
def ct_s (n : Int32) (f : Nat → Int32) (a en : Int32) : Int32 := ct_l n f a en + (if f_Row_at n f (ct_l n f a en) = 129 then 2 else 1)
def ct_n (n : Int32) (f : Nat → Int32) (a en : Int32) : Int32 := f_Tree_readLength n f (ct_l n f a en) en
def ct_B (k : Int32 → tt_T → Int32 × tt_T) (t e : Int32) (T : tt_T) (F : Int32 × tt_T) : Int32 × tt_T := if f_Tag_hasInner t = 0 then k e T else if F.1 = -1 then k e F.2 else F
def ct_D (k : Int32 → tt_T → Int32 × tt_T) (rc : Int32 → Int32 → Int32 → tt_T → Int32 × tt_T) (en ou a t s ln : Int32) (T : tt_T) : Int32 × tt_T := if ln = -1 then (a, T) else if ln ≤ en - s then ct_B k t (s + ln) (kp_T T t s ln ou) (rc s (s + ln) (f_Tree_keep T.2.2.2.2) (kp_T T t s ln ou)) else (a, T)
def ct_C (k : Int32 → tt_T → Int32 × tt_T) (n : Int32) (f : Nat → Int32) (rc : Int32 → Int32 → Int32 → tt_T → Int32 × tt_T) (en ou a t : Int32) (T : tt_T) : Int32 × tt_T := if t = -1 then (a, T) else ct_D k rc en ou a t (ct_s n f a en) (ct_n n f a en) T
def ct_L (n : Int32) (f : Nat → Int32) (rc : Int32 → Int32 → Int32 → tt_T → Int32 × tt_T) (en ou : Int32) : Nat → Int32 → tt_T → Int32 × tt_T
  | 0, _, T => (-1, T)
  | r + 1, a, T => if en ≤ a then (-1, T) else ct_C (fun a T => ct_L n f rc en ou r a T) n f rc en ou a (f_Tag_read n f a en) T
def ct_F (n : Int32) (f : Nat → Int32) : Nat → Int32 → Int32 → Int32 → tt_T → Int32 × tt_T
  | 0, fr, en, _, T => (if en ≤ fr then -1 else fr, T)
  | d + 1, fr, en, ou, T => ct_L n f (ct_F n f d) en ou 30 fr T
theorem kp_ok {z : Int32} (h : rw_ok z 30) : rw_ok (f_Tree_keep_size z) 30 := by
  obtain ⟨k, hk, hN, rfl⟩ := nw_of h
  unfold f_Tree_keep_size
  by_cases c : nI k < 30
  · rw [if_pos c, nI_1]
    have h1 : k < 30 := by
      rcases Nat.lt_or_ge k 30 with q | q
      · exact q
      · exact absurd c (nI_nlt (b := 30) q (by omega))
    exact rw_nI h1 hN
  · rw [if_neg c]; exact h
theorem ct_Le (n : Int32) (f : Nat → Int32) (rc : Int32 → Int32 → Int32 → tt_T → Int32 × tt_T) (en ou : Int32) (r : Nat) (a : Int32) (T : tt_T) : ct_L n f rc en ou (r + 1) a T = if en ≤ a then (-1, T) else ct_C (ct_L n f rc en ou r) n f rc en ou a (f_Tag_read n f a en) T := rfl
theorem ct_Bok {k : Int32 → tt_T → Int32 × tt_T} {t e : Int32} {T : tt_T} {F : Int32 × tt_T} (hk : ∀ a T, rw_ok T.2.2.2.2 30 → rw_ok (k a T).2.2.2.2.2 30) (hT : rw_ok T.2.2.2.2 30) (hF : rw_ok F.2.2.2.2.2 30) : rw_ok (ct_B k t e T F).2.2.2.2.2 30 := by
  unfold ct_B
  by_cases c5 : f_Tag_hasInner t = 0
  · rw [if_pos c5]; exact hk _ _ hT
  rw [if_neg c5]
  by_cases c6 : F.1 = -1
  · rw [if_pos c6]; exact hk _ _ hF
  · rw [if_neg c6]; exact hF
theorem ct_Dok {k : Int32 → tt_T → Int32 × tt_T} {rc : Int32 → Int32 → Int32 → tt_T → Int32 × tt_T} {en ou a t s ln : Int32} {T : tt_T} (hk : ∀ a T, rw_ok T.2.2.2.2 30 → rw_ok (k a T).2.2.2.2.2 30) (hr : ∀ a b c T, rw_ok T.2.2.2.2 30 → rw_ok (rc a b c T).2.2.2.2.2 30) (hT : rw_ok T.2.2.2.2 30) : rw_ok (ct_D k rc en ou a t s ln T).2.2.2.2.2 30 := by
  have h2 : rw_ok (kp_T T t s ln ou).2.2.2.2 30 := kp_ok hT
  unfold ct_D
  by_cases c3 : ln = -1
  · rw [if_pos c3]; exact hT
  rw [if_neg c3]
  by_cases c4 : ln ≤ en - s
  · rw [if_pos c4]; exact ct_Bok hk h2 (hr _ _ _ _ h2)
  · rw [if_neg c4]; exact hT
theorem ct_Lok {n : Int32} {f : Nat → Int32} {rc : Int32 → Int32 → Int32 → tt_T → Int32 × tt_T} {en ou : Int32} (hr : ∀ a b c T, rw_ok T.2.2.2.2 30 → rw_ok (rc a b c T).2.2.2.2.2 30) : ∀ (r : Nat) (a : Int32) (T : tt_T), rw_ok T.2.2.2.2 30 → rw_ok (ct_L n f rc en ou r a T).2.2.2.2.2 30
  | 0, _, _, h => h
  | r + 1, a, T, h => by
    rw [ct_Le]
    by_cases c1 : en ≤ a
    · rw [if_pos c1]; exact h
    rw [if_neg c1]
    unfold ct_C
    by_cases c2 : f_Tag_read n f a en = -1
    · rw [if_pos c2]; exact h
    · rw [if_neg c2]; exact ct_Dok (fun a T h => ct_Lok hr r a T h) hr h
theorem ct_Fok {n : Int32} {f : Nat → Int32} : ∀ (d : Nat) (fr en ou : Int32) (T : tt_T), rw_ok T.2.2.2.2 30 → rw_ok (ct_F n f d fr en ou T).2.2.2.2.2 30
  | 0, _, _, _, _, h => h
  | d + 1, fr, en, ou, T, h => ct_Lok (fun a b c T h => ct_Fok d a b c T h) 30 fr T h
theorem ct_L1 {n : Int32} {f : Nat → Int32} {rc : Int32 → Int32 → Int32 → tt_T → Int32 × tt_T} {en ou a : Int32} {T : tt_T} {r : Nat} (c1 : en ≤ a) : ct_L n f rc en ou (r + 1) a T = (-1, T) := by rw [ct_Le, if_pos c1]
theorem ct_L2 {n : Int32} {f : Nat → Int32} {rc : Int32 → Int32 → Int32 → tt_T → Int32 × tt_T} {en ou a t : Int32} {T : tt_T} {r : Nat} (ht : t = f_Tag_read n f a en) (c1 : ¬ en ≤ a) (c2 : t = -1) : ct_L n f rc en ou (r + 1) a T = (a, T) := by
  rw [ct_Le, if_neg c1, ← ht]
  unfold ct_C
  rw [if_pos c2]
theorem ct_LD {n : Int32} {f : Nat → Int32} {rc : Int32 → Int32 → Int32 → tt_T → Int32 × tt_T} {en ou a t la ln s : Int32} {T : tt_T} {r : Nat} (ht : t = f_Tag_read n f a en) (hla : la = a + f_Tag_bytesOf t) (hln : ln = f_Tree_readLength n f la en) (hs : s = la + (if f_Row_at n f la = 129 then 2 else 1)) (c1 : ¬ en ≤ a) (c2 : ¬ t = -1) : ct_L n f rc en ou (r + 1) a T = ct_D (ct_L n f rc en ou r) rc en ou a t s ln T := by
  rw [ct_Le, if_neg c1, ← ht]
  unfold ct_C
  rw [if_neg c2]
  have e1 : ct_l n f a en = la := by rw [hla, ht]; rfl
  have e2 : ct_s n f a en = s := by rw [ct_s, e1, hs]
  have e3 : ct_n n f a en = ln := by rw [ct_n, e1, hln]
  rw [e2, e3]
theorem ct_S3 {n : Int32} {f : Nat → Int32} {rc : Int32 → Int32 → Int32 → tt_T → Int32 × tt_T} {en ou a t la ln s : Int32} {T : tt_T} {r : Nat} (ht : t = f_Tag_read n f a en) (hla : la = a + f_Tag_bytesOf t) (hln : ln = f_Tree_readLength n f la en) (hs : s = la + (if f_Row_at n f la = 129 then 2 else 1)) (c1 : ¬ en ≤ a) (c2 : ¬ t = -1) (c3 : ln = -1) : ct_L n f rc en ou (r + 1) a T = (a, T) := by
  rw [ct_LD ht hla hln hs c1 c2]
  unfold ct_D
  rw [if_pos c3]
theorem ct_S4 {n : Int32} {f : Nat → Int32} {rc : Int32 → Int32 → Int32 → tt_T → Int32 × tt_T} {en ou a t la ln s : Int32} {T : tt_T} {r : Nat} (ht : t = f_Tag_read n f a en) (hla : la = a + f_Tag_bytesOf t) (hln : ln = f_Tree_readLength n f la en) (hs : s = la + (if f_Row_at n f la = 129 then 2 else 1)) (c1 : ¬ en ≤ a) (c2 : ¬ t = -1) (c3 : ¬ ln = -1) (c4 : ¬ ln ≤ en - s) : ct_L n f rc en ou (r + 1) a T = (a, T) := by
  rw [ct_LD ht hla hln hs c1 c2]
  unfold ct_D
  rw [if_neg c3, if_neg c4]
theorem ct_S5 {n : Int32} {f : Nat → Int32} {rc : Int32 → Int32 → Int32 → tt_T → Int32 × tt_T} {en ou a t la ln s : Int32} {T : tt_T} {r : Nat} (ht : t = f_Tag_read n f a en) (hla : la = a + f_Tag_bytesOf t) (hln : ln = f_Tree_readLength n f la en) (hs : s = la + (if f_Row_at n f la = 129 then 2 else 1)) (c1 : ¬ en ≤ a) (c2 : ¬ t = -1) (c3 : ¬ ln = -1) (c4 : ln ≤ en - s) (c5 : f_Tag_hasInner t = 0) : ct_L n f rc en ou (r + 1) a T = ct_L n f rc en ou r (s + ln) (kp_T T t s ln ou) := by
  rw [ct_LD ht hla hln hs c1 c2]
  unfold ct_D
  rw [if_neg c3, if_pos c4]
  unfold ct_B
  rw [if_pos c5]
theorem ct_S6 {n : Int32} {f : Nat → Int32} {rc : Int32 → Int32 → Int32 → tt_T → Int32 × tt_T} {en ou a t la ln s : Int32} {T : tt_T} {r : Nat} (ht : t = f_Tag_read n f a en) (hla : la = a + f_Tag_bytesOf t) (hln : ln = f_Tree_readLength n f la en) (hs : s = la + (if f_Row_at n f la = 129 then 2 else 1)) (c1 : ¬ en ≤ a) (c2 : ¬ t = -1) (c3 : ¬ ln = -1) (c4 : ln ≤ en - s) (c5 : ¬ f_Tag_hasInner t = 0) {F : Int32 × tt_T} (hF : F = rc s (s + ln) (f_Tree_keep T.2.2.2.2) (kp_T T t s ln ou)) (c6 : F.1 = -1) : ct_L n f rc en ou (r + 1) a T = ct_L n f rc en ou r (s + ln) F.2 := by
  rw [ct_LD ht hla hln hs c1 c2]
  unfold ct_D
  rw [if_neg c3, if_pos c4, ← hF]
  unfold ct_B
  rw [if_neg c5, if_pos c6]
theorem ct_S7 {n : Int32} {f : Nat → Int32} {rc : Int32 → Int32 → Int32 → tt_T → Int32 × tt_T} {en ou a t la ln s : Int32} {T : tt_T} {r : Nat} (ht : t = f_Tag_read n f a en) (hla : la = a + f_Tag_bytesOf t) (hln : ln = f_Tree_readLength n f la en) (hs : s = la + (if f_Row_at n f la = 129 then 2 else 1)) (c1 : ¬ en ≤ a) (c2 : ¬ t = -1) (c3 : ¬ ln = -1) (c4 : ln ≤ en - s) (c5 : ¬ f_Tag_hasInner t = 0) {F : Int32 × tt_T} (hF : F = rc s (s + ln) (f_Tree_keep T.2.2.2.2) (kp_T T t s ln ou)) (c6 : ¬ F.1 = -1) : ct_L n f rc en ou (r + 1) a T = F := by
  rw [ct_LD ht hla hln hs c1 c2]
  unfold ct_D
  rw [if_neg c3, if_pos c4, ← hF]
  unfold ct_B
  rw [if_neg c5, if_neg c6]
theorem l30_lt {c : Nat} (h : c ≤ 30) (q : ¬ (30 : Int32) ≤ nI c) : ∃ k, 30 - c = k + 1 ∧ 30 - (c + 1) = k ∧ c + 1 ≤ 30 := by
  have := lp_lt (k := 30) (n := 30) rfl (by omega) q
  exact ⟨30 - (c + 1), by omega, rfl, by omega⟩
theorem l30_ge {c : Nat} (h : c ≤ 30) (q : (30 : Int32) ≤ nI c) : 30 - c = 0 := by
  have := lp_ge (k := 30) (n := 30) rfl (by decide) q
  omega
set_option maxRecDepth 100000 in
set_option maxHeartbeats 4000000 in
theorem c_Tree_cut_0 (l : Launch) (D : va_G) (cA : Nat → ClassId) (sz : Nat) (h : Nat) (hr : Nat) (ht : Nat) (hs : Nat) (hl : Nat) (hi : Nat) (z : Int32) (hb : Nat) (n : Int32) (f : Nat → Int32) (tg : Nat → Int32) (ss : Nat → Int32) (ln : Nat → Int32) (nn : Nat → Int32) (fr : Int32) (en : Int32) (ou : Int32) (hz : rw_ok z 30) (hN : rw_ok n 60) : ct_M l D cA yn_Tree_cut cd_Tree_cut 3 0 0 sz [.ref h, .int fr, .int en, .int ou, .int 4] [(h, .inr (4, [.ref hr, .ref ht, .ref hs, .ref hl, .ref hi, .int z])), (hr, .inr (0, [.ref hb, .int n])), (hb, .inl (cA 0, 60, .inl f)), (ht, .inl (cA 0, 30, .inl tg)), (hs, .inl (cA 0, 30, .inl ss)), (hl, .inl (cA 0, 30, .inl ln)), (hi, .inl (cA 0, 30, .inl nn))] (fun v_ w_ => ∃ (F9 : Int32 × tt_T), F9 = ct_F n f 0 fr en ou (tg, ss, ln, nn, z) ∧ v_ = some (.int F9.1) ∧ w_ = [(h, .inr (4, [.ref hr, .ref ht, .ref hs, .ref hl, .ref hi, .int F9.2.2.2.2.2])), (hr, .inr (0, [.ref hb, .int n])), (hb, .inl (cA 0, 60, .inl f)), (ht, .inl (cA 0, 30, .inl F9.2.1)), (hs, .inl (cA 0, 30, .inl F9.2.2.1)), (hl, .inl (cA 0, 30, .inl F9.2.2.2.1)), (hi, .inl (cA 0, 30, .inl F9.2.2.2.2.1))]) := by
  refine gw_met (by decide) rfl (Nat.le_of_ble_eq_true rfl) ?_
  intro p_ e_ s_ m_ args_ below_ meth_ c_ A_ S g_r g_k g_n hK hA
  refine gw_eq (ws' := [(h, .inr (4, [.ref hr, .ref ht, .ref hs, .ref hl, .ref hi, .int z])), (hr, .inr (0, [.ref hb, .int n])), (hb, .inl (cA 0, 60, .inl f)), (ht, .inl (cA 0, 30, .inl tg)), (hs, .inl (cA 0, 30, .inl ss)), (hl, .inl (cA 0, 30, .inl ln)), (hi, .inl (cA 0, 30, .inl nn))]) (lv' := [(0, .ref h), (1, .int fr), (2, .int en), (3, .int ou), (4, .int 4)]) (st' := []) (pc' := 0) rfl rfl rfl rfl ?_
  refine gw_iload S dc_Tree_cut_0 4 rfl ?_
  refine gw_iconst (v := 3) S dc_Tree_cut_2 (by decide) ?_
  refine gw_icmp_le (tgt := 17) S dc_Tree_cut_3 (by decide) (fun c_1 => by exact absurd c_1 (by decide)) (fun c_1 => ?_)
  refine gw_iload_n S dc_Tree_cut_6 rfl 1 rfl ?_
  refine gw_iload_n S dc_Tree_cut_7 rfl 2 rfl ?_
  refine gw_icmp_ge (tgt := 15) S dc_Tree_cut_8 (by decide) (fun c_2 => ?_) (fun c_2 => ?_)
  · -- taken
    refine gw_iconst (v := -1) S dc_Tree_cut_15 (by decide) ?_
    exact gw_iret (w := [(h, .inr (4, [.ref hr, .ref ht, .ref hs, .ref hl, .ref hi, .int z])), (hr, .inr (0, [.ref hb, .int n])), (hb, .inl (cA 0, 60, .inl f)), (ht, .inl (cA 0, 30, .inl tg)), (hs, .inl (cA 0, 30, .inl ss)), (hl, .inl (cA 0, 30, .inl ln)), (hi, .inl (cA 0, 30, .inl nn))]) S g_r g_k  [0, 1, 2, 3, 4, 5, 6] rfl (by decide) ⟨(-1, tg, ss, ln, nn, z), by simp only [ct_F, if_pos c_2], rfl, rfl⟩ dc_Tree_cut_16
  · -- not
    refine gw_iload_n S dc_Tree_cut_11 rfl 1 rfl ?_
    refine gw_goto (tgt := 16) S dc_Tree_cut_12 (by decide) ?_
    exact gw_iret (w := [(h, .inr (4, [.ref hr, .ref ht, .ref hs, .ref hl, .ref hi, .int z])), (hr, .inr (0, [.ref hb, .int n])), (hb, .inl (cA 0, 60, .inl f)), (ht, .inl (cA 0, 30, .inl tg)), (hs, .inl (cA 0, 30, .inl ss)), (hl, .inl (cA 0, 30, .inl ln)), (hi, .inl (cA 0, 30, .inl nn))]) S g_r g_k  [0, 1, 2, 3, 4, 5, 6] rfl (by decide) ⟨(fr, tg, ss, ln, nn, z), by simp only [ct_F, if_neg c_2], rfl, rfl⟩ dc_Tree_cut_16
set_option maxRecDepth 100000 in
set_option maxHeartbeats 4000000 in
theorem c_Tree_cut_1 (l : Launch) (D : va_G) (cA : Nat → ClassId) (sz : Nat) (h : Nat) (hr : Nat) (ht : Nat) (hs : Nat) (hl : Nat) (hi : Nat) (z : Int32) (hb : Nat) (n : Int32) (f : Nat → Int32) (tg : Nat → Int32) (ss : Nat → Int32) (ln : Nat → Int32) (nn : Nat → Int32) (fr : Int32) (en : Int32) (ou : Int32) (hz : rw_ok z 30) (hN : rw_ok n 60) : ct_M l D cA yn_Tree_cut cd_Tree_cut 4 0 0 sz [.ref h, .int fr, .int en, .int ou, .int 3] [(h, .inr (4, [.ref hr, .ref ht, .ref hs, .ref hl, .ref hi, .int z])), (hr, .inr (0, [.ref hb, .int n])), (hb, .inl (cA 0, 60, .inl f)), (ht, .inl (cA 0, 30, .inl tg)), (hs, .inl (cA 0, 30, .inl ss)), (hl, .inl (cA 0, 30, .inl ln)), (hi, .inl (cA 0, 30, .inl nn))] (fun v_ w_ => ∃ (F9 : Int32 × tt_T), F9 = ct_F n f 1 fr en ou (tg, ss, ln, nn, z) ∧ v_ = some (.int F9.1) ∧ w_ = [(h, .inr (4, [.ref hr, .ref ht, .ref hs, .ref hl, .ref hi, .int F9.2.2.2.2.2])), (hr, .inr (0, [.ref hb, .int n])), (hb, .inl (cA 0, 60, .inl f)), (ht, .inl (cA 0, 30, .inl F9.2.1)), (hs, .inl (cA 0, 30, .inl F9.2.2.1)), (hl, .inl (cA 0, 30, .inl F9.2.2.2.1)), (hi, .inl (cA 0, 30, .inl F9.2.2.2.2.1))]) := by
  refine gw_met (by decide) rfl (Nat.le_of_ble_eq_true rfl) ?_
  intro p_ e_ s_ m_ args_ below_ meth_ c_ A_ S g_r g_k g_n hK hA
  refine gw_eq (ws' := [(h, .inr (4, [.ref hr, .ref ht, .ref hs, .ref hl, .ref hi, .int z])), (hr, .inr (0, [.ref hb, .int n])), (hb, .inl (cA 0, 60, .inl f)), (ht, .inl (cA 0, 30, .inl tg)), (hs, .inl (cA 0, 30, .inl ss)), (hl, .inl (cA 0, 30, .inl ln)), (hi, .inl (cA 0, 30, .inl nn))]) (lv' := [(0, .ref h), (1, .int fr), (2, .int en), (3, .int ou), (4, .int 3)]) (st' := []) (pc' := 0) rfl rfl rfl rfl ?_
  refine gw_iload S dc_Tree_cut_0 4 rfl ?_
  refine gw_iconst (v := 3) S dc_Tree_cut_2 (by decide) ?_
  refine gw_icmp_le (tgt := 17) S dc_Tree_cut_3 (by decide) (fun c_1 => ?_) (fun c_1 => by exact absurd c_1 (by decide))
  refine gw_iload_n S dc_Tree_cut_17 rfl 1 rfl ?_
  refine gw_istore (lv' := [(5, .int fr), (0, .ref h), (1, .int fr), (2, .int en), (3, .int ou), (4, .int 3)]) S dc_Tree_cut_18 (by decide) rfl ?_
  refine gw_iconst (v := 0) S dc_Tree_cut_20 (by decide) ?_
  refine gw_istore (lv' := [(6, .int 0), (5, .int fr), (0, .ref h), (1, .int fr), (2, .int en), (3, .int ou), (4, .int 3)]) S dc_Tree_cut_21 (by decide) rfl ?_
  refine gw_drop [2, 4, 5, 6, 1, 0] (lv' := [(0, .ref h), (2, .int en), (3, .int ou), (4, .int 3), (5, .int fr), (6, .int 0)]) rfl ?_
  refine gw_loop (σ := Nat × Int32 × (Nat → Int32) × (Nat → Int32) × (Nat → Int32) × (Nat → Int32) × Int32) (fun (x_ : Nat × Int32 × (Nat → Int32) × (Nat → Int32) × (Nat → Int32) × (Nat → Int32) × Int32) => match x_ with | (c9, a, tg9, ss9, ln9, nn9, z9) => (c9 ≤ 30) ∧ (rw_ok z9 30) ∧ (ct_F n f 1 fr en ou (tg, ss, ln, nn, z) = ct_L n f (ct_F n f 0) en ou (30 - c9) a (tg9, ss9, ln9, nn9, z9))) (fun (x_ : Nat × Int32 × (Nat → Int32) × (Nat → Int32) × (Nat → Int32) × (Nat → Int32) × Int32) => match x_ with | (c9, a, tg9, ss9, ln9, nn9, z9) => 30 - c9) (fun (x_ : Nat × Int32 × (Nat → Int32) × (Nat → Int32) × (Nat → Int32) × (Nat → Int32) × Int32) => match x_ with | (c9, a, tg9, ss9, ln9, nn9, z9) => [(h, .inr (4, [.ref hr, .ref ht, .ref hs, .ref hl, .ref hi, .int z9])), (hr, .inr (0, [.ref hb, .int n])), (hb, .inl (cA 0, 60, .inl f)), (ht, .inl (cA 0, 30, .inl tg9)), (hs, .inl (cA 0, 30, .inl ss9)), (hl, .inl (cA 0, 30, .inl ln9)), (hi, .inl (cA 0, 30, .inl nn9))]) (fun (x_ : Nat × Int32 × (Nat → Int32) × (Nat → Int32) × (Nat → Int32) × (Nat → Int32) × Int32) => match x_ with | (c9, a, tg9, ss9, ln9, nn9, z9) => [(0, .ref h), (2, .int en), (3, .int ou), (4, .int 3), (5, .int a), (6, .int (nI c9))]) ?_ (0, fr, tg, ss, ln, nn, z) ?_ rfl rfl
  rotate_left
  · exact ⟨Nat.zero_le _, hz, rfl⟩
  rintro ⟨c9, a, tg9, ss9, ln9, nn9, z9⟩ ⟨hc9, hz9, hm9⟩ ih_2
  refine gw_eq (ws' := [(h, .inr (4, [.ref hr, .ref ht, .ref hs, .ref hl, .ref hi, .int z9])), (hr, .inr (0, [.ref hb, .int n])), (hb, .inl (cA 0, 60, .inl f)), (ht, .inl (cA 0, 30, .inl tg9)), (hs, .inl (cA 0, 30, .inl ss9)), (hl, .inl (cA 0, 30, .inl ln9)), (hi, .inl (cA 0, 30, .inl nn9))]) (lv' := [(0, .ref h), (2, .int en), (3, .int ou), (4, .int 3), (5, .int a), (6, .int (nI c9))]) (st' := []) (pc' := 23) rfl rfl rfl rfl ?_
  refine gw_iload S dc_Tree_cut_23 5 rfl ?_
  refine gw_bipush (v := 30) S dc_Tree_cut_25 (by decide) ?_
  refine gw_icmp_ge (tgt := 181) S dc_Tree_cut_27 (by decide) (fun c_3 => ?_) (fun c_3 => ?_)
  · -- taken
    refine gw_iconst (v := -1) S dc_Tree_cut_181 (by decide) ?_
    exact gw_iret (w := [(h, .inr (4, [.ref hr, .ref ht, .ref hs, .ref hl, .ref hi, .int z9])), (hr, .inr (0, [.ref hb, .int n])), (hb, .inl (cA 0, 60, .inl f)), (ht, .inl (cA 0, 30, .inl tg9)), (hs, .inl (cA 0, 30, .inl ss9)), (hl, .inl (cA 0, 30, .inl ln9)), (hi, .inl (cA 0, 30, .inl nn9))]) S g_r g_k  [0, 1, 2, 3, 4, 5, 6] rfl (by decide) ⟨(-1, tg9, ss9, ln9, nn9, z9), by rw [hm9, l30_ge hc9 c_3]; rfl, rfl, rfl⟩ dc_Tree_cut_182
  · -- not
    refine gw_iload S dc_Tree_cut_30 4 rfl ?_
    refine gw_iload_n S dc_Tree_cut_32 rfl 1 rfl ?_
    refine gw_icmp_ge (tgt := 181) S dc_Tree_cut_33 (by decide) (fun c_4 => ?_) (fun c_4 => ?_)
    · -- taken
      refine gw_iconst (v := -1) S dc_Tree_cut_181 (by decide) ?_
      exact gw_iret (w := [(h, .inr (4, [.ref hr, .ref ht, .ref hs, .ref hl, .ref hi, .int z9])), (hr, .inr (0, [.ref hb, .int n])), (hb, .inl (cA 0, 60, .inl f)), (ht, .inl (cA 0, 30, .inl tg9)), (hs, .inl (cA 0, 30, .inl ss9)), (hl, .inl (cA 0, 30, .inl ln9)), (hi, .inl (cA 0, 30, .inl nn9))]) S g_r g_k  [0, 1, 2, 3, 4, 5, 6] rfl (by decide) ⟨(-1, tg9, ss9, ln9, nn9, z9), by obtain ⟨k8, e8, e7, e6⟩ := l30_lt hc9 c_3; rw [hm9, e8]; exact (ct_L1 c_4).symm, rfl, rfl⟩ dc_Tree_cut_182
    · -- not
      refine gw_aload_n S dc_Tree_cut_36 rfl 0 rfl ?_
      refine gw_get S hK.1 ic_Tree rfl 0 (by decide) (gw_lk S mw_169) 0 rfl rfl dc_Tree_cut_37 ?_
      refine gw_iload S dc_Tree_cut_40 4 rfl ?_
      refine gw_iload_n S dc_Tree_cut_42 rfl 1 rfl ?_
      refine gw_callSR (As := [.ref hr, .int a, .int en]) (st := []) S hK (c_Tag_read l D cA hr hb n 60 f a en (by assumption)) (cw_Tree_49 S.2.2.2.2 rfl rfl ⟨Nat.le_of_ble_eq_true rfl, Nat.le_of_ble_eq_true rfl⟩) [1, 2] rfl (by decide) rfl rfl (Nat.le_of_ble_eq_true rfl) dc_Tree_cut_43 ⟨Nat.le_of_ble_eq_true rfl, Nat.le_of_ble_eq_true rfl⟩ ?_
      rintro _ rfl
      refine gw_eq (ws' := [(h, .inr (4, [.ref hr, .ref ht, .ref hs, .ref hl, .ref hi, .int z9])), (hr, .inr (0, [.ref hb, .int n])), (hb, .inl (cA 0, 60, .inl f)), (ht, .inl (cA 0, 30, .inl tg9)), (hs, .inl (cA 0, 30, .inl ss9)), (hl, .inl (cA 0, 30, .inl ln9)), (hi, .inl (cA 0, 30, .inl nn9))]) (lv' := [(0, .ref h), (2, .int en), (3, .int ou), (4, .int 3), (5, .int a), (6, .int (nI c9))]) (st' := [.int (f_Tag_read n f a en)]) (pc' := 46) rfl rfl rfl rfl ?_
      refine gw_topi (fun t7 ht7 => ?_)
      refine gw_istore (lv' := [(7, .int t7), (0, .ref h), (2, .int en), (3, .int ou), (4, .int 3), (5, .int a), (6, .int (nI c9))]) S dc_Tree_cut_46 (by decide) rfl ?_
      refine gw_iload S dc_Tree_cut_48 0 rfl ?_
      refine gw_iconst (v := -1) S dc_Tree_cut_50 (by decide) ?_
      refine gw_icmp_ne (tgt := 57) S dc_Tree_cut_51 (by decide) (fun c_6 => ?_) (fun c_6 => ?_)
      · -- taken
        refine gw_iload S dc_Tree_cut_57 5 rfl ?_
        refine gw_iload S dc_Tree_cut_59 0 rfl ?_
        refine gw_callSR (As := [.int t7]) (st := [.int a]) S hK (c_Tag_bytesOf l D cA t7 ) (cw_Tree_55 S.2.2.2.2 rfl rfl ⟨Nat.le_of_ble_eq_true rfl, Nat.le_of_ble_eq_true rfl⟩) [] rfl (by decide) rfl rfl (Nat.le_of_ble_eq_true rfl) dc_Tree_cut_61 ⟨Nat.le_of_ble_eq_true rfl, Nat.le_of_ble_eq_true rfl⟩ ?_
        rintro _ rfl
        refine gw_eq (ws' := [(h, .inr (4, [.ref hr, .ref ht, .ref hs, .ref hl, .ref hi, .int z9])), (hr, .inr (0, [.ref hb, .int n])), (hb, .inl (cA 0, 60, .inl f)), (ht, .inl (cA 0, 30, .inl tg9)), (hs, .inl (cA 0, 30, .inl ss9)), (hl, .inl (cA 0, 30, .inl ln9)), (hi, .inl (cA 0, 30, .inl nn9))]) (lv' := [(7, .int t7), (0, .ref h), (2, .int en), (3, .int ou), (4, .int 3), (5, .int a), (6, .int (nI c9))]) (st' := [.int (f_Tag_bytesOf t7), .int a]) (pc' := 64) rfl rfl rfl rfl ?_
        refine gw_iadd S dc_Tree_cut_64 ?_
        refine gw_topi (fun l8 hl8 => ?_)
        refine gw_istore (lv' := [(8, .int l8), (7, .int t7), (0, .ref h), (2, .int en), (3, .int ou), (4, .int 3), (5, .int a), (6, .int (nI c9))]) S dc_Tree_cut_65 (by decide) rfl ?_
        refine gw_aload_n S dc_Tree_cut_67 rfl 2 rfl ?_
        refine gw_iload S dc_Tree_cut_68 0 rfl ?_
        refine gw_iload_n S dc_Tree_cut_70 rfl 3 rfl ?_
        refine gw_callVR (As := [.int l8, .int en]) (st := []) S hK (c_Tree_readLength l D cA h hr ht hs hl hi z9 hb n f l8 en (by assumption)) (cw_Tree_59 S.2.2.2.2 rfl rfl ⟨Nat.le_of_ble_eq_true rfl, Nat.le_of_ble_eq_true rfl⟩) [0, 1, 2] rfl (by decide) 0 rfl rfl rfl rfl rfl (Nat.le_of_ble_eq_true rfl) dc_Tree_cut_71 ⟨Nat.le_of_ble_eq_true rfl, Nat.le_of_ble_eq_true rfl⟩ ?_
        rintro _ rfl
        refine gw_eq (ws' := [(h, .inr (4, [.ref hr, .ref ht, .ref hs, .ref hl, .ref hi, .int z9])), (hr, .inr (0, [.ref hb, .int n])), (hb, .inl (cA 0, 60, .inl f)), (ht, .inl (cA 0, 30, .inl tg9)), (hs, .inl (cA 0, 30, .inl ss9)), (hl, .inl (cA 0, 30, .inl ln9)), (hi, .inl (cA 0, 30, .inl nn9))]) (lv' := [(8, .int l8), (7, .int t7), (0, .ref h), (2, .int en), (3, .int ou), (4, .int 3), (5, .int a), (6, .int (nI c9))]) (st' := [.int (f_Tree_readLength n f l8 en)]) (pc' := 74) rfl rfl rfl rfl ?_
        refine gw_topi (fun n9 hn9 => ?_)
        refine gw_istore (lv' := [(9, .int n9), (8, .int l8), (7, .int t7), (0, .ref h), (2, .int en), (3, .int ou), (4, .int 3), (5, .int a), (6, .int (nI c9))]) S dc_Tree_cut_74 (by decide) rfl ?_
        refine gw_iload S dc_Tree_cut_76 1 rfl ?_
        refine gw_aload_n S dc_Tree_cut_78 rfl 3 rfl ?_
        refine gw_get S hK.1 ic_Tree rfl 0 (by decide) (gw_lk S mw_169) 0 rfl rfl dc_Tree_cut_79 ?_
        refine gw_iload S dc_Tree_cut_82 1 rfl ?_
        refine gw_callVR (As := [.int l8]) (st := [.int l8]) S hK (c_Row_at l D cA hr hb n 60 f l8 (by assumption)) (cw_Tree_63 S.2.2.2.2 rfl rfl ⟨Nat.le_of_ble_eq_true rfl, Nat.le_of_ble_eq_true rfl⟩) [1, 2] rfl (by decide) 0 rfl rfl rfl rfl rfl (Nat.le_of_ble_eq_true rfl) dc_Tree_cut_84 ⟨Nat.le_of_ble_eq_true rfl, Nat.le_of_ble_eq_true rfl⟩ ?_
        rintro _ rfl
        refine gw_eq (ws' := [(h, .inr (4, [.ref hr, .ref ht, .ref hs, .ref hl, .ref hi, .int z9])), (hr, .inr (0, [.ref hb, .int n])), (hb, .inl (cA 0, 60, .inl f)), (ht, .inl (cA 0, 30, .inl tg9)), (hs, .inl (cA 0, 30, .inl ss9)), (hl, .inl (cA 0, 30, .inl ln9)), (hi, .inl (cA 0, 30, .inl nn9))]) (lv' := [(9, .int n9), (8, .int l8), (7, .int t7), (0, .ref h), (2, .int en), (3, .int ou), (4, .int 3), (5, .int a), (6, .int (nI c9))]) (st' := [.int (f_Row_at n f l8), .int l8]) (pc' := 87) rfl rfl rfl rfl ?_
        refine gw_sipush (v := 129) S dc_Tree_cut_87 (by decide) ?_
        refine gw_jw (ws2 := [(h, .inr (4, [.ref hr, .ref ht, .ref hs, .ref hl, .ref hi, .int z9])), (hr, .inr (0, [.ref hb, .int n])), (hb, .inl (cA 0, 60, .inl f)), (ht, .inl (cA 0, 30, .inl tg9)), (hs, .inl (cA 0, 30, .inl ss9)), (hl, .inl (cA 0, 30, .inl ln9)), (hi, .inl (cA 0, 30, .inl nn9))]) (lv2 := [(0, .ref h), (2, .int en), (3, .int ou), (4, .int 3), (5, .int a), (6, .int (nI c9)), (7, .int t7), (8, .int l8), (9, .int n9)]) (st2 := [.int (if (f_Row_at n f l8) = 129 then 2 else (1)), .int l8]) (pc2 := 98) ?_ (fun kJ_10 => ?_)
        rotate_left
        · -- join at 98
          refine gw_icmp_ne (tgt := 97) S dc_Tree_cut_90 (by decide) (fun c_11 => ?_) (fun c_11 => ?_)
          · -- taken
            refine gw_iconst (v := 1) S dc_Tree_cut_97 (by decide) ?_
            refine gw_drop [3, 4, 5, 6, 7, 8, 2, 1, 0] (lv' := [(0, .ref h), (2, .int en), (3, .int ou), (4, .int 3), (5, .int a), (6, .int (nI c9)), (7, .int t7), (8, .int l8), (9, .int n9)]) rfl ?_
            exact kJ_10 _ _ _ (by simp only [if_neg c_11]) (by simp only [if_neg c_11]) (by simp only [if_neg c_11])
          · -- not
            refine gw_iconst (v := 2) S dc_Tree_cut_93 (by decide) ?_
            refine gw_goto (tgt := 98) S dc_Tree_cut_94 (by decide) ?_
            refine gw_drop [3, 4, 5, 6, 7, 8, 2, 1, 0] (lv' := [(0, .ref h), (2, .int en), (3, .int ou), (4, .int 3), (5, .int a), (6, .int (nI c9)), (7, .int t7), (8, .int l8), (9, .int n9)]) rfl ?_
            exact kJ_10 _ _ _ (by simp only [if_pos c_11]) (by simp only [if_pos c_11]) (by simp only [if_pos c_11])
        refine gw_iadd S dc_Tree_cut_98 ?_
        refine gw_topi (fun s10 hs10 => ?_)
        refine gw_istore (lv' := [(10, .int s10), (0, .ref h), (2, .int en), (3, .int ou), (4, .int 3), (5, .int a), (6, .int (nI c9)), (7, .int t7), (8, .int l8), (9, .int n9)]) S dc_Tree_cut_99 (by decide) rfl ?_
        refine gw_iload S dc_Tree_cut_101 9 rfl ?_
        refine gw_iconst (v := -1) S dc_Tree_cut_103 (by decide) ?_
        refine gw_icmp_eq (tgt := 116) S dc_Tree_cut_104 (by decide) (fun c_12 => ?_) (fun c_12 => ?_)
        · -- taken
          refine gw_iload S dc_Tree_cut_116 5 rfl ?_
          exact gw_iret (w := [(h, .inr (4, [.ref hr, .ref ht, .ref hs, .ref hl, .ref hi, .int z9])), (hr, .inr (0, [.ref hb, .int n])), (hb, .inl (cA 0, 60, .inl f)), (ht, .inl (cA 0, 30, .inl tg9)), (hs, .inl (cA 0, 30, .inl ss9)), (hl, .inl (cA 0, 30, .inl ln9)), (hi, .inl (cA 0, 30, .inl nn9))]) S g_r g_k  [0, 1, 2, 3, 4, 5, 6] rfl (by decide) ⟨(a, tg9, ss9, ln9, nn9, z9), by obtain ⟨k8, e8, e7, e6⟩ := l30_lt hc9 c_3; rw [hm9, e8]; exact (ct_S3 ht7 hl8 hn9 hs10 c_4 c_6 c_12).symm, rfl, rfl⟩ dc_Tree_cut_118
        · -- not
          refine gw_iload S dc_Tree_cut_107 9 rfl ?_
          refine gw_iload_n S dc_Tree_cut_109 rfl 2 rfl ?_
          refine gw_iload S dc_Tree_cut_110 0 rfl ?_
          refine gw_isub S dc_Tree_cut_112 ?_
          refine gw_icmp_le (tgt := 119) S dc_Tree_cut_113 (by decide) (fun c_13 => ?_) (fun c_13 => ?_)
          · -- taken
            refine gw_aload_n S dc_Tree_cut_119 rfl 1 rfl ?_
            refine gw_iload S dc_Tree_cut_120 7 rfl ?_
            refine gw_iload S dc_Tree_cut_122 0 rfl ?_
            refine gw_iload S dc_Tree_cut_124 9 rfl ?_
            refine gw_iload_n S dc_Tree_cut_126 rfl 3 rfl ?_
            refine gw_callV (As := [.int t7, .int s10, .int n9, .int ou]) (st := []) (wr := [(hr, .inr (0, [.ref hb, .int n])), (hb, .inl (cA 0, 60, .inl f))]) S hK hA (fun sz => c_Tree_keep l D cA sz h hr ht hs hl hi z9 tg9 ss9 ln9 nn9 t7 s10 n9 ou hz9) (cw_Tree_66 S.2.2.2.2 rfl rfl ⟨Nat.le_of_ble_eq_true rfl, Nat.le_of_ble_eq_true rfl⟩) [0, 3, 4, 5, 6] [1, 2] rfl (by decide) rfl (by decide) (by decide) 0 rfl rfl rfl rfl rfl (Nat.le_of_ble_eq_true rfl) dc_Tree_cut_127 ⟨Nat.le_of_ble_eq_true rfl, Nat.le_of_ble_eq_true rfl⟩ ?_
            rintro _ _ ⟨rfl, rfl⟩
            refine gw_eq (ws' := [(hr, .inr (0, [.ref hb, .int n])), (hb, .inl (cA 0, 60, .inl f)), (h, .inr (4, [.ref hr, .ref ht, .ref hs, .ref hl, .ref hi, .int (f_Tree_keep_size z9)])), (ht, .inl (cA 0, 30, .inl (f_Tree_keep_1 z9 tg9 t7))), (hs, .inl (cA 0, 30, .inl (f_Tree_keep_2 z9 ss9 s10))), (hl, .inl (cA 0, 30, .inl (f_Tree_keep_3 z9 ln9 n9))), (hi, .inl (cA 0, 30, .inl (f_Tree_keep_4 z9 nn9 ou)))]) (lv' := [(10, .int s10), (0, .ref h), (2, .int en), (3, .int ou), (4, .int 3), (5, .int a), (6, .int (nI c9)), (7, .int t7), (8, .int l8), (9, .int n9)]) (st' := [.int (f_Tree_keep z9)]) (pc' := 130) rfl rfl rfl rfl ?_
            refine gw_istore (lv' := [(11, .int (f_Tree_keep z9)), (10, .int s10), (0, .ref h), (2, .int en), (3, .int ou), (4, .int 3), (5, .int a), (6, .int (nI c9)), (7, .int t7), (8, .int l8), (9, .int n9)]) S dc_Tree_cut_130 (by decide) rfl ?_
            refine gw_iload S dc_Tree_cut_132 8 rfl ?_
            refine gw_callSR (As := [.int t7]) (st := []) S hK (c_Tag_hasInner l D cA t7 ) (cw_Tree_69 S.2.2.2.2 rfl rfl ⟨Nat.le_of_ble_eq_true rfl, Nat.le_of_ble_eq_true rfl⟩) [] rfl (by decide) rfl rfl (Nat.le_of_ble_eq_true rfl) dc_Tree_cut_134 ⟨Nat.le_of_ble_eq_true rfl, Nat.le_of_ble_eq_true rfl⟩ ?_
            rintro _ rfl
            refine gw_eq (ws' := [(hr, .inr (0, [.ref hb, .int n])), (hb, .inl (cA 0, 60, .inl f)), (h, .inr (4, [.ref hr, .ref ht, .ref hs, .ref hl, .ref hi, .int (f_Tree_keep_size z9)])), (ht, .inl (cA 0, 30, .inl (f_Tree_keep_1 z9 tg9 t7))), (hs, .inl (cA 0, 30, .inl (f_Tree_keep_2 z9 ss9 s10))), (hl, .inl (cA 0, 30, .inl (f_Tree_keep_3 z9 ln9 n9))), (hi, .inl (cA 0, 30, .inl (f_Tree_keep_4 z9 nn9 ou)))]) (lv' := [(11, .int (f_Tree_keep z9)), (10, .int s10), (0, .ref h), (2, .int en), (3, .int ou), (4, .int 3), (5, .int a), (6, .int (nI c9)), (7, .int t7), (8, .int l8), (9, .int n9)]) (st' := [.int (f_Tag_hasInner t7)]) (pc' := 137) rfl rfl rfl rfl ?_
            refine gw_if_eq (tgt := 168) S dc_Tree_cut_137 (by decide) (fun c_15 => ?_) (fun c_15 => ?_)
            · -- taken
              refine gw_iload S dc_Tree_cut_168 1 rfl ?_
              refine gw_iload S dc_Tree_cut_170 10 rfl ?_
              refine gw_iadd S dc_Tree_cut_172 ?_
              refine gw_istore (lv' := [(5, .int (s10 + n9)), (11, .int (f_Tree_keep z9)), (10, .int s10), (0, .ref h), (2, .int en), (3, .int ou), (4, .int 3), (6, .int (nI c9)), (7, .int t7), (8, .int l8), (9, .int n9)]) S dc_Tree_cut_173 (by decide) rfl ?_
              refine gw_iinc (v := (nI c9) + 1) (lv' := [(6, .int ((nI c9) + 1)), (5, .int (s10 + n9)), (11, .int (f_Tree_keep z9)), (10, .int s10), (0, .ref h), (2, .int en), (3, .int ou), (4, .int 3), (7, .int t7), (8, .int l8), (9, .int n9)]) S dc_Tree_cut_175 7 rfl rfl (by decide) rfl ?_
              refine gw_goto (tgt := 23) S dc_Tree_cut_178 (by decide) ?_
              refine gw_sub [2, 0, 1, 3, 4, 5, 6] (w := [(h, .inr (4, [.ref hr, .ref ht, .ref hs, .ref hl, .ref hi, .int (f_Tree_keep_size z9)])), (hr, .inr (0, [.ref hb, .int n])), (hb, .inl (cA 0, 60, .inl f)), (ht, .inl (cA 0, 30, .inl (f_Tree_keep_1 z9 tg9 t7))), (hs, .inl (cA 0, 30, .inl (f_Tree_keep_2 z9 ss9 s10))), (hl, .inl (cA 0, 30, .inl (f_Tree_keep_3 z9 ln9 n9))), (hi, .inl (cA 0, 30, .inl (f_Tree_keep_4 z9 nn9 ou)))]) rfl (by decide) ?_
              refine gw_drop [4, 5, 6, 7, 1, 0] (lv' := [(0, .ref h), (2, .int en), (3, .int ou), (4, .int 3), (5, .int (s10 + n9)), (6, .int ((nI c9) + 1))]) rfl ?_
              refine gw_eq (ws' := [(h, .inr (4, [.ref hr, .ref ht, .ref hs, .ref hl, .ref hi, .int (f_Tree_keep_size z9)])), (hr, .inr (0, [.ref hb, .int n])), (hb, .inl (cA 0, 60, .inl f)), (ht, .inl (cA 0, 30, .inl (f_Tree_keep_1 z9 tg9 t7))), (hs, .inl (cA 0, 30, .inl (f_Tree_keep_2 z9 ss9 s10))), (hl, .inl (cA 0, 30, .inl (f_Tree_keep_3 z9 ln9 n9))), (hi, .inl (cA 0, 30, .inl (f_Tree_keep_4 z9 nn9 ou)))]) (lv' := [(0, .ref h), (2, .int en), (3, .int ou), (4, .int 3), (5, .int (s10 + n9)), (6, .int (nI (c9 + 1)))]) (st' := []) (pc' := 23) rfl (by simp only [nI_1]) rfl rfl ?_
              exact ih_2 (c9 + 1, s10 + n9, f_Tree_keep_1 z9 tg9 t7, f_Tree_keep_2 z9 ss9 s10, f_Tree_keep_3 z9 ln9 n9, f_Tree_keep_4 z9 nn9 ou, f_Tree_keep_size z9) ⟨(by obtain ⟨k8, e8, e7, e6⟩ := l30_lt hc9 c_3; exact e6), (kp_ok hz9), (by obtain ⟨k8, e8, e7, e6⟩ := l30_lt hc9 c_3; rw [hm9, e8, e7]; exact ct_S5 ht7 hl8 hn9 hs10 c_4 c_6 c_12 c_13 c_15)⟩ (by obtain ⟨k8, e8, e7, e6⟩ := l30_lt hc9 c_3; show 30 - (c9 + 1) < 30 - c9; omega)
            · -- not
              refine gw_aload_n S dc_Tree_cut_140 rfl 2 rfl ?_
              refine gw_iload S dc_Tree_cut_141 1 rfl ?_
              refine gw_iload S dc_Tree_cut_143 1 rfl ?_
              refine gw_iload S dc_Tree_cut_145 10 rfl ?_
              refine gw_iadd S dc_Tree_cut_147 ?_
              refine gw_iload S dc_Tree_cut_148 0 rfl ?_
              refine gw_iload S dc_Tree_cut_150 5 rfl ?_
              refine gw_iconst (v := 1) S dc_Tree_cut_152 (by decide) ?_
              refine gw_iadd S dc_Tree_cut_153 ?_
              refine gw_eq (ws' := [(hr, .inr (0, [.ref hb, .int n])), (hb, .inl (cA 0, 60, .inl f)), (h, .inr (4, [.ref hr, .ref ht, .ref hs, .ref hl, .ref hi, .int (f_Tree_keep_size z9)])), (ht, .inl (cA 0, 30, .inl (f_Tree_keep_1 z9 tg9 t7))), (hs, .inl (cA 0, 30, .inl (f_Tree_keep_2 z9 ss9 s10))), (hl, .inl (cA 0, 30, .inl (f_Tree_keep_3 z9 ln9 n9))), (hi, .inl (cA 0, 30, .inl (f_Tree_keep_4 z9 nn9 ou)))]) (lv' := [(11, .int (f_Tree_keep z9)), (10, .int s10), (0, .ref h), (2, .int en), (3, .int ou), (4, .int 3), (5, .int a), (6, .int (nI c9)), (7, .int t7), (8, .int l8), (9, .int n9)]) (st' := [.int 4, .int (f_Tree_keep z9), .int (s10 + n9), .int s10, .ref h]) (pc' := 154) rfl rfl (by rw [show (3 + 1 : Int32) = 4 from by decide]) rfl ?_
              refine gw_callV (As := [.int s10, .int (s10 + n9), .int (f_Tree_keep z9), .int 4]) (st := []) (wr := []) S hK hA (fun sz => c_Tree_cut_0 l D cA sz h hr ht hs hl hi (f_Tree_keep_size z9) hb n f (f_Tree_keep_1 z9 tg9 t7) (f_Tree_keep_2 z9 ss9 s10) (f_Tree_keep_3 z9 ln9 n9) (f_Tree_keep_4 z9 nn9 ou) s10 (s10 + n9) (f_Tree_keep z9) (kp_ok hz9) (by assumption)) (cw_Tree_45 S.2.2.2.2 rfl rfl ⟨Nat.le_of_ble_eq_true rfl, Nat.le_of_ble_eq_true rfl⟩) [2, 0, 1, 3, 4, 5, 6] [] rfl (by decide) rfl (by decide) (by decide) 0 rfl rfl rfl rfl rfl (Nat.le_of_ble_eq_true rfl) dc_Tree_cut_154 ⟨Nat.le_of_ble_eq_true rfl, Nat.le_of_ble_eq_true rfl⟩ ?_
              rintro _ _ ⟨F9_16, hF_17, rfl, rfl⟩
              refine gw_eq (ws' := [(h, .inr (4, [.ref hr, .ref ht, .ref hs, .ref hl, .ref hi, .int F9_16.2.2.2.2.2])), (hr, .inr (0, [.ref hb, .int n])), (hb, .inl (cA 0, 60, .inl f)), (ht, .inl (cA 0, 30, .inl F9_16.2.1)), (hs, .inl (cA 0, 30, .inl F9_16.2.2.1)), (hl, .inl (cA 0, 30, .inl F9_16.2.2.2.1)), (hi, .inl (cA 0, 30, .inl F9_16.2.2.2.2.1))]) (lv' := [(11, .int (f_Tree_keep z9)), (10, .int s10), (0, .ref h), (2, .int en), (3, .int ou), (4, .int 3), (5, .int a), (6, .int (nI c9)), (7, .int t7), (8, .int l8), (9, .int n9)]) (st' := [.int F9_16.1]) (pc' := 157) rfl rfl rfl rfl ?_
              refine gw_istore (lv' := [(12, .int F9_16.1), (11, .int (f_Tree_keep z9)), (10, .int s10), (0, .ref h), (2, .int en), (3, .int ou), (4, .int 3), (5, .int a), (6, .int (nI c9)), (7, .int t7), (8, .int l8), (9, .int n9)]) S dc_Tree_cut_157 (by decide) rfl ?_
              refine gw_iload S dc_Tree_cut_159 0 rfl ?_
              refine gw_iconst (v := -1) S dc_Tree_cut_161 (by decide) ?_
              refine gw_icmp_eq (tgt := 168) S dc_Tree_cut_162 (by decide) (fun c_18 => ?_) (fun c_18 => ?_)
              · -- taken
                refine gw_iload S dc_Tree_cut_168 2 rfl ?_
                refine gw_iload S dc_Tree_cut_170 11 rfl ?_
                refine gw_iadd S dc_Tree_cut_172 ?_
                refine gw_istore (lv' := [(5, .int (s10 + n9)), (12, .int F9_16.1), (11, .int (f_Tree_keep z9)), (10, .int s10), (0, .ref h), (2, .int en), (3, .int ou), (4, .int 3), (6, .int (nI c9)), (7, .int t7), (8, .int l8), (9, .int n9)]) S dc_Tree_cut_173 (by decide) rfl ?_
                refine gw_iinc (v := (nI c9) + 1) (lv' := [(6, .int ((nI c9) + 1)), (5, .int (s10 + n9)), (12, .int F9_16.1), (11, .int (f_Tree_keep z9)), (10, .int s10), (0, .ref h), (2, .int en), (3, .int ou), (4, .int 3), (7, .int t7), (8, .int l8), (9, .int n9)]) S dc_Tree_cut_175 8 rfl rfl (by decide) rfl ?_
                refine gw_goto (tgt := 23) S dc_Tree_cut_178 (by decide) ?_
                refine gw_drop [5, 6, 7, 8, 1, 0] (lv' := [(0, .ref h), (2, .int en), (3, .int ou), (4, .int 3), (5, .int (s10 + n9)), (6, .int ((nI c9) + 1))]) rfl ?_
                refine gw_eq (ws' := [(h, .inr (4, [.ref hr, .ref ht, .ref hs, .ref hl, .ref hi, .int F9_16.2.2.2.2.2])), (hr, .inr (0, [.ref hb, .int n])), (hb, .inl (cA 0, 60, .inl f)), (ht, .inl (cA 0, 30, .inl F9_16.2.1)), (hs, .inl (cA 0, 30, .inl F9_16.2.2.1)), (hl, .inl (cA 0, 30, .inl F9_16.2.2.2.1)), (hi, .inl (cA 0, 30, .inl F9_16.2.2.2.2.1))]) (lv' := [(0, .ref h), (2, .int en), (3, .int ou), (4, .int 3), (5, .int (s10 + n9)), (6, .int (nI (c9 + 1)))]) (st' := []) (pc' := 23) rfl (by simp only [nI_1]) rfl rfl ?_
                exact ih_2 (c9 + 1, s10 + n9, F9_16.2.1, F9_16.2.2.1, F9_16.2.2.2.1, F9_16.2.2.2.2.1, F9_16.2.2.2.2.2) ⟨(by obtain ⟨k8, e8, e7, e6⟩ := l30_lt hc9 c_3; exact e6), (by rw [hF_17]; exact ct_Fok _ _ _ _ _ (kp_ok hz9)), (by obtain ⟨k8, e8, e7, e6⟩ := l30_lt hc9 c_3; rw [hm9, e8, e7]; exact ct_S6 ht7 hl8 hn9 hs10 c_4 c_6 c_12 c_13 c_15 hF_17 c_18)⟩ (by obtain ⟨k8, e8, e7, e6⟩ := l30_lt hc9 c_3; show 30 - (c9 + 1) < 30 - c9; omega)
              · -- not
                refine gw_iload S dc_Tree_cut_165 0 rfl ?_
                exact gw_iret (w := [(h, .inr (4, [.ref hr, .ref ht, .ref hs, .ref hl, .ref hi, .int F9_16.2.2.2.2.2])), (hr, .inr (0, [.ref hb, .int n])), (hb, .inl (cA 0, 60, .inl f)), (ht, .inl (cA 0, 30, .inl F9_16.2.1)), (hs, .inl (cA 0, 30, .inl F9_16.2.2.1)), (hl, .inl (cA 0, 30, .inl F9_16.2.2.2.1)), (hi, .inl (cA 0, 30, .inl F9_16.2.2.2.2.1))]) S g_r g_k  [0, 1, 2, 3, 4, 5, 6] rfl (by decide) ⟨F9_16, by obtain ⟨k8, e8, e7, e6⟩ := l30_lt hc9 c_3; rw [hm9, e8]; refine Eq.symm ?_; exact ct_S7 ht7 hl8 hn9 hs10 c_4 c_6 c_12 c_13 c_15 hF_17 c_18, rfl, rfl⟩ dc_Tree_cut_167
          · -- not
            refine gw_iload S dc_Tree_cut_116 5 rfl ?_
            exact gw_iret (w := [(h, .inr (4, [.ref hr, .ref ht, .ref hs, .ref hl, .ref hi, .int z9])), (hr, .inr (0, [.ref hb, .int n])), (hb, .inl (cA 0, 60, .inl f)), (ht, .inl (cA 0, 30, .inl tg9)), (hs, .inl (cA 0, 30, .inl ss9)), (hl, .inl (cA 0, 30, .inl ln9)), (hi, .inl (cA 0, 30, .inl nn9))]) S g_r g_k  [0, 1, 2, 3, 4, 5, 6] rfl (by decide) ⟨(a, tg9, ss9, ln9, nn9, z9), by obtain ⟨k8, e8, e7, e6⟩ := l30_lt hc9 c_3; rw [hm9, e8]; exact (ct_S4 ht7 hl8 hn9 hs10 c_4 c_6 c_12 c_13).symm, rfl, rfl⟩ dc_Tree_cut_118
      · -- not
        refine gw_iload S dc_Tree_cut_54 5 rfl ?_
        exact gw_iret (w := [(h, .inr (4, [.ref hr, .ref ht, .ref hs, .ref hl, .ref hi, .int z9])), (hr, .inr (0, [.ref hb, .int n])), (hb, .inl (cA 0, 60, .inl f)), (ht, .inl (cA 0, 30, .inl tg9)), (hs, .inl (cA 0, 30, .inl ss9)), (hl, .inl (cA 0, 30, .inl ln9)), (hi, .inl (cA 0, 30, .inl nn9))]) S g_r g_k  [0, 1, 2, 3, 4, 5, 6] rfl (by decide) ⟨(a, tg9, ss9, ln9, nn9, z9), by obtain ⟨k8, e8, e7, e6⟩ := l30_lt hc9 c_3; rw [hm9, e8]; exact (ct_L2 ht7 c_4 c_6).symm, rfl, rfl⟩ dc_Tree_cut_56
set_option maxRecDepth 100000 in
set_option maxHeartbeats 4000000 in
theorem c_Tree_cut_2 (l : Launch) (D : va_G) (cA : Nat → ClassId) (sz : Nat) (h : Nat) (hr : Nat) (ht : Nat) (hs : Nat) (hl : Nat) (hi : Nat) (z : Int32) (hb : Nat) (n : Int32) (f : Nat → Int32) (tg : Nat → Int32) (ss : Nat → Int32) (ln : Nat → Int32) (nn : Nat → Int32) (fr : Int32) (en : Int32) (ou : Int32) (hz : rw_ok z 30) (hN : rw_ok n 60) : ct_M l D cA yn_Tree_cut cd_Tree_cut 5 0 0 sz [.ref h, .int fr, .int en, .int ou, .int 2] [(h, .inr (4, [.ref hr, .ref ht, .ref hs, .ref hl, .ref hi, .int z])), (hr, .inr (0, [.ref hb, .int n])), (hb, .inl (cA 0, 60, .inl f)), (ht, .inl (cA 0, 30, .inl tg)), (hs, .inl (cA 0, 30, .inl ss)), (hl, .inl (cA 0, 30, .inl ln)), (hi, .inl (cA 0, 30, .inl nn))] (fun v_ w_ => ∃ (F9 : Int32 × tt_T), F9 = ct_F n f 2 fr en ou (tg, ss, ln, nn, z) ∧ v_ = some (.int F9.1) ∧ w_ = [(h, .inr (4, [.ref hr, .ref ht, .ref hs, .ref hl, .ref hi, .int F9.2.2.2.2.2])), (hr, .inr (0, [.ref hb, .int n])), (hb, .inl (cA 0, 60, .inl f)), (ht, .inl (cA 0, 30, .inl F9.2.1)), (hs, .inl (cA 0, 30, .inl F9.2.2.1)), (hl, .inl (cA 0, 30, .inl F9.2.2.2.1)), (hi, .inl (cA 0, 30, .inl F9.2.2.2.2.1))]) := by
  refine gw_met (by decide) rfl (Nat.le_of_ble_eq_true rfl) ?_
  intro p_ e_ s_ m_ args_ below_ meth_ c_ A_ S g_r g_k g_n hK hA
  refine gw_eq (ws' := [(h, .inr (4, [.ref hr, .ref ht, .ref hs, .ref hl, .ref hi, .int z])), (hr, .inr (0, [.ref hb, .int n])), (hb, .inl (cA 0, 60, .inl f)), (ht, .inl (cA 0, 30, .inl tg)), (hs, .inl (cA 0, 30, .inl ss)), (hl, .inl (cA 0, 30, .inl ln)), (hi, .inl (cA 0, 30, .inl nn))]) (lv' := [(0, .ref h), (1, .int fr), (2, .int en), (3, .int ou), (4, .int 2)]) (st' := []) (pc' := 0) rfl rfl rfl rfl ?_
  refine gw_iload S dc_Tree_cut_0 4 rfl ?_
  refine gw_iconst (v := 3) S dc_Tree_cut_2 (by decide) ?_
  refine gw_icmp_le (tgt := 17) S dc_Tree_cut_3 (by decide) (fun c_1 => ?_) (fun c_1 => by exact absurd c_1 (by decide))
  refine gw_iload_n S dc_Tree_cut_17 rfl 1 rfl ?_
  refine gw_istore (lv' := [(5, .int fr), (0, .ref h), (1, .int fr), (2, .int en), (3, .int ou), (4, .int 2)]) S dc_Tree_cut_18 (by decide) rfl ?_
  refine gw_iconst (v := 0) S dc_Tree_cut_20 (by decide) ?_
  refine gw_istore (lv' := [(6, .int 0), (5, .int fr), (0, .ref h), (1, .int fr), (2, .int en), (3, .int ou), (4, .int 2)]) S dc_Tree_cut_21 (by decide) rfl ?_
  refine gw_drop [2, 4, 5, 6, 1, 0] (lv' := [(0, .ref h), (2, .int en), (3, .int ou), (4, .int 2), (5, .int fr), (6, .int 0)]) rfl ?_
  refine gw_loop (σ := Nat × Int32 × (Nat → Int32) × (Nat → Int32) × (Nat → Int32) × (Nat → Int32) × Int32) (fun (x_ : Nat × Int32 × (Nat → Int32) × (Nat → Int32) × (Nat → Int32) × (Nat → Int32) × Int32) => match x_ with | (c9, a, tg9, ss9, ln9, nn9, z9) => (c9 ≤ 30) ∧ (rw_ok z9 30) ∧ (ct_F n f 2 fr en ou (tg, ss, ln, nn, z) = ct_L n f (ct_F n f 1) en ou (30 - c9) a (tg9, ss9, ln9, nn9, z9))) (fun (x_ : Nat × Int32 × (Nat → Int32) × (Nat → Int32) × (Nat → Int32) × (Nat → Int32) × Int32) => match x_ with | (c9, a, tg9, ss9, ln9, nn9, z9) => 30 - c9) (fun (x_ : Nat × Int32 × (Nat → Int32) × (Nat → Int32) × (Nat → Int32) × (Nat → Int32) × Int32) => match x_ with | (c9, a, tg9, ss9, ln9, nn9, z9) => [(h, .inr (4, [.ref hr, .ref ht, .ref hs, .ref hl, .ref hi, .int z9])), (hr, .inr (0, [.ref hb, .int n])), (hb, .inl (cA 0, 60, .inl f)), (ht, .inl (cA 0, 30, .inl tg9)), (hs, .inl (cA 0, 30, .inl ss9)), (hl, .inl (cA 0, 30, .inl ln9)), (hi, .inl (cA 0, 30, .inl nn9))]) (fun (x_ : Nat × Int32 × (Nat → Int32) × (Nat → Int32) × (Nat → Int32) × (Nat → Int32) × Int32) => match x_ with | (c9, a, tg9, ss9, ln9, nn9, z9) => [(0, .ref h), (2, .int en), (3, .int ou), (4, .int 2), (5, .int a), (6, .int (nI c9))]) ?_ (0, fr, tg, ss, ln, nn, z) ?_ rfl rfl
  rotate_left
  · exact ⟨Nat.zero_le _, hz, rfl⟩
  rintro ⟨c9, a, tg9, ss9, ln9, nn9, z9⟩ ⟨hc9, hz9, hm9⟩ ih_2
  refine gw_eq (ws' := [(h, .inr (4, [.ref hr, .ref ht, .ref hs, .ref hl, .ref hi, .int z9])), (hr, .inr (0, [.ref hb, .int n])), (hb, .inl (cA 0, 60, .inl f)), (ht, .inl (cA 0, 30, .inl tg9)), (hs, .inl (cA 0, 30, .inl ss9)), (hl, .inl (cA 0, 30, .inl ln9)), (hi, .inl (cA 0, 30, .inl nn9))]) (lv' := [(0, .ref h), (2, .int en), (3, .int ou), (4, .int 2), (5, .int a), (6, .int (nI c9))]) (st' := []) (pc' := 23) rfl rfl rfl rfl ?_
  refine gw_iload S dc_Tree_cut_23 5 rfl ?_
  refine gw_bipush (v := 30) S dc_Tree_cut_25 (by decide) ?_
  refine gw_icmp_ge (tgt := 181) S dc_Tree_cut_27 (by decide) (fun c_3 => ?_) (fun c_3 => ?_)
  · -- taken
    refine gw_iconst (v := -1) S dc_Tree_cut_181 (by decide) ?_
    exact gw_iret (w := [(h, .inr (4, [.ref hr, .ref ht, .ref hs, .ref hl, .ref hi, .int z9])), (hr, .inr (0, [.ref hb, .int n])), (hb, .inl (cA 0, 60, .inl f)), (ht, .inl (cA 0, 30, .inl tg9)), (hs, .inl (cA 0, 30, .inl ss9)), (hl, .inl (cA 0, 30, .inl ln9)), (hi, .inl (cA 0, 30, .inl nn9))]) S g_r g_k  [0, 1, 2, 3, 4, 5, 6] rfl (by decide) ⟨(-1, tg9, ss9, ln9, nn9, z9), by rw [hm9, l30_ge hc9 c_3]; rfl, rfl, rfl⟩ dc_Tree_cut_182
  · -- not
    refine gw_iload S dc_Tree_cut_30 4 rfl ?_
    refine gw_iload_n S dc_Tree_cut_32 rfl 1 rfl ?_
    refine gw_icmp_ge (tgt := 181) S dc_Tree_cut_33 (by decide) (fun c_4 => ?_) (fun c_4 => ?_)
    · -- taken
      refine gw_iconst (v := -1) S dc_Tree_cut_181 (by decide) ?_
      exact gw_iret (w := [(h, .inr (4, [.ref hr, .ref ht, .ref hs, .ref hl, .ref hi, .int z9])), (hr, .inr (0, [.ref hb, .int n])), (hb, .inl (cA 0, 60, .inl f)), (ht, .inl (cA 0, 30, .inl tg9)), (hs, .inl (cA 0, 30, .inl ss9)), (hl, .inl (cA 0, 30, .inl ln9)), (hi, .inl (cA 0, 30, .inl nn9))]) S g_r g_k  [0, 1, 2, 3, 4, 5, 6] rfl (by decide) ⟨(-1, tg9, ss9, ln9, nn9, z9), by obtain ⟨k8, e8, e7, e6⟩ := l30_lt hc9 c_3; rw [hm9, e8]; exact (ct_L1 c_4).symm, rfl, rfl⟩ dc_Tree_cut_182
    · -- not
      refine gw_aload_n S dc_Tree_cut_36 rfl 0 rfl ?_
      refine gw_get S hK.1 ic_Tree rfl 0 (by decide) (gw_lk S mw_169) 0 rfl rfl dc_Tree_cut_37 ?_
      refine gw_iload S dc_Tree_cut_40 4 rfl ?_
      refine gw_iload_n S dc_Tree_cut_42 rfl 1 rfl ?_
      refine gw_callSR (As := [.ref hr, .int a, .int en]) (st := []) S hK (c_Tag_read l D cA hr hb n 60 f a en (by assumption)) (cw_Tree_49 S.2.2.2.2 rfl rfl ⟨Nat.le_of_ble_eq_true rfl, Nat.le_of_ble_eq_true rfl⟩) [1, 2] rfl (by decide) rfl rfl (Nat.le_of_ble_eq_true rfl) dc_Tree_cut_43 ⟨Nat.le_of_ble_eq_true rfl, Nat.le_of_ble_eq_true rfl⟩ ?_
      rintro _ rfl
      refine gw_eq (ws' := [(h, .inr (4, [.ref hr, .ref ht, .ref hs, .ref hl, .ref hi, .int z9])), (hr, .inr (0, [.ref hb, .int n])), (hb, .inl (cA 0, 60, .inl f)), (ht, .inl (cA 0, 30, .inl tg9)), (hs, .inl (cA 0, 30, .inl ss9)), (hl, .inl (cA 0, 30, .inl ln9)), (hi, .inl (cA 0, 30, .inl nn9))]) (lv' := [(0, .ref h), (2, .int en), (3, .int ou), (4, .int 2), (5, .int a), (6, .int (nI c9))]) (st' := [.int (f_Tag_read n f a en)]) (pc' := 46) rfl rfl rfl rfl ?_
      refine gw_topi (fun t7 ht7 => ?_)
      refine gw_istore (lv' := [(7, .int t7), (0, .ref h), (2, .int en), (3, .int ou), (4, .int 2), (5, .int a), (6, .int (nI c9))]) S dc_Tree_cut_46 (by decide) rfl ?_
      refine gw_iload S dc_Tree_cut_48 0 rfl ?_
      refine gw_iconst (v := -1) S dc_Tree_cut_50 (by decide) ?_
      refine gw_icmp_ne (tgt := 57) S dc_Tree_cut_51 (by decide) (fun c_6 => ?_) (fun c_6 => ?_)
      · -- taken
        refine gw_iload S dc_Tree_cut_57 5 rfl ?_
        refine gw_iload S dc_Tree_cut_59 0 rfl ?_
        refine gw_callSR (As := [.int t7]) (st := [.int a]) S hK (c_Tag_bytesOf l D cA t7 ) (cw_Tree_55 S.2.2.2.2 rfl rfl ⟨Nat.le_of_ble_eq_true rfl, Nat.le_of_ble_eq_true rfl⟩) [] rfl (by decide) rfl rfl (Nat.le_of_ble_eq_true rfl) dc_Tree_cut_61 ⟨Nat.le_of_ble_eq_true rfl, Nat.le_of_ble_eq_true rfl⟩ ?_
        rintro _ rfl
        refine gw_eq (ws' := [(h, .inr (4, [.ref hr, .ref ht, .ref hs, .ref hl, .ref hi, .int z9])), (hr, .inr (0, [.ref hb, .int n])), (hb, .inl (cA 0, 60, .inl f)), (ht, .inl (cA 0, 30, .inl tg9)), (hs, .inl (cA 0, 30, .inl ss9)), (hl, .inl (cA 0, 30, .inl ln9)), (hi, .inl (cA 0, 30, .inl nn9))]) (lv' := [(7, .int t7), (0, .ref h), (2, .int en), (3, .int ou), (4, .int 2), (5, .int a), (6, .int (nI c9))]) (st' := [.int (f_Tag_bytesOf t7), .int a]) (pc' := 64) rfl rfl rfl rfl ?_
        refine gw_iadd S dc_Tree_cut_64 ?_
        refine gw_topi (fun l8 hl8 => ?_)
        refine gw_istore (lv' := [(8, .int l8), (7, .int t7), (0, .ref h), (2, .int en), (3, .int ou), (4, .int 2), (5, .int a), (6, .int (nI c9))]) S dc_Tree_cut_65 (by decide) rfl ?_
        refine gw_aload_n S dc_Tree_cut_67 rfl 2 rfl ?_
        refine gw_iload S dc_Tree_cut_68 0 rfl ?_
        refine gw_iload_n S dc_Tree_cut_70 rfl 3 rfl ?_
        refine gw_callVR (As := [.int l8, .int en]) (st := []) S hK (c_Tree_readLength l D cA h hr ht hs hl hi z9 hb n f l8 en (by assumption)) (cw_Tree_59 S.2.2.2.2 rfl rfl ⟨Nat.le_of_ble_eq_true rfl, Nat.le_of_ble_eq_true rfl⟩) [0, 1, 2] rfl (by decide) 0 rfl rfl rfl rfl rfl (Nat.le_of_ble_eq_true rfl) dc_Tree_cut_71 ⟨Nat.le_of_ble_eq_true rfl, Nat.le_of_ble_eq_true rfl⟩ ?_
        rintro _ rfl
        refine gw_eq (ws' := [(h, .inr (4, [.ref hr, .ref ht, .ref hs, .ref hl, .ref hi, .int z9])), (hr, .inr (0, [.ref hb, .int n])), (hb, .inl (cA 0, 60, .inl f)), (ht, .inl (cA 0, 30, .inl tg9)), (hs, .inl (cA 0, 30, .inl ss9)), (hl, .inl (cA 0, 30, .inl ln9)), (hi, .inl (cA 0, 30, .inl nn9))]) (lv' := [(8, .int l8), (7, .int t7), (0, .ref h), (2, .int en), (3, .int ou), (4, .int 2), (5, .int a), (6, .int (nI c9))]) (st' := [.int (f_Tree_readLength n f l8 en)]) (pc' := 74) rfl rfl rfl rfl ?_
        refine gw_topi (fun n9 hn9 => ?_)
        refine gw_istore (lv' := [(9, .int n9), (8, .int l8), (7, .int t7), (0, .ref h), (2, .int en), (3, .int ou), (4, .int 2), (5, .int a), (6, .int (nI c9))]) S dc_Tree_cut_74 (by decide) rfl ?_
        refine gw_iload S dc_Tree_cut_76 1 rfl ?_
        refine gw_aload_n S dc_Tree_cut_78 rfl 3 rfl ?_
        refine gw_get S hK.1 ic_Tree rfl 0 (by decide) (gw_lk S mw_169) 0 rfl rfl dc_Tree_cut_79 ?_
        refine gw_iload S dc_Tree_cut_82 1 rfl ?_
        refine gw_callVR (As := [.int l8]) (st := [.int l8]) S hK (c_Row_at l D cA hr hb n 60 f l8 (by assumption)) (cw_Tree_63 S.2.2.2.2 rfl rfl ⟨Nat.le_of_ble_eq_true rfl, Nat.le_of_ble_eq_true rfl⟩) [1, 2] rfl (by decide) 0 rfl rfl rfl rfl rfl (Nat.le_of_ble_eq_true rfl) dc_Tree_cut_84 ⟨Nat.le_of_ble_eq_true rfl, Nat.le_of_ble_eq_true rfl⟩ ?_
        rintro _ rfl
        refine gw_eq (ws' := [(h, .inr (4, [.ref hr, .ref ht, .ref hs, .ref hl, .ref hi, .int z9])), (hr, .inr (0, [.ref hb, .int n])), (hb, .inl (cA 0, 60, .inl f)), (ht, .inl (cA 0, 30, .inl tg9)), (hs, .inl (cA 0, 30, .inl ss9)), (hl, .inl (cA 0, 30, .inl ln9)), (hi, .inl (cA 0, 30, .inl nn9))]) (lv' := [(9, .int n9), (8, .int l8), (7, .int t7), (0, .ref h), (2, .int en), (3, .int ou), (4, .int 2), (5, .int a), (6, .int (nI c9))]) (st' := [.int (f_Row_at n f l8), .int l8]) (pc' := 87) rfl rfl rfl rfl ?_
        refine gw_sipush (v := 129) S dc_Tree_cut_87 (by decide) ?_
        refine gw_jw (ws2 := [(h, .inr (4, [.ref hr, .ref ht, .ref hs, .ref hl, .ref hi, .int z9])), (hr, .inr (0, [.ref hb, .int n])), (hb, .inl (cA 0, 60, .inl f)), (ht, .inl (cA 0, 30, .inl tg9)), (hs, .inl (cA 0, 30, .inl ss9)), (hl, .inl (cA 0, 30, .inl ln9)), (hi, .inl (cA 0, 30, .inl nn9))]) (lv2 := [(0, .ref h), (2, .int en), (3, .int ou), (4, .int 2), (5, .int a), (6, .int (nI c9)), (7, .int t7), (8, .int l8), (9, .int n9)]) (st2 := [.int (if (f_Row_at n f l8) = 129 then 2 else (1)), .int l8]) (pc2 := 98) ?_ (fun kJ_10 => ?_)
        rotate_left
        · -- join at 98
          refine gw_icmp_ne (tgt := 97) S dc_Tree_cut_90 (by decide) (fun c_11 => ?_) (fun c_11 => ?_)
          · -- taken
            refine gw_iconst (v := 1) S dc_Tree_cut_97 (by decide) ?_
            refine gw_drop [3, 4, 5, 6, 7, 8, 2, 1, 0] (lv' := [(0, .ref h), (2, .int en), (3, .int ou), (4, .int 2), (5, .int a), (6, .int (nI c9)), (7, .int t7), (8, .int l8), (9, .int n9)]) rfl ?_
            exact kJ_10 _ _ _ (by simp only [if_neg c_11]) (by simp only [if_neg c_11]) (by simp only [if_neg c_11])
          · -- not
            refine gw_iconst (v := 2) S dc_Tree_cut_93 (by decide) ?_
            refine gw_goto (tgt := 98) S dc_Tree_cut_94 (by decide) ?_
            refine gw_drop [3, 4, 5, 6, 7, 8, 2, 1, 0] (lv' := [(0, .ref h), (2, .int en), (3, .int ou), (4, .int 2), (5, .int a), (6, .int (nI c9)), (7, .int t7), (8, .int l8), (9, .int n9)]) rfl ?_
            exact kJ_10 _ _ _ (by simp only [if_pos c_11]) (by simp only [if_pos c_11]) (by simp only [if_pos c_11])
        refine gw_iadd S dc_Tree_cut_98 ?_
        refine gw_topi (fun s10 hs10 => ?_)
        refine gw_istore (lv' := [(10, .int s10), (0, .ref h), (2, .int en), (3, .int ou), (4, .int 2), (5, .int a), (6, .int (nI c9)), (7, .int t7), (8, .int l8), (9, .int n9)]) S dc_Tree_cut_99 (by decide) rfl ?_
        refine gw_iload S dc_Tree_cut_101 9 rfl ?_
        refine gw_iconst (v := -1) S dc_Tree_cut_103 (by decide) ?_
        refine gw_icmp_eq (tgt := 116) S dc_Tree_cut_104 (by decide) (fun c_12 => ?_) (fun c_12 => ?_)
        · -- taken
          refine gw_iload S dc_Tree_cut_116 5 rfl ?_
          exact gw_iret (w := [(h, .inr (4, [.ref hr, .ref ht, .ref hs, .ref hl, .ref hi, .int z9])), (hr, .inr (0, [.ref hb, .int n])), (hb, .inl (cA 0, 60, .inl f)), (ht, .inl (cA 0, 30, .inl tg9)), (hs, .inl (cA 0, 30, .inl ss9)), (hl, .inl (cA 0, 30, .inl ln9)), (hi, .inl (cA 0, 30, .inl nn9))]) S g_r g_k  [0, 1, 2, 3, 4, 5, 6] rfl (by decide) ⟨(a, tg9, ss9, ln9, nn9, z9), by obtain ⟨k8, e8, e7, e6⟩ := l30_lt hc9 c_3; rw [hm9, e8]; exact (ct_S3 ht7 hl8 hn9 hs10 c_4 c_6 c_12).symm, rfl, rfl⟩ dc_Tree_cut_118
        · -- not
          refine gw_iload S dc_Tree_cut_107 9 rfl ?_
          refine gw_iload_n S dc_Tree_cut_109 rfl 2 rfl ?_
          refine gw_iload S dc_Tree_cut_110 0 rfl ?_
          refine gw_isub S dc_Tree_cut_112 ?_
          refine gw_icmp_le (tgt := 119) S dc_Tree_cut_113 (by decide) (fun c_13 => ?_) (fun c_13 => ?_)
          · -- taken
            refine gw_aload_n S dc_Tree_cut_119 rfl 1 rfl ?_
            refine gw_iload S dc_Tree_cut_120 7 rfl ?_
            refine gw_iload S dc_Tree_cut_122 0 rfl ?_
            refine gw_iload S dc_Tree_cut_124 9 rfl ?_
            refine gw_iload_n S dc_Tree_cut_126 rfl 3 rfl ?_
            refine gw_callV (As := [.int t7, .int s10, .int n9, .int ou]) (st := []) (wr := [(hr, .inr (0, [.ref hb, .int n])), (hb, .inl (cA 0, 60, .inl f))]) S hK hA (fun sz => c_Tree_keep l D cA sz h hr ht hs hl hi z9 tg9 ss9 ln9 nn9 t7 s10 n9 ou hz9) (cw_Tree_66 S.2.2.2.2 rfl rfl ⟨Nat.le_of_ble_eq_true rfl, Nat.le_of_ble_eq_true rfl⟩) [0, 3, 4, 5, 6] [1, 2] rfl (by decide) rfl (by decide) (by decide) 0 rfl rfl rfl rfl rfl (Nat.le_of_ble_eq_true rfl) dc_Tree_cut_127 ⟨Nat.le_of_ble_eq_true rfl, Nat.le_of_ble_eq_true rfl⟩ ?_
            rintro _ _ ⟨rfl, rfl⟩
            refine gw_eq (ws' := [(hr, .inr (0, [.ref hb, .int n])), (hb, .inl (cA 0, 60, .inl f)), (h, .inr (4, [.ref hr, .ref ht, .ref hs, .ref hl, .ref hi, .int (f_Tree_keep_size z9)])), (ht, .inl (cA 0, 30, .inl (f_Tree_keep_1 z9 tg9 t7))), (hs, .inl (cA 0, 30, .inl (f_Tree_keep_2 z9 ss9 s10))), (hl, .inl (cA 0, 30, .inl (f_Tree_keep_3 z9 ln9 n9))), (hi, .inl (cA 0, 30, .inl (f_Tree_keep_4 z9 nn9 ou)))]) (lv' := [(10, .int s10), (0, .ref h), (2, .int en), (3, .int ou), (4, .int 2), (5, .int a), (6, .int (nI c9)), (7, .int t7), (8, .int l8), (9, .int n9)]) (st' := [.int (f_Tree_keep z9)]) (pc' := 130) rfl rfl rfl rfl ?_
            refine gw_istore (lv' := [(11, .int (f_Tree_keep z9)), (10, .int s10), (0, .ref h), (2, .int en), (3, .int ou), (4, .int 2), (5, .int a), (6, .int (nI c9)), (7, .int t7), (8, .int l8), (9, .int n9)]) S dc_Tree_cut_130 (by decide) rfl ?_
            refine gw_iload S dc_Tree_cut_132 8 rfl ?_
            refine gw_callSR (As := [.int t7]) (st := []) S hK (c_Tag_hasInner l D cA t7 ) (cw_Tree_69 S.2.2.2.2 rfl rfl ⟨Nat.le_of_ble_eq_true rfl, Nat.le_of_ble_eq_true rfl⟩) [] rfl (by decide) rfl rfl (Nat.le_of_ble_eq_true rfl) dc_Tree_cut_134 ⟨Nat.le_of_ble_eq_true rfl, Nat.le_of_ble_eq_true rfl⟩ ?_
            rintro _ rfl
            refine gw_eq (ws' := [(hr, .inr (0, [.ref hb, .int n])), (hb, .inl (cA 0, 60, .inl f)), (h, .inr (4, [.ref hr, .ref ht, .ref hs, .ref hl, .ref hi, .int (f_Tree_keep_size z9)])), (ht, .inl (cA 0, 30, .inl (f_Tree_keep_1 z9 tg9 t7))), (hs, .inl (cA 0, 30, .inl (f_Tree_keep_2 z9 ss9 s10))), (hl, .inl (cA 0, 30, .inl (f_Tree_keep_3 z9 ln9 n9))), (hi, .inl (cA 0, 30, .inl (f_Tree_keep_4 z9 nn9 ou)))]) (lv' := [(11, .int (f_Tree_keep z9)), (10, .int s10), (0, .ref h), (2, .int en), (3, .int ou), (4, .int 2), (5, .int a), (6, .int (nI c9)), (7, .int t7), (8, .int l8), (9, .int n9)]) (st' := [.int (f_Tag_hasInner t7)]) (pc' := 137) rfl rfl rfl rfl ?_
            refine gw_if_eq (tgt := 168) S dc_Tree_cut_137 (by decide) (fun c_15 => ?_) (fun c_15 => ?_)
            · -- taken
              refine gw_iload S dc_Tree_cut_168 1 rfl ?_
              refine gw_iload S dc_Tree_cut_170 10 rfl ?_
              refine gw_iadd S dc_Tree_cut_172 ?_
              refine gw_istore (lv' := [(5, .int (s10 + n9)), (11, .int (f_Tree_keep z9)), (10, .int s10), (0, .ref h), (2, .int en), (3, .int ou), (4, .int 2), (6, .int (nI c9)), (7, .int t7), (8, .int l8), (9, .int n9)]) S dc_Tree_cut_173 (by decide) rfl ?_
              refine gw_iinc (v := (nI c9) + 1) (lv' := [(6, .int ((nI c9) + 1)), (5, .int (s10 + n9)), (11, .int (f_Tree_keep z9)), (10, .int s10), (0, .ref h), (2, .int en), (3, .int ou), (4, .int 2), (7, .int t7), (8, .int l8), (9, .int n9)]) S dc_Tree_cut_175 7 rfl rfl (by decide) rfl ?_
              refine gw_goto (tgt := 23) S dc_Tree_cut_178 (by decide) ?_
              refine gw_sub [2, 0, 1, 3, 4, 5, 6] (w := [(h, .inr (4, [.ref hr, .ref ht, .ref hs, .ref hl, .ref hi, .int (f_Tree_keep_size z9)])), (hr, .inr (0, [.ref hb, .int n])), (hb, .inl (cA 0, 60, .inl f)), (ht, .inl (cA 0, 30, .inl (f_Tree_keep_1 z9 tg9 t7))), (hs, .inl (cA 0, 30, .inl (f_Tree_keep_2 z9 ss9 s10))), (hl, .inl (cA 0, 30, .inl (f_Tree_keep_3 z9 ln9 n9))), (hi, .inl (cA 0, 30, .inl (f_Tree_keep_4 z9 nn9 ou)))]) rfl (by decide) ?_
              refine gw_drop [4, 5, 6, 7, 1, 0] (lv' := [(0, .ref h), (2, .int en), (3, .int ou), (4, .int 2), (5, .int (s10 + n9)), (6, .int ((nI c9) + 1))]) rfl ?_
              refine gw_eq (ws' := [(h, .inr (4, [.ref hr, .ref ht, .ref hs, .ref hl, .ref hi, .int (f_Tree_keep_size z9)])), (hr, .inr (0, [.ref hb, .int n])), (hb, .inl (cA 0, 60, .inl f)), (ht, .inl (cA 0, 30, .inl (f_Tree_keep_1 z9 tg9 t7))), (hs, .inl (cA 0, 30, .inl (f_Tree_keep_2 z9 ss9 s10))), (hl, .inl (cA 0, 30, .inl (f_Tree_keep_3 z9 ln9 n9))), (hi, .inl (cA 0, 30, .inl (f_Tree_keep_4 z9 nn9 ou)))]) (lv' := [(0, .ref h), (2, .int en), (3, .int ou), (4, .int 2), (5, .int (s10 + n9)), (6, .int (nI (c9 + 1)))]) (st' := []) (pc' := 23) rfl (by simp only [nI_1]) rfl rfl ?_
              exact ih_2 (c9 + 1, s10 + n9, f_Tree_keep_1 z9 tg9 t7, f_Tree_keep_2 z9 ss9 s10, f_Tree_keep_3 z9 ln9 n9, f_Tree_keep_4 z9 nn9 ou, f_Tree_keep_size z9) ⟨(by obtain ⟨k8, e8, e7, e6⟩ := l30_lt hc9 c_3; exact e6), (kp_ok hz9), (by obtain ⟨k8, e8, e7, e6⟩ := l30_lt hc9 c_3; rw [hm9, e8, e7]; exact ct_S5 ht7 hl8 hn9 hs10 c_4 c_6 c_12 c_13 c_15)⟩ (by obtain ⟨k8, e8, e7, e6⟩ := l30_lt hc9 c_3; show 30 - (c9 + 1) < 30 - c9; omega)
            · -- not
              refine gw_aload_n S dc_Tree_cut_140 rfl 2 rfl ?_
              refine gw_iload S dc_Tree_cut_141 1 rfl ?_
              refine gw_iload S dc_Tree_cut_143 1 rfl ?_
              refine gw_iload S dc_Tree_cut_145 10 rfl ?_
              refine gw_iadd S dc_Tree_cut_147 ?_
              refine gw_iload S dc_Tree_cut_148 0 rfl ?_
              refine gw_iload S dc_Tree_cut_150 5 rfl ?_
              refine gw_iconst (v := 1) S dc_Tree_cut_152 (by decide) ?_
              refine gw_iadd S dc_Tree_cut_153 ?_
              refine gw_eq (ws' := [(hr, .inr (0, [.ref hb, .int n])), (hb, .inl (cA 0, 60, .inl f)), (h, .inr (4, [.ref hr, .ref ht, .ref hs, .ref hl, .ref hi, .int (f_Tree_keep_size z9)])), (ht, .inl (cA 0, 30, .inl (f_Tree_keep_1 z9 tg9 t7))), (hs, .inl (cA 0, 30, .inl (f_Tree_keep_2 z9 ss9 s10))), (hl, .inl (cA 0, 30, .inl (f_Tree_keep_3 z9 ln9 n9))), (hi, .inl (cA 0, 30, .inl (f_Tree_keep_4 z9 nn9 ou)))]) (lv' := [(11, .int (f_Tree_keep z9)), (10, .int s10), (0, .ref h), (2, .int en), (3, .int ou), (4, .int 2), (5, .int a), (6, .int (nI c9)), (7, .int t7), (8, .int l8), (9, .int n9)]) (st' := [.int 3, .int (f_Tree_keep z9), .int (s10 + n9), .int s10, .ref h]) (pc' := 154) rfl rfl (by rw [show (2 + 1 : Int32) = 3 from by decide]) rfl ?_
              refine gw_callV (As := [.int s10, .int (s10 + n9), .int (f_Tree_keep z9), .int 3]) (st := []) (wr := []) S hK hA (fun sz => c_Tree_cut_1 l D cA sz h hr ht hs hl hi (f_Tree_keep_size z9) hb n f (f_Tree_keep_1 z9 tg9 t7) (f_Tree_keep_2 z9 ss9 s10) (f_Tree_keep_3 z9 ln9 n9) (f_Tree_keep_4 z9 nn9 ou) s10 (s10 + n9) (f_Tree_keep z9) (kp_ok hz9) (by assumption)) (cw_Tree_45 S.2.2.2.2 rfl rfl ⟨Nat.le_of_ble_eq_true rfl, Nat.le_of_ble_eq_true rfl⟩) [2, 0, 1, 3, 4, 5, 6] [] rfl (by decide) rfl (by decide) (by decide) 0 rfl rfl rfl rfl rfl (Nat.le_of_ble_eq_true rfl) dc_Tree_cut_154 ⟨Nat.le_of_ble_eq_true rfl, Nat.le_of_ble_eq_true rfl⟩ ?_
              rintro _ _ ⟨F9_16, hF_17, rfl, rfl⟩
              refine gw_eq (ws' := [(h, .inr (4, [.ref hr, .ref ht, .ref hs, .ref hl, .ref hi, .int F9_16.2.2.2.2.2])), (hr, .inr (0, [.ref hb, .int n])), (hb, .inl (cA 0, 60, .inl f)), (ht, .inl (cA 0, 30, .inl F9_16.2.1)), (hs, .inl (cA 0, 30, .inl F9_16.2.2.1)), (hl, .inl (cA 0, 30, .inl F9_16.2.2.2.1)), (hi, .inl (cA 0, 30, .inl F9_16.2.2.2.2.1))]) (lv' := [(11, .int (f_Tree_keep z9)), (10, .int s10), (0, .ref h), (2, .int en), (3, .int ou), (4, .int 2), (5, .int a), (6, .int (nI c9)), (7, .int t7), (8, .int l8), (9, .int n9)]) (st' := [.int F9_16.1]) (pc' := 157) rfl rfl rfl rfl ?_
              refine gw_istore (lv' := [(12, .int F9_16.1), (11, .int (f_Tree_keep z9)), (10, .int s10), (0, .ref h), (2, .int en), (3, .int ou), (4, .int 2), (5, .int a), (6, .int (nI c9)), (7, .int t7), (8, .int l8), (9, .int n9)]) S dc_Tree_cut_157 (by decide) rfl ?_
              refine gw_iload S dc_Tree_cut_159 0 rfl ?_
              refine gw_iconst (v := -1) S dc_Tree_cut_161 (by decide) ?_
              refine gw_icmp_eq (tgt := 168) S dc_Tree_cut_162 (by decide) (fun c_18 => ?_) (fun c_18 => ?_)
              · -- taken
                refine gw_iload S dc_Tree_cut_168 2 rfl ?_
                refine gw_iload S dc_Tree_cut_170 11 rfl ?_
                refine gw_iadd S dc_Tree_cut_172 ?_
                refine gw_istore (lv' := [(5, .int (s10 + n9)), (12, .int F9_16.1), (11, .int (f_Tree_keep z9)), (10, .int s10), (0, .ref h), (2, .int en), (3, .int ou), (4, .int 2), (6, .int (nI c9)), (7, .int t7), (8, .int l8), (9, .int n9)]) S dc_Tree_cut_173 (by decide) rfl ?_
                refine gw_iinc (v := (nI c9) + 1) (lv' := [(6, .int ((nI c9) + 1)), (5, .int (s10 + n9)), (12, .int F9_16.1), (11, .int (f_Tree_keep z9)), (10, .int s10), (0, .ref h), (2, .int en), (3, .int ou), (4, .int 2), (7, .int t7), (8, .int l8), (9, .int n9)]) S dc_Tree_cut_175 8 rfl rfl (by decide) rfl ?_
                refine gw_goto (tgt := 23) S dc_Tree_cut_178 (by decide) ?_
                refine gw_drop [5, 6, 7, 8, 1, 0] (lv' := [(0, .ref h), (2, .int en), (3, .int ou), (4, .int 2), (5, .int (s10 + n9)), (6, .int ((nI c9) + 1))]) rfl ?_
                refine gw_eq (ws' := [(h, .inr (4, [.ref hr, .ref ht, .ref hs, .ref hl, .ref hi, .int F9_16.2.2.2.2.2])), (hr, .inr (0, [.ref hb, .int n])), (hb, .inl (cA 0, 60, .inl f)), (ht, .inl (cA 0, 30, .inl F9_16.2.1)), (hs, .inl (cA 0, 30, .inl F9_16.2.2.1)), (hl, .inl (cA 0, 30, .inl F9_16.2.2.2.1)), (hi, .inl (cA 0, 30, .inl F9_16.2.2.2.2.1))]) (lv' := [(0, .ref h), (2, .int en), (3, .int ou), (4, .int 2), (5, .int (s10 + n9)), (6, .int (nI (c9 + 1)))]) (st' := []) (pc' := 23) rfl (by simp only [nI_1]) rfl rfl ?_
                exact ih_2 (c9 + 1, s10 + n9, F9_16.2.1, F9_16.2.2.1, F9_16.2.2.2.1, F9_16.2.2.2.2.1, F9_16.2.2.2.2.2) ⟨(by obtain ⟨k8, e8, e7, e6⟩ := l30_lt hc9 c_3; exact e6), (by rw [hF_17]; exact ct_Fok _ _ _ _ _ (kp_ok hz9)), (by obtain ⟨k8, e8, e7, e6⟩ := l30_lt hc9 c_3; rw [hm9, e8, e7]; exact ct_S6 ht7 hl8 hn9 hs10 c_4 c_6 c_12 c_13 c_15 hF_17 c_18)⟩ (by obtain ⟨k8, e8, e7, e6⟩ := l30_lt hc9 c_3; show 30 - (c9 + 1) < 30 - c9; omega)
              · -- not
                refine gw_iload S dc_Tree_cut_165 0 rfl ?_
                exact gw_iret (w := [(h, .inr (4, [.ref hr, .ref ht, .ref hs, .ref hl, .ref hi, .int F9_16.2.2.2.2.2])), (hr, .inr (0, [.ref hb, .int n])), (hb, .inl (cA 0, 60, .inl f)), (ht, .inl (cA 0, 30, .inl F9_16.2.1)), (hs, .inl (cA 0, 30, .inl F9_16.2.2.1)), (hl, .inl (cA 0, 30, .inl F9_16.2.2.2.1)), (hi, .inl (cA 0, 30, .inl F9_16.2.2.2.2.1))]) S g_r g_k  [0, 1, 2, 3, 4, 5, 6] rfl (by decide) ⟨F9_16, by obtain ⟨k8, e8, e7, e6⟩ := l30_lt hc9 c_3; rw [hm9, e8]; refine Eq.symm ?_; exact ct_S7 ht7 hl8 hn9 hs10 c_4 c_6 c_12 c_13 c_15 hF_17 c_18, rfl, rfl⟩ dc_Tree_cut_167
          · -- not
            refine gw_iload S dc_Tree_cut_116 5 rfl ?_
            exact gw_iret (w := [(h, .inr (4, [.ref hr, .ref ht, .ref hs, .ref hl, .ref hi, .int z9])), (hr, .inr (0, [.ref hb, .int n])), (hb, .inl (cA 0, 60, .inl f)), (ht, .inl (cA 0, 30, .inl tg9)), (hs, .inl (cA 0, 30, .inl ss9)), (hl, .inl (cA 0, 30, .inl ln9)), (hi, .inl (cA 0, 30, .inl nn9))]) S g_r g_k  [0, 1, 2, 3, 4, 5, 6] rfl (by decide) ⟨(a, tg9, ss9, ln9, nn9, z9), by obtain ⟨k8, e8, e7, e6⟩ := l30_lt hc9 c_3; rw [hm9, e8]; exact (ct_S4 ht7 hl8 hn9 hs10 c_4 c_6 c_12 c_13).symm, rfl, rfl⟩ dc_Tree_cut_118
      · -- not
        refine gw_iload S dc_Tree_cut_54 5 rfl ?_
        exact gw_iret (w := [(h, .inr (4, [.ref hr, .ref ht, .ref hs, .ref hl, .ref hi, .int z9])), (hr, .inr (0, [.ref hb, .int n])), (hb, .inl (cA 0, 60, .inl f)), (ht, .inl (cA 0, 30, .inl tg9)), (hs, .inl (cA 0, 30, .inl ss9)), (hl, .inl (cA 0, 30, .inl ln9)), (hi, .inl (cA 0, 30, .inl nn9))]) S g_r g_k  [0, 1, 2, 3, 4, 5, 6] rfl (by decide) ⟨(a, tg9, ss9, ln9, nn9, z9), by obtain ⟨k8, e8, e7, e6⟩ := l30_lt hc9 c_3; rw [hm9, e8]; exact (ct_L2 ht7 c_4 c_6).symm, rfl, rfl⟩ dc_Tree_cut_56
set_option maxRecDepth 100000 in
set_option maxHeartbeats 4000000 in
theorem c_Tree_cut_3 (l : Launch) (D : va_G) (cA : Nat → ClassId) (sz : Nat) (h : Nat) (hr : Nat) (ht : Nat) (hs : Nat) (hl : Nat) (hi : Nat) (z : Int32) (hb : Nat) (n : Int32) (f : Nat → Int32) (tg : Nat → Int32) (ss : Nat → Int32) (ln : Nat → Int32) (nn : Nat → Int32) (fr : Int32) (en : Int32) (ou : Int32) (hz : rw_ok z 30) (hN : rw_ok n 60) : ct_M l D cA yn_Tree_cut cd_Tree_cut 6 0 0 sz [.ref h, .int fr, .int en, .int ou, .int 1] [(h, .inr (4, [.ref hr, .ref ht, .ref hs, .ref hl, .ref hi, .int z])), (hr, .inr (0, [.ref hb, .int n])), (hb, .inl (cA 0, 60, .inl f)), (ht, .inl (cA 0, 30, .inl tg)), (hs, .inl (cA 0, 30, .inl ss)), (hl, .inl (cA 0, 30, .inl ln)), (hi, .inl (cA 0, 30, .inl nn))] (fun v_ w_ => ∃ (F9 : Int32 × tt_T), F9 = ct_F n f 3 fr en ou (tg, ss, ln, nn, z) ∧ v_ = some (.int F9.1) ∧ w_ = [(h, .inr (4, [.ref hr, .ref ht, .ref hs, .ref hl, .ref hi, .int F9.2.2.2.2.2])), (hr, .inr (0, [.ref hb, .int n])), (hb, .inl (cA 0, 60, .inl f)), (ht, .inl (cA 0, 30, .inl F9.2.1)), (hs, .inl (cA 0, 30, .inl F9.2.2.1)), (hl, .inl (cA 0, 30, .inl F9.2.2.2.1)), (hi, .inl (cA 0, 30, .inl F9.2.2.2.2.1))]) := by
  refine gw_met (by decide) rfl (Nat.le_of_ble_eq_true rfl) ?_
  intro p_ e_ s_ m_ args_ below_ meth_ c_ A_ S g_r g_k g_n hK hA
  refine gw_eq (ws' := [(h, .inr (4, [.ref hr, .ref ht, .ref hs, .ref hl, .ref hi, .int z])), (hr, .inr (0, [.ref hb, .int n])), (hb, .inl (cA 0, 60, .inl f)), (ht, .inl (cA 0, 30, .inl tg)), (hs, .inl (cA 0, 30, .inl ss)), (hl, .inl (cA 0, 30, .inl ln)), (hi, .inl (cA 0, 30, .inl nn))]) (lv' := [(0, .ref h), (1, .int fr), (2, .int en), (3, .int ou), (4, .int 1)]) (st' := []) (pc' := 0) rfl rfl rfl rfl ?_
  refine gw_iload S dc_Tree_cut_0 4 rfl ?_
  refine gw_iconst (v := 3) S dc_Tree_cut_2 (by decide) ?_
  refine gw_icmp_le (tgt := 17) S dc_Tree_cut_3 (by decide) (fun c_1 => ?_) (fun c_1 => by exact absurd c_1 (by decide))
  refine gw_iload_n S dc_Tree_cut_17 rfl 1 rfl ?_
  refine gw_istore (lv' := [(5, .int fr), (0, .ref h), (1, .int fr), (2, .int en), (3, .int ou), (4, .int 1)]) S dc_Tree_cut_18 (by decide) rfl ?_
  refine gw_iconst (v := 0) S dc_Tree_cut_20 (by decide) ?_
  refine gw_istore (lv' := [(6, .int 0), (5, .int fr), (0, .ref h), (1, .int fr), (2, .int en), (3, .int ou), (4, .int 1)]) S dc_Tree_cut_21 (by decide) rfl ?_
  refine gw_drop [2, 4, 5, 6, 1, 0] (lv' := [(0, .ref h), (2, .int en), (3, .int ou), (4, .int 1), (5, .int fr), (6, .int 0)]) rfl ?_
  refine gw_loop (σ := Nat × Int32 × (Nat → Int32) × (Nat → Int32) × (Nat → Int32) × (Nat → Int32) × Int32) (fun (x_ : Nat × Int32 × (Nat → Int32) × (Nat → Int32) × (Nat → Int32) × (Nat → Int32) × Int32) => match x_ with | (c9, a, tg9, ss9, ln9, nn9, z9) => (c9 ≤ 30) ∧ (rw_ok z9 30) ∧ (ct_F n f 3 fr en ou (tg, ss, ln, nn, z) = ct_L n f (ct_F n f 2) en ou (30 - c9) a (tg9, ss9, ln9, nn9, z9))) (fun (x_ : Nat × Int32 × (Nat → Int32) × (Nat → Int32) × (Nat → Int32) × (Nat → Int32) × Int32) => match x_ with | (c9, a, tg9, ss9, ln9, nn9, z9) => 30 - c9) (fun (x_ : Nat × Int32 × (Nat → Int32) × (Nat → Int32) × (Nat → Int32) × (Nat → Int32) × Int32) => match x_ with | (c9, a, tg9, ss9, ln9, nn9, z9) => [(h, .inr (4, [.ref hr, .ref ht, .ref hs, .ref hl, .ref hi, .int z9])), (hr, .inr (0, [.ref hb, .int n])), (hb, .inl (cA 0, 60, .inl f)), (ht, .inl (cA 0, 30, .inl tg9)), (hs, .inl (cA 0, 30, .inl ss9)), (hl, .inl (cA 0, 30, .inl ln9)), (hi, .inl (cA 0, 30, .inl nn9))]) (fun (x_ : Nat × Int32 × (Nat → Int32) × (Nat → Int32) × (Nat → Int32) × (Nat → Int32) × Int32) => match x_ with | (c9, a, tg9, ss9, ln9, nn9, z9) => [(0, .ref h), (2, .int en), (3, .int ou), (4, .int 1), (5, .int a), (6, .int (nI c9))]) ?_ (0, fr, tg, ss, ln, nn, z) ?_ rfl rfl
  rotate_left
  · exact ⟨Nat.zero_le _, hz, rfl⟩
  rintro ⟨c9, a, tg9, ss9, ln9, nn9, z9⟩ ⟨hc9, hz9, hm9⟩ ih_2
  refine gw_eq (ws' := [(h, .inr (4, [.ref hr, .ref ht, .ref hs, .ref hl, .ref hi, .int z9])), (hr, .inr (0, [.ref hb, .int n])), (hb, .inl (cA 0, 60, .inl f)), (ht, .inl (cA 0, 30, .inl tg9)), (hs, .inl (cA 0, 30, .inl ss9)), (hl, .inl (cA 0, 30, .inl ln9)), (hi, .inl (cA 0, 30, .inl nn9))]) (lv' := [(0, .ref h), (2, .int en), (3, .int ou), (4, .int 1), (5, .int a), (6, .int (nI c9))]) (st' := []) (pc' := 23) rfl rfl rfl rfl ?_
  refine gw_iload S dc_Tree_cut_23 5 rfl ?_
  refine gw_bipush (v := 30) S dc_Tree_cut_25 (by decide) ?_
  refine gw_icmp_ge (tgt := 181) S dc_Tree_cut_27 (by decide) (fun c_3 => ?_) (fun c_3 => ?_)
  · -- taken
    refine gw_iconst (v := -1) S dc_Tree_cut_181 (by decide) ?_
    exact gw_iret (w := [(h, .inr (4, [.ref hr, .ref ht, .ref hs, .ref hl, .ref hi, .int z9])), (hr, .inr (0, [.ref hb, .int n])), (hb, .inl (cA 0, 60, .inl f)), (ht, .inl (cA 0, 30, .inl tg9)), (hs, .inl (cA 0, 30, .inl ss9)), (hl, .inl (cA 0, 30, .inl ln9)), (hi, .inl (cA 0, 30, .inl nn9))]) S g_r g_k  [0, 1, 2, 3, 4, 5, 6] rfl (by decide) ⟨(-1, tg9, ss9, ln9, nn9, z9), by rw [hm9, l30_ge hc9 c_3]; rfl, rfl, rfl⟩ dc_Tree_cut_182
  · -- not
    refine gw_iload S dc_Tree_cut_30 4 rfl ?_
    refine gw_iload_n S dc_Tree_cut_32 rfl 1 rfl ?_
    refine gw_icmp_ge (tgt := 181) S dc_Tree_cut_33 (by decide) (fun c_4 => ?_) (fun c_4 => ?_)
    · -- taken
      refine gw_iconst (v := -1) S dc_Tree_cut_181 (by decide) ?_
      exact gw_iret (w := [(h, .inr (4, [.ref hr, .ref ht, .ref hs, .ref hl, .ref hi, .int z9])), (hr, .inr (0, [.ref hb, .int n])), (hb, .inl (cA 0, 60, .inl f)), (ht, .inl (cA 0, 30, .inl tg9)), (hs, .inl (cA 0, 30, .inl ss9)), (hl, .inl (cA 0, 30, .inl ln9)), (hi, .inl (cA 0, 30, .inl nn9))]) S g_r g_k  [0, 1, 2, 3, 4, 5, 6] rfl (by decide) ⟨(-1, tg9, ss9, ln9, nn9, z9), by obtain ⟨k8, e8, e7, e6⟩ := l30_lt hc9 c_3; rw [hm9, e8]; exact (ct_L1 c_4).symm, rfl, rfl⟩ dc_Tree_cut_182
    · -- not
      refine gw_aload_n S dc_Tree_cut_36 rfl 0 rfl ?_
      refine gw_get S hK.1 ic_Tree rfl 0 (by decide) (gw_lk S mw_169) 0 rfl rfl dc_Tree_cut_37 ?_
      refine gw_iload S dc_Tree_cut_40 4 rfl ?_
      refine gw_iload_n S dc_Tree_cut_42 rfl 1 rfl ?_
      refine gw_callSR (As := [.ref hr, .int a, .int en]) (st := []) S hK (c_Tag_read l D cA hr hb n 60 f a en (by assumption)) (cw_Tree_49 S.2.2.2.2 rfl rfl ⟨Nat.le_of_ble_eq_true rfl, Nat.le_of_ble_eq_true rfl⟩) [1, 2] rfl (by decide) rfl rfl (Nat.le_of_ble_eq_true rfl) dc_Tree_cut_43 ⟨Nat.le_of_ble_eq_true rfl, Nat.le_of_ble_eq_true rfl⟩ ?_
      rintro _ rfl
      refine gw_eq (ws' := [(h, .inr (4, [.ref hr, .ref ht, .ref hs, .ref hl, .ref hi, .int z9])), (hr, .inr (0, [.ref hb, .int n])), (hb, .inl (cA 0, 60, .inl f)), (ht, .inl (cA 0, 30, .inl tg9)), (hs, .inl (cA 0, 30, .inl ss9)), (hl, .inl (cA 0, 30, .inl ln9)), (hi, .inl (cA 0, 30, .inl nn9))]) (lv' := [(0, .ref h), (2, .int en), (3, .int ou), (4, .int 1), (5, .int a), (6, .int (nI c9))]) (st' := [.int (f_Tag_read n f a en)]) (pc' := 46) rfl rfl rfl rfl ?_
      refine gw_topi (fun t7 ht7 => ?_)
      refine gw_istore (lv' := [(7, .int t7), (0, .ref h), (2, .int en), (3, .int ou), (4, .int 1), (5, .int a), (6, .int (nI c9))]) S dc_Tree_cut_46 (by decide) rfl ?_
      refine gw_iload S dc_Tree_cut_48 0 rfl ?_
      refine gw_iconst (v := -1) S dc_Tree_cut_50 (by decide) ?_
      refine gw_icmp_ne (tgt := 57) S dc_Tree_cut_51 (by decide) (fun c_6 => ?_) (fun c_6 => ?_)
      · -- taken
        refine gw_iload S dc_Tree_cut_57 5 rfl ?_
        refine gw_iload S dc_Tree_cut_59 0 rfl ?_
        refine gw_callSR (As := [.int t7]) (st := [.int a]) S hK (c_Tag_bytesOf l D cA t7 ) (cw_Tree_55 S.2.2.2.2 rfl rfl ⟨Nat.le_of_ble_eq_true rfl, Nat.le_of_ble_eq_true rfl⟩) [] rfl (by decide) rfl rfl (Nat.le_of_ble_eq_true rfl) dc_Tree_cut_61 ⟨Nat.le_of_ble_eq_true rfl, Nat.le_of_ble_eq_true rfl⟩ ?_
        rintro _ rfl
        refine gw_eq (ws' := [(h, .inr (4, [.ref hr, .ref ht, .ref hs, .ref hl, .ref hi, .int z9])), (hr, .inr (0, [.ref hb, .int n])), (hb, .inl (cA 0, 60, .inl f)), (ht, .inl (cA 0, 30, .inl tg9)), (hs, .inl (cA 0, 30, .inl ss9)), (hl, .inl (cA 0, 30, .inl ln9)), (hi, .inl (cA 0, 30, .inl nn9))]) (lv' := [(7, .int t7), (0, .ref h), (2, .int en), (3, .int ou), (4, .int 1), (5, .int a), (6, .int (nI c9))]) (st' := [.int (f_Tag_bytesOf t7), .int a]) (pc' := 64) rfl rfl rfl rfl ?_
        refine gw_iadd S dc_Tree_cut_64 ?_
        refine gw_topi (fun l8 hl8 => ?_)
        refine gw_istore (lv' := [(8, .int l8), (7, .int t7), (0, .ref h), (2, .int en), (3, .int ou), (4, .int 1), (5, .int a), (6, .int (nI c9))]) S dc_Tree_cut_65 (by decide) rfl ?_
        refine gw_aload_n S dc_Tree_cut_67 rfl 2 rfl ?_
        refine gw_iload S dc_Tree_cut_68 0 rfl ?_
        refine gw_iload_n S dc_Tree_cut_70 rfl 3 rfl ?_
        refine gw_callVR (As := [.int l8, .int en]) (st := []) S hK (c_Tree_readLength l D cA h hr ht hs hl hi z9 hb n f l8 en (by assumption)) (cw_Tree_59 S.2.2.2.2 rfl rfl ⟨Nat.le_of_ble_eq_true rfl, Nat.le_of_ble_eq_true rfl⟩) [0, 1, 2] rfl (by decide) 0 rfl rfl rfl rfl rfl (Nat.le_of_ble_eq_true rfl) dc_Tree_cut_71 ⟨Nat.le_of_ble_eq_true rfl, Nat.le_of_ble_eq_true rfl⟩ ?_
        rintro _ rfl
        refine gw_eq (ws' := [(h, .inr (4, [.ref hr, .ref ht, .ref hs, .ref hl, .ref hi, .int z9])), (hr, .inr (0, [.ref hb, .int n])), (hb, .inl (cA 0, 60, .inl f)), (ht, .inl (cA 0, 30, .inl tg9)), (hs, .inl (cA 0, 30, .inl ss9)), (hl, .inl (cA 0, 30, .inl ln9)), (hi, .inl (cA 0, 30, .inl nn9))]) (lv' := [(8, .int l8), (7, .int t7), (0, .ref h), (2, .int en), (3, .int ou), (4, .int 1), (5, .int a), (6, .int (nI c9))]) (st' := [.int (f_Tree_readLength n f l8 en)]) (pc' := 74) rfl rfl rfl rfl ?_
        refine gw_topi (fun n9 hn9 => ?_)
        refine gw_istore (lv' := [(9, .int n9), (8, .int l8), (7, .int t7), (0, .ref h), (2, .int en), (3, .int ou), (4, .int 1), (5, .int a), (6, .int (nI c9))]) S dc_Tree_cut_74 (by decide) rfl ?_
        refine gw_iload S dc_Tree_cut_76 1 rfl ?_
        refine gw_aload_n S dc_Tree_cut_78 rfl 3 rfl ?_
        refine gw_get S hK.1 ic_Tree rfl 0 (by decide) (gw_lk S mw_169) 0 rfl rfl dc_Tree_cut_79 ?_
        refine gw_iload S dc_Tree_cut_82 1 rfl ?_
        refine gw_callVR (As := [.int l8]) (st := [.int l8]) S hK (c_Row_at l D cA hr hb n 60 f l8 (by assumption)) (cw_Tree_63 S.2.2.2.2 rfl rfl ⟨Nat.le_of_ble_eq_true rfl, Nat.le_of_ble_eq_true rfl⟩) [1, 2] rfl (by decide) 0 rfl rfl rfl rfl rfl (Nat.le_of_ble_eq_true rfl) dc_Tree_cut_84 ⟨Nat.le_of_ble_eq_true rfl, Nat.le_of_ble_eq_true rfl⟩ ?_
        rintro _ rfl
        refine gw_eq (ws' := [(h, .inr (4, [.ref hr, .ref ht, .ref hs, .ref hl, .ref hi, .int z9])), (hr, .inr (0, [.ref hb, .int n])), (hb, .inl (cA 0, 60, .inl f)), (ht, .inl (cA 0, 30, .inl tg9)), (hs, .inl (cA 0, 30, .inl ss9)), (hl, .inl (cA 0, 30, .inl ln9)), (hi, .inl (cA 0, 30, .inl nn9))]) (lv' := [(9, .int n9), (8, .int l8), (7, .int t7), (0, .ref h), (2, .int en), (3, .int ou), (4, .int 1), (5, .int a), (6, .int (nI c9))]) (st' := [.int (f_Row_at n f l8), .int l8]) (pc' := 87) rfl rfl rfl rfl ?_
        refine gw_sipush (v := 129) S dc_Tree_cut_87 (by decide) ?_
        refine gw_jw (ws2 := [(h, .inr (4, [.ref hr, .ref ht, .ref hs, .ref hl, .ref hi, .int z9])), (hr, .inr (0, [.ref hb, .int n])), (hb, .inl (cA 0, 60, .inl f)), (ht, .inl (cA 0, 30, .inl tg9)), (hs, .inl (cA 0, 30, .inl ss9)), (hl, .inl (cA 0, 30, .inl ln9)), (hi, .inl (cA 0, 30, .inl nn9))]) (lv2 := [(0, .ref h), (2, .int en), (3, .int ou), (4, .int 1), (5, .int a), (6, .int (nI c9)), (7, .int t7), (8, .int l8), (9, .int n9)]) (st2 := [.int (if (f_Row_at n f l8) = 129 then 2 else (1)), .int l8]) (pc2 := 98) ?_ (fun kJ_10 => ?_)
        rotate_left
        · -- join at 98
          refine gw_icmp_ne (tgt := 97) S dc_Tree_cut_90 (by decide) (fun c_11 => ?_) (fun c_11 => ?_)
          · -- taken
            refine gw_iconst (v := 1) S dc_Tree_cut_97 (by decide) ?_
            refine gw_drop [3, 4, 5, 6, 7, 8, 2, 1, 0] (lv' := [(0, .ref h), (2, .int en), (3, .int ou), (4, .int 1), (5, .int a), (6, .int (nI c9)), (7, .int t7), (8, .int l8), (9, .int n9)]) rfl ?_
            exact kJ_10 _ _ _ (by simp only [if_neg c_11]) (by simp only [if_neg c_11]) (by simp only [if_neg c_11])
          · -- not
            refine gw_iconst (v := 2) S dc_Tree_cut_93 (by decide) ?_
            refine gw_goto (tgt := 98) S dc_Tree_cut_94 (by decide) ?_
            refine gw_drop [3, 4, 5, 6, 7, 8, 2, 1, 0] (lv' := [(0, .ref h), (2, .int en), (3, .int ou), (4, .int 1), (5, .int a), (6, .int (nI c9)), (7, .int t7), (8, .int l8), (9, .int n9)]) rfl ?_
            exact kJ_10 _ _ _ (by simp only [if_pos c_11]) (by simp only [if_pos c_11]) (by simp only [if_pos c_11])
        refine gw_iadd S dc_Tree_cut_98 ?_
        refine gw_topi (fun s10 hs10 => ?_)
        refine gw_istore (lv' := [(10, .int s10), (0, .ref h), (2, .int en), (3, .int ou), (4, .int 1), (5, .int a), (6, .int (nI c9)), (7, .int t7), (8, .int l8), (9, .int n9)]) S dc_Tree_cut_99 (by decide) rfl ?_
        refine gw_iload S dc_Tree_cut_101 9 rfl ?_
        refine gw_iconst (v := -1) S dc_Tree_cut_103 (by decide) ?_
        refine gw_icmp_eq (tgt := 116) S dc_Tree_cut_104 (by decide) (fun c_12 => ?_) (fun c_12 => ?_)
        · -- taken
          refine gw_iload S dc_Tree_cut_116 5 rfl ?_
          exact gw_iret (w := [(h, .inr (4, [.ref hr, .ref ht, .ref hs, .ref hl, .ref hi, .int z9])), (hr, .inr (0, [.ref hb, .int n])), (hb, .inl (cA 0, 60, .inl f)), (ht, .inl (cA 0, 30, .inl tg9)), (hs, .inl (cA 0, 30, .inl ss9)), (hl, .inl (cA 0, 30, .inl ln9)), (hi, .inl (cA 0, 30, .inl nn9))]) S g_r g_k  [0, 1, 2, 3, 4, 5, 6] rfl (by decide) ⟨(a, tg9, ss9, ln9, nn9, z9), by obtain ⟨k8, e8, e7, e6⟩ := l30_lt hc9 c_3; rw [hm9, e8]; exact (ct_S3 ht7 hl8 hn9 hs10 c_4 c_6 c_12).symm, rfl, rfl⟩ dc_Tree_cut_118
        · -- not
          refine gw_iload S dc_Tree_cut_107 9 rfl ?_
          refine gw_iload_n S dc_Tree_cut_109 rfl 2 rfl ?_
          refine gw_iload S dc_Tree_cut_110 0 rfl ?_
          refine gw_isub S dc_Tree_cut_112 ?_
          refine gw_icmp_le (tgt := 119) S dc_Tree_cut_113 (by decide) (fun c_13 => ?_) (fun c_13 => ?_)
          · -- taken
            refine gw_aload_n S dc_Tree_cut_119 rfl 1 rfl ?_
            refine gw_iload S dc_Tree_cut_120 7 rfl ?_
            refine gw_iload S dc_Tree_cut_122 0 rfl ?_
            refine gw_iload S dc_Tree_cut_124 9 rfl ?_
            refine gw_iload_n S dc_Tree_cut_126 rfl 3 rfl ?_
            refine gw_callV (As := [.int t7, .int s10, .int n9, .int ou]) (st := []) (wr := [(hr, .inr (0, [.ref hb, .int n])), (hb, .inl (cA 0, 60, .inl f))]) S hK hA (fun sz => c_Tree_keep l D cA sz h hr ht hs hl hi z9 tg9 ss9 ln9 nn9 t7 s10 n9 ou hz9) (cw_Tree_66 S.2.2.2.2 rfl rfl ⟨Nat.le_of_ble_eq_true rfl, Nat.le_of_ble_eq_true rfl⟩) [0, 3, 4, 5, 6] [1, 2] rfl (by decide) rfl (by decide) (by decide) 0 rfl rfl rfl rfl rfl (Nat.le_of_ble_eq_true rfl) dc_Tree_cut_127 ⟨Nat.le_of_ble_eq_true rfl, Nat.le_of_ble_eq_true rfl⟩ ?_
            rintro _ _ ⟨rfl, rfl⟩
            refine gw_eq (ws' := [(hr, .inr (0, [.ref hb, .int n])), (hb, .inl (cA 0, 60, .inl f)), (h, .inr (4, [.ref hr, .ref ht, .ref hs, .ref hl, .ref hi, .int (f_Tree_keep_size z9)])), (ht, .inl (cA 0, 30, .inl (f_Tree_keep_1 z9 tg9 t7))), (hs, .inl (cA 0, 30, .inl (f_Tree_keep_2 z9 ss9 s10))), (hl, .inl (cA 0, 30, .inl (f_Tree_keep_3 z9 ln9 n9))), (hi, .inl (cA 0, 30, .inl (f_Tree_keep_4 z9 nn9 ou)))]) (lv' := [(10, .int s10), (0, .ref h), (2, .int en), (3, .int ou), (4, .int 1), (5, .int a), (6, .int (nI c9)), (7, .int t7), (8, .int l8), (9, .int n9)]) (st' := [.int (f_Tree_keep z9)]) (pc' := 130) rfl rfl rfl rfl ?_
            refine gw_istore (lv' := [(11, .int (f_Tree_keep z9)), (10, .int s10), (0, .ref h), (2, .int en), (3, .int ou), (4, .int 1), (5, .int a), (6, .int (nI c9)), (7, .int t7), (8, .int l8), (9, .int n9)]) S dc_Tree_cut_130 (by decide) rfl ?_
            refine gw_iload S dc_Tree_cut_132 8 rfl ?_
            refine gw_callSR (As := [.int t7]) (st := []) S hK (c_Tag_hasInner l D cA t7 ) (cw_Tree_69 S.2.2.2.2 rfl rfl ⟨Nat.le_of_ble_eq_true rfl, Nat.le_of_ble_eq_true rfl⟩) [] rfl (by decide) rfl rfl (Nat.le_of_ble_eq_true rfl) dc_Tree_cut_134 ⟨Nat.le_of_ble_eq_true rfl, Nat.le_of_ble_eq_true rfl⟩ ?_
            rintro _ rfl
            refine gw_eq (ws' := [(hr, .inr (0, [.ref hb, .int n])), (hb, .inl (cA 0, 60, .inl f)), (h, .inr (4, [.ref hr, .ref ht, .ref hs, .ref hl, .ref hi, .int (f_Tree_keep_size z9)])), (ht, .inl (cA 0, 30, .inl (f_Tree_keep_1 z9 tg9 t7))), (hs, .inl (cA 0, 30, .inl (f_Tree_keep_2 z9 ss9 s10))), (hl, .inl (cA 0, 30, .inl (f_Tree_keep_3 z9 ln9 n9))), (hi, .inl (cA 0, 30, .inl (f_Tree_keep_4 z9 nn9 ou)))]) (lv' := [(11, .int (f_Tree_keep z9)), (10, .int s10), (0, .ref h), (2, .int en), (3, .int ou), (4, .int 1), (5, .int a), (6, .int (nI c9)), (7, .int t7), (8, .int l8), (9, .int n9)]) (st' := [.int (f_Tag_hasInner t7)]) (pc' := 137) rfl rfl rfl rfl ?_
            refine gw_if_eq (tgt := 168) S dc_Tree_cut_137 (by decide) (fun c_15 => ?_) (fun c_15 => ?_)
            · -- taken
              refine gw_iload S dc_Tree_cut_168 1 rfl ?_
              refine gw_iload S dc_Tree_cut_170 10 rfl ?_
              refine gw_iadd S dc_Tree_cut_172 ?_
              refine gw_istore (lv' := [(5, .int (s10 + n9)), (11, .int (f_Tree_keep z9)), (10, .int s10), (0, .ref h), (2, .int en), (3, .int ou), (4, .int 1), (6, .int (nI c9)), (7, .int t7), (8, .int l8), (9, .int n9)]) S dc_Tree_cut_173 (by decide) rfl ?_
              refine gw_iinc (v := (nI c9) + 1) (lv' := [(6, .int ((nI c9) + 1)), (5, .int (s10 + n9)), (11, .int (f_Tree_keep z9)), (10, .int s10), (0, .ref h), (2, .int en), (3, .int ou), (4, .int 1), (7, .int t7), (8, .int l8), (9, .int n9)]) S dc_Tree_cut_175 7 rfl rfl (by decide) rfl ?_
              refine gw_goto (tgt := 23) S dc_Tree_cut_178 (by decide) ?_
              refine gw_sub [2, 0, 1, 3, 4, 5, 6] (w := [(h, .inr (4, [.ref hr, .ref ht, .ref hs, .ref hl, .ref hi, .int (f_Tree_keep_size z9)])), (hr, .inr (0, [.ref hb, .int n])), (hb, .inl (cA 0, 60, .inl f)), (ht, .inl (cA 0, 30, .inl (f_Tree_keep_1 z9 tg9 t7))), (hs, .inl (cA 0, 30, .inl (f_Tree_keep_2 z9 ss9 s10))), (hl, .inl (cA 0, 30, .inl (f_Tree_keep_3 z9 ln9 n9))), (hi, .inl (cA 0, 30, .inl (f_Tree_keep_4 z9 nn9 ou)))]) rfl (by decide) ?_
              refine gw_drop [4, 5, 6, 7, 1, 0] (lv' := [(0, .ref h), (2, .int en), (3, .int ou), (4, .int 1), (5, .int (s10 + n9)), (6, .int ((nI c9) + 1))]) rfl ?_
              refine gw_eq (ws' := [(h, .inr (4, [.ref hr, .ref ht, .ref hs, .ref hl, .ref hi, .int (f_Tree_keep_size z9)])), (hr, .inr (0, [.ref hb, .int n])), (hb, .inl (cA 0, 60, .inl f)), (ht, .inl (cA 0, 30, .inl (f_Tree_keep_1 z9 tg9 t7))), (hs, .inl (cA 0, 30, .inl (f_Tree_keep_2 z9 ss9 s10))), (hl, .inl (cA 0, 30, .inl (f_Tree_keep_3 z9 ln9 n9))), (hi, .inl (cA 0, 30, .inl (f_Tree_keep_4 z9 nn9 ou)))]) (lv' := [(0, .ref h), (2, .int en), (3, .int ou), (4, .int 1), (5, .int (s10 + n9)), (6, .int (nI (c9 + 1)))]) (st' := []) (pc' := 23) rfl (by simp only [nI_1]) rfl rfl ?_
              exact ih_2 (c9 + 1, s10 + n9, f_Tree_keep_1 z9 tg9 t7, f_Tree_keep_2 z9 ss9 s10, f_Tree_keep_3 z9 ln9 n9, f_Tree_keep_4 z9 nn9 ou, f_Tree_keep_size z9) ⟨(by obtain ⟨k8, e8, e7, e6⟩ := l30_lt hc9 c_3; exact e6), (kp_ok hz9), (by obtain ⟨k8, e8, e7, e6⟩ := l30_lt hc9 c_3; rw [hm9, e8, e7]; exact ct_S5 ht7 hl8 hn9 hs10 c_4 c_6 c_12 c_13 c_15)⟩ (by obtain ⟨k8, e8, e7, e6⟩ := l30_lt hc9 c_3; show 30 - (c9 + 1) < 30 - c9; omega)
            · -- not
              refine gw_aload_n S dc_Tree_cut_140 rfl 2 rfl ?_
              refine gw_iload S dc_Tree_cut_141 1 rfl ?_
              refine gw_iload S dc_Tree_cut_143 1 rfl ?_
              refine gw_iload S dc_Tree_cut_145 10 rfl ?_
              refine gw_iadd S dc_Tree_cut_147 ?_
              refine gw_iload S dc_Tree_cut_148 0 rfl ?_
              refine gw_iload S dc_Tree_cut_150 5 rfl ?_
              refine gw_iconst (v := 1) S dc_Tree_cut_152 (by decide) ?_
              refine gw_iadd S dc_Tree_cut_153 ?_
              refine gw_eq (ws' := [(hr, .inr (0, [.ref hb, .int n])), (hb, .inl (cA 0, 60, .inl f)), (h, .inr (4, [.ref hr, .ref ht, .ref hs, .ref hl, .ref hi, .int (f_Tree_keep_size z9)])), (ht, .inl (cA 0, 30, .inl (f_Tree_keep_1 z9 tg9 t7))), (hs, .inl (cA 0, 30, .inl (f_Tree_keep_2 z9 ss9 s10))), (hl, .inl (cA 0, 30, .inl (f_Tree_keep_3 z9 ln9 n9))), (hi, .inl (cA 0, 30, .inl (f_Tree_keep_4 z9 nn9 ou)))]) (lv' := [(11, .int (f_Tree_keep z9)), (10, .int s10), (0, .ref h), (2, .int en), (3, .int ou), (4, .int 1), (5, .int a), (6, .int (nI c9)), (7, .int t7), (8, .int l8), (9, .int n9)]) (st' := [.int 2, .int (f_Tree_keep z9), .int (s10 + n9), .int s10, .ref h]) (pc' := 154) rfl rfl (by rw [show (1 + 1 : Int32) = 2 from by decide]) rfl ?_
              refine gw_callV (As := [.int s10, .int (s10 + n9), .int (f_Tree_keep z9), .int 2]) (st := []) (wr := []) S hK hA (fun sz => c_Tree_cut_2 l D cA sz h hr ht hs hl hi (f_Tree_keep_size z9) hb n f (f_Tree_keep_1 z9 tg9 t7) (f_Tree_keep_2 z9 ss9 s10) (f_Tree_keep_3 z9 ln9 n9) (f_Tree_keep_4 z9 nn9 ou) s10 (s10 + n9) (f_Tree_keep z9) (kp_ok hz9) (by assumption)) (cw_Tree_45 S.2.2.2.2 rfl rfl ⟨Nat.le_of_ble_eq_true rfl, Nat.le_of_ble_eq_true rfl⟩) [2, 0, 1, 3, 4, 5, 6] [] rfl (by decide) rfl (by decide) (by decide) 0 rfl rfl rfl rfl rfl (Nat.le_of_ble_eq_true rfl) dc_Tree_cut_154 ⟨Nat.le_of_ble_eq_true rfl, Nat.le_of_ble_eq_true rfl⟩ ?_
              rintro _ _ ⟨F9_16, hF_17, rfl, rfl⟩
              refine gw_eq (ws' := [(h, .inr (4, [.ref hr, .ref ht, .ref hs, .ref hl, .ref hi, .int F9_16.2.2.2.2.2])), (hr, .inr (0, [.ref hb, .int n])), (hb, .inl (cA 0, 60, .inl f)), (ht, .inl (cA 0, 30, .inl F9_16.2.1)), (hs, .inl (cA 0, 30, .inl F9_16.2.2.1)), (hl, .inl (cA 0, 30, .inl F9_16.2.2.2.1)), (hi, .inl (cA 0, 30, .inl F9_16.2.2.2.2.1))]) (lv' := [(11, .int (f_Tree_keep z9)), (10, .int s10), (0, .ref h), (2, .int en), (3, .int ou), (4, .int 1), (5, .int a), (6, .int (nI c9)), (7, .int t7), (8, .int l8), (9, .int n9)]) (st' := [.int F9_16.1]) (pc' := 157) rfl rfl rfl rfl ?_
              refine gw_istore (lv' := [(12, .int F9_16.1), (11, .int (f_Tree_keep z9)), (10, .int s10), (0, .ref h), (2, .int en), (3, .int ou), (4, .int 1), (5, .int a), (6, .int (nI c9)), (7, .int t7), (8, .int l8), (9, .int n9)]) S dc_Tree_cut_157 (by decide) rfl ?_
              refine gw_iload S dc_Tree_cut_159 0 rfl ?_
              refine gw_iconst (v := -1) S dc_Tree_cut_161 (by decide) ?_
              refine gw_icmp_eq (tgt := 168) S dc_Tree_cut_162 (by decide) (fun c_18 => ?_) (fun c_18 => ?_)
              · -- taken
                refine gw_iload S dc_Tree_cut_168 2 rfl ?_
                refine gw_iload S dc_Tree_cut_170 11 rfl ?_
                refine gw_iadd S dc_Tree_cut_172 ?_
                refine gw_istore (lv' := [(5, .int (s10 + n9)), (12, .int F9_16.1), (11, .int (f_Tree_keep z9)), (10, .int s10), (0, .ref h), (2, .int en), (3, .int ou), (4, .int 1), (6, .int (nI c9)), (7, .int t7), (8, .int l8), (9, .int n9)]) S dc_Tree_cut_173 (by decide) rfl ?_
                refine gw_iinc (v := (nI c9) + 1) (lv' := [(6, .int ((nI c9) + 1)), (5, .int (s10 + n9)), (12, .int F9_16.1), (11, .int (f_Tree_keep z9)), (10, .int s10), (0, .ref h), (2, .int en), (3, .int ou), (4, .int 1), (7, .int t7), (8, .int l8), (9, .int n9)]) S dc_Tree_cut_175 8 rfl rfl (by decide) rfl ?_
                refine gw_goto (tgt := 23) S dc_Tree_cut_178 (by decide) ?_
                refine gw_drop [5, 6, 7, 8, 1, 0] (lv' := [(0, .ref h), (2, .int en), (3, .int ou), (4, .int 1), (5, .int (s10 + n9)), (6, .int ((nI c9) + 1))]) rfl ?_
                refine gw_eq (ws' := [(h, .inr (4, [.ref hr, .ref ht, .ref hs, .ref hl, .ref hi, .int F9_16.2.2.2.2.2])), (hr, .inr (0, [.ref hb, .int n])), (hb, .inl (cA 0, 60, .inl f)), (ht, .inl (cA 0, 30, .inl F9_16.2.1)), (hs, .inl (cA 0, 30, .inl F9_16.2.2.1)), (hl, .inl (cA 0, 30, .inl F9_16.2.2.2.1)), (hi, .inl (cA 0, 30, .inl F9_16.2.2.2.2.1))]) (lv' := [(0, .ref h), (2, .int en), (3, .int ou), (4, .int 1), (5, .int (s10 + n9)), (6, .int (nI (c9 + 1)))]) (st' := []) (pc' := 23) rfl (by simp only [nI_1]) rfl rfl ?_
                exact ih_2 (c9 + 1, s10 + n9, F9_16.2.1, F9_16.2.2.1, F9_16.2.2.2.1, F9_16.2.2.2.2.1, F9_16.2.2.2.2.2) ⟨(by obtain ⟨k8, e8, e7, e6⟩ := l30_lt hc9 c_3; exact e6), (by rw [hF_17]; exact ct_Fok _ _ _ _ _ (kp_ok hz9)), (by obtain ⟨k8, e8, e7, e6⟩ := l30_lt hc9 c_3; rw [hm9, e8, e7]; exact ct_S6 ht7 hl8 hn9 hs10 c_4 c_6 c_12 c_13 c_15 hF_17 c_18)⟩ (by obtain ⟨k8, e8, e7, e6⟩ := l30_lt hc9 c_3; show 30 - (c9 + 1) < 30 - c9; omega)
              · -- not
                refine gw_iload S dc_Tree_cut_165 0 rfl ?_
                exact gw_iret (w := [(h, .inr (4, [.ref hr, .ref ht, .ref hs, .ref hl, .ref hi, .int F9_16.2.2.2.2.2])), (hr, .inr (0, [.ref hb, .int n])), (hb, .inl (cA 0, 60, .inl f)), (ht, .inl (cA 0, 30, .inl F9_16.2.1)), (hs, .inl (cA 0, 30, .inl F9_16.2.2.1)), (hl, .inl (cA 0, 30, .inl F9_16.2.2.2.1)), (hi, .inl (cA 0, 30, .inl F9_16.2.2.2.2.1))]) S g_r g_k  [0, 1, 2, 3, 4, 5, 6] rfl (by decide) ⟨F9_16, by obtain ⟨k8, e8, e7, e6⟩ := l30_lt hc9 c_3; rw [hm9, e8]; refine Eq.symm ?_; exact ct_S7 ht7 hl8 hn9 hs10 c_4 c_6 c_12 c_13 c_15 hF_17 c_18, rfl, rfl⟩ dc_Tree_cut_167
          · -- not
            refine gw_iload S dc_Tree_cut_116 5 rfl ?_
            exact gw_iret (w := [(h, .inr (4, [.ref hr, .ref ht, .ref hs, .ref hl, .ref hi, .int z9])), (hr, .inr (0, [.ref hb, .int n])), (hb, .inl (cA 0, 60, .inl f)), (ht, .inl (cA 0, 30, .inl tg9)), (hs, .inl (cA 0, 30, .inl ss9)), (hl, .inl (cA 0, 30, .inl ln9)), (hi, .inl (cA 0, 30, .inl nn9))]) S g_r g_k  [0, 1, 2, 3, 4, 5, 6] rfl (by decide) ⟨(a, tg9, ss9, ln9, nn9, z9), by obtain ⟨k8, e8, e7, e6⟩ := l30_lt hc9 c_3; rw [hm9, e8]; exact (ct_S4 ht7 hl8 hn9 hs10 c_4 c_6 c_12 c_13).symm, rfl, rfl⟩ dc_Tree_cut_118
      · -- not
        refine gw_iload S dc_Tree_cut_54 5 rfl ?_
        exact gw_iret (w := [(h, .inr (4, [.ref hr, .ref ht, .ref hs, .ref hl, .ref hi, .int z9])), (hr, .inr (0, [.ref hb, .int n])), (hb, .inl (cA 0, 60, .inl f)), (ht, .inl (cA 0, 30, .inl tg9)), (hs, .inl (cA 0, 30, .inl ss9)), (hl, .inl (cA 0, 30, .inl ln9)), (hi, .inl (cA 0, 30, .inl nn9))]) S g_r g_k  [0, 1, 2, 3, 4, 5, 6] rfl (by decide) ⟨(a, tg9, ss9, ln9, nn9, z9), by obtain ⟨k8, e8, e7, e6⟩ := l30_lt hc9 c_3; rw [hm9, e8]; exact (ct_L2 ht7 c_4 c_6).symm, rfl, rfl⟩ dc_Tree_cut_56
set_option maxRecDepth 100000 in
set_option maxHeartbeats 4000000 in
theorem c_Tree_cut_4 (l : Launch) (D : va_G) (cA : Nat → ClassId) (sz : Nat) (h : Nat) (hr : Nat) (ht : Nat) (hs : Nat) (hl : Nat) (hi : Nat) (z : Int32) (hb : Nat) (n : Int32) (f : Nat → Int32) (tg : Nat → Int32) (ss : Nat → Int32) (ln : Nat → Int32) (nn : Nat → Int32) (fr : Int32) (en : Int32) (ou : Int32) (hz : rw_ok z 30) (hN : rw_ok n 60) : ct_M l D cA yn_Tree_cut cd_Tree_cut 7 0 0 sz [.ref h, .int fr, .int en, .int ou, .int 0] [(h, .inr (4, [.ref hr, .ref ht, .ref hs, .ref hl, .ref hi, .int z])), (hr, .inr (0, [.ref hb, .int n])), (hb, .inl (cA 0, 60, .inl f)), (ht, .inl (cA 0, 30, .inl tg)), (hs, .inl (cA 0, 30, .inl ss)), (hl, .inl (cA 0, 30, .inl ln)), (hi, .inl (cA 0, 30, .inl nn))] (fun v_ w_ => ∃ (F9 : Int32 × tt_T), F9 = ct_F n f 4 fr en ou (tg, ss, ln, nn, z) ∧ v_ = some (.int F9.1) ∧ w_ = [(h, .inr (4, [.ref hr, .ref ht, .ref hs, .ref hl, .ref hi, .int F9.2.2.2.2.2])), (hr, .inr (0, [.ref hb, .int n])), (hb, .inl (cA 0, 60, .inl f)), (ht, .inl (cA 0, 30, .inl F9.2.1)), (hs, .inl (cA 0, 30, .inl F9.2.2.1)), (hl, .inl (cA 0, 30, .inl F9.2.2.2.1)), (hi, .inl (cA 0, 30, .inl F9.2.2.2.2.1))]) := by
  refine gw_met (by decide) rfl (Nat.le_of_ble_eq_true rfl) ?_
  intro p_ e_ s_ m_ args_ below_ meth_ c_ A_ S g_r g_k g_n hK hA
  refine gw_eq (ws' := [(h, .inr (4, [.ref hr, .ref ht, .ref hs, .ref hl, .ref hi, .int z])), (hr, .inr (0, [.ref hb, .int n])), (hb, .inl (cA 0, 60, .inl f)), (ht, .inl (cA 0, 30, .inl tg)), (hs, .inl (cA 0, 30, .inl ss)), (hl, .inl (cA 0, 30, .inl ln)), (hi, .inl (cA 0, 30, .inl nn))]) (lv' := [(0, .ref h), (1, .int fr), (2, .int en), (3, .int ou), (4, .int 0)]) (st' := []) (pc' := 0) rfl rfl rfl rfl ?_
  refine gw_iload S dc_Tree_cut_0 4 rfl ?_
  refine gw_iconst (v := 3) S dc_Tree_cut_2 (by decide) ?_
  refine gw_icmp_le (tgt := 17) S dc_Tree_cut_3 (by decide) (fun c_1 => ?_) (fun c_1 => by exact absurd c_1 (by decide))
  refine gw_iload_n S dc_Tree_cut_17 rfl 1 rfl ?_
  refine gw_istore (lv' := [(5, .int fr), (0, .ref h), (1, .int fr), (2, .int en), (3, .int ou), (4, .int 0)]) S dc_Tree_cut_18 (by decide) rfl ?_
  refine gw_iconst (v := 0) S dc_Tree_cut_20 (by decide) ?_
  refine gw_istore (lv' := [(6, .int 0), (5, .int fr), (0, .ref h), (1, .int fr), (2, .int en), (3, .int ou), (4, .int 0)]) S dc_Tree_cut_21 (by decide) rfl ?_
  refine gw_drop [2, 4, 5, 6, 1, 0] (lv' := [(0, .ref h), (2, .int en), (3, .int ou), (4, .int 0), (5, .int fr), (6, .int 0)]) rfl ?_
  refine gw_loop (σ := Nat × Int32 × (Nat → Int32) × (Nat → Int32) × (Nat → Int32) × (Nat → Int32) × Int32) (fun (x_ : Nat × Int32 × (Nat → Int32) × (Nat → Int32) × (Nat → Int32) × (Nat → Int32) × Int32) => match x_ with | (c9, a, tg9, ss9, ln9, nn9, z9) => (c9 ≤ 30) ∧ (rw_ok z9 30) ∧ (ct_F n f 4 fr en ou (tg, ss, ln, nn, z) = ct_L n f (ct_F n f 3) en ou (30 - c9) a (tg9, ss9, ln9, nn9, z9))) (fun (x_ : Nat × Int32 × (Nat → Int32) × (Nat → Int32) × (Nat → Int32) × (Nat → Int32) × Int32) => match x_ with | (c9, a, tg9, ss9, ln9, nn9, z9) => 30 - c9) (fun (x_ : Nat × Int32 × (Nat → Int32) × (Nat → Int32) × (Nat → Int32) × (Nat → Int32) × Int32) => match x_ with | (c9, a, tg9, ss9, ln9, nn9, z9) => [(h, .inr (4, [.ref hr, .ref ht, .ref hs, .ref hl, .ref hi, .int z9])), (hr, .inr (0, [.ref hb, .int n])), (hb, .inl (cA 0, 60, .inl f)), (ht, .inl (cA 0, 30, .inl tg9)), (hs, .inl (cA 0, 30, .inl ss9)), (hl, .inl (cA 0, 30, .inl ln9)), (hi, .inl (cA 0, 30, .inl nn9))]) (fun (x_ : Nat × Int32 × (Nat → Int32) × (Nat → Int32) × (Nat → Int32) × (Nat → Int32) × Int32) => match x_ with | (c9, a, tg9, ss9, ln9, nn9, z9) => [(0, .ref h), (2, .int en), (3, .int ou), (4, .int 0), (5, .int a), (6, .int (nI c9))]) ?_ (0, fr, tg, ss, ln, nn, z) ?_ rfl rfl
  rotate_left
  · exact ⟨Nat.zero_le _, hz, rfl⟩
  rintro ⟨c9, a, tg9, ss9, ln9, nn9, z9⟩ ⟨hc9, hz9, hm9⟩ ih_2
  refine gw_eq (ws' := [(h, .inr (4, [.ref hr, .ref ht, .ref hs, .ref hl, .ref hi, .int z9])), (hr, .inr (0, [.ref hb, .int n])), (hb, .inl (cA 0, 60, .inl f)), (ht, .inl (cA 0, 30, .inl tg9)), (hs, .inl (cA 0, 30, .inl ss9)), (hl, .inl (cA 0, 30, .inl ln9)), (hi, .inl (cA 0, 30, .inl nn9))]) (lv' := [(0, .ref h), (2, .int en), (3, .int ou), (4, .int 0), (5, .int a), (6, .int (nI c9))]) (st' := []) (pc' := 23) rfl rfl rfl rfl ?_
  refine gw_iload S dc_Tree_cut_23 5 rfl ?_
  refine gw_bipush (v := 30) S dc_Tree_cut_25 (by decide) ?_
  refine gw_icmp_ge (tgt := 181) S dc_Tree_cut_27 (by decide) (fun c_3 => ?_) (fun c_3 => ?_)
  · -- taken
    refine gw_iconst (v := -1) S dc_Tree_cut_181 (by decide) ?_
    exact gw_iret (w := [(h, .inr (4, [.ref hr, .ref ht, .ref hs, .ref hl, .ref hi, .int z9])), (hr, .inr (0, [.ref hb, .int n])), (hb, .inl (cA 0, 60, .inl f)), (ht, .inl (cA 0, 30, .inl tg9)), (hs, .inl (cA 0, 30, .inl ss9)), (hl, .inl (cA 0, 30, .inl ln9)), (hi, .inl (cA 0, 30, .inl nn9))]) S g_r g_k  [0, 1, 2, 3, 4, 5, 6] rfl (by decide) ⟨(-1, tg9, ss9, ln9, nn9, z9), by rw [hm9, l30_ge hc9 c_3]; rfl, rfl, rfl⟩ dc_Tree_cut_182
  · -- not
    refine gw_iload S dc_Tree_cut_30 4 rfl ?_
    refine gw_iload_n S dc_Tree_cut_32 rfl 1 rfl ?_
    refine gw_icmp_ge (tgt := 181) S dc_Tree_cut_33 (by decide) (fun c_4 => ?_) (fun c_4 => ?_)
    · -- taken
      refine gw_iconst (v := -1) S dc_Tree_cut_181 (by decide) ?_
      exact gw_iret (w := [(h, .inr (4, [.ref hr, .ref ht, .ref hs, .ref hl, .ref hi, .int z9])), (hr, .inr (0, [.ref hb, .int n])), (hb, .inl (cA 0, 60, .inl f)), (ht, .inl (cA 0, 30, .inl tg9)), (hs, .inl (cA 0, 30, .inl ss9)), (hl, .inl (cA 0, 30, .inl ln9)), (hi, .inl (cA 0, 30, .inl nn9))]) S g_r g_k  [0, 1, 2, 3, 4, 5, 6] rfl (by decide) ⟨(-1, tg9, ss9, ln9, nn9, z9), by obtain ⟨k8, e8, e7, e6⟩ := l30_lt hc9 c_3; rw [hm9, e8]; exact (ct_L1 c_4).symm, rfl, rfl⟩ dc_Tree_cut_182
    · -- not
      refine gw_aload_n S dc_Tree_cut_36 rfl 0 rfl ?_
      refine gw_get S hK.1 ic_Tree rfl 0 (by decide) (gw_lk S mw_169) 0 rfl rfl dc_Tree_cut_37 ?_
      refine gw_iload S dc_Tree_cut_40 4 rfl ?_
      refine gw_iload_n S dc_Tree_cut_42 rfl 1 rfl ?_
      refine gw_callSR (As := [.ref hr, .int a, .int en]) (st := []) S hK (c_Tag_read l D cA hr hb n 60 f a en (by assumption)) (cw_Tree_49 S.2.2.2.2 rfl rfl ⟨Nat.le_of_ble_eq_true rfl, Nat.le_of_ble_eq_true rfl⟩) [1, 2] rfl (by decide) rfl rfl (Nat.le_of_ble_eq_true rfl) dc_Tree_cut_43 ⟨Nat.le_of_ble_eq_true rfl, Nat.le_of_ble_eq_true rfl⟩ ?_
      rintro _ rfl
      refine gw_eq (ws' := [(h, .inr (4, [.ref hr, .ref ht, .ref hs, .ref hl, .ref hi, .int z9])), (hr, .inr (0, [.ref hb, .int n])), (hb, .inl (cA 0, 60, .inl f)), (ht, .inl (cA 0, 30, .inl tg9)), (hs, .inl (cA 0, 30, .inl ss9)), (hl, .inl (cA 0, 30, .inl ln9)), (hi, .inl (cA 0, 30, .inl nn9))]) (lv' := [(0, .ref h), (2, .int en), (3, .int ou), (4, .int 0), (5, .int a), (6, .int (nI c9))]) (st' := [.int (f_Tag_read n f a en)]) (pc' := 46) rfl rfl rfl rfl ?_
      refine gw_topi (fun t7 ht7 => ?_)
      refine gw_istore (lv' := [(7, .int t7), (0, .ref h), (2, .int en), (3, .int ou), (4, .int 0), (5, .int a), (6, .int (nI c9))]) S dc_Tree_cut_46 (by decide) rfl ?_
      refine gw_iload S dc_Tree_cut_48 0 rfl ?_
      refine gw_iconst (v := -1) S dc_Tree_cut_50 (by decide) ?_
      refine gw_icmp_ne (tgt := 57) S dc_Tree_cut_51 (by decide) (fun c_6 => ?_) (fun c_6 => ?_)
      · -- taken
        refine gw_iload S dc_Tree_cut_57 5 rfl ?_
        refine gw_iload S dc_Tree_cut_59 0 rfl ?_
        refine gw_callSR (As := [.int t7]) (st := [.int a]) S hK (c_Tag_bytesOf l D cA t7 ) (cw_Tree_55 S.2.2.2.2 rfl rfl ⟨Nat.le_of_ble_eq_true rfl, Nat.le_of_ble_eq_true rfl⟩) [] rfl (by decide) rfl rfl (Nat.le_of_ble_eq_true rfl) dc_Tree_cut_61 ⟨Nat.le_of_ble_eq_true rfl, Nat.le_of_ble_eq_true rfl⟩ ?_
        rintro _ rfl
        refine gw_eq (ws' := [(h, .inr (4, [.ref hr, .ref ht, .ref hs, .ref hl, .ref hi, .int z9])), (hr, .inr (0, [.ref hb, .int n])), (hb, .inl (cA 0, 60, .inl f)), (ht, .inl (cA 0, 30, .inl tg9)), (hs, .inl (cA 0, 30, .inl ss9)), (hl, .inl (cA 0, 30, .inl ln9)), (hi, .inl (cA 0, 30, .inl nn9))]) (lv' := [(7, .int t7), (0, .ref h), (2, .int en), (3, .int ou), (4, .int 0), (5, .int a), (6, .int (nI c9))]) (st' := [.int (f_Tag_bytesOf t7), .int a]) (pc' := 64) rfl rfl rfl rfl ?_
        refine gw_iadd S dc_Tree_cut_64 ?_
        refine gw_topi (fun l8 hl8 => ?_)
        refine gw_istore (lv' := [(8, .int l8), (7, .int t7), (0, .ref h), (2, .int en), (3, .int ou), (4, .int 0), (5, .int a), (6, .int (nI c9))]) S dc_Tree_cut_65 (by decide) rfl ?_
        refine gw_aload_n S dc_Tree_cut_67 rfl 2 rfl ?_
        refine gw_iload S dc_Tree_cut_68 0 rfl ?_
        refine gw_iload_n S dc_Tree_cut_70 rfl 3 rfl ?_
        refine gw_callVR (As := [.int l8, .int en]) (st := []) S hK (c_Tree_readLength l D cA h hr ht hs hl hi z9 hb n f l8 en (by assumption)) (cw_Tree_59 S.2.2.2.2 rfl rfl ⟨Nat.le_of_ble_eq_true rfl, Nat.le_of_ble_eq_true rfl⟩) [0, 1, 2] rfl (by decide) 0 rfl rfl rfl rfl rfl (Nat.le_of_ble_eq_true rfl) dc_Tree_cut_71 ⟨Nat.le_of_ble_eq_true rfl, Nat.le_of_ble_eq_true rfl⟩ ?_
        rintro _ rfl
        refine gw_eq (ws' := [(h, .inr (4, [.ref hr, .ref ht, .ref hs, .ref hl, .ref hi, .int z9])), (hr, .inr (0, [.ref hb, .int n])), (hb, .inl (cA 0, 60, .inl f)), (ht, .inl (cA 0, 30, .inl tg9)), (hs, .inl (cA 0, 30, .inl ss9)), (hl, .inl (cA 0, 30, .inl ln9)), (hi, .inl (cA 0, 30, .inl nn9))]) (lv' := [(8, .int l8), (7, .int t7), (0, .ref h), (2, .int en), (3, .int ou), (4, .int 0), (5, .int a), (6, .int (nI c9))]) (st' := [.int (f_Tree_readLength n f l8 en)]) (pc' := 74) rfl rfl rfl rfl ?_
        refine gw_topi (fun n9 hn9 => ?_)
        refine gw_istore (lv' := [(9, .int n9), (8, .int l8), (7, .int t7), (0, .ref h), (2, .int en), (3, .int ou), (4, .int 0), (5, .int a), (6, .int (nI c9))]) S dc_Tree_cut_74 (by decide) rfl ?_
        refine gw_iload S dc_Tree_cut_76 1 rfl ?_
        refine gw_aload_n S dc_Tree_cut_78 rfl 3 rfl ?_
        refine gw_get S hK.1 ic_Tree rfl 0 (by decide) (gw_lk S mw_169) 0 rfl rfl dc_Tree_cut_79 ?_
        refine gw_iload S dc_Tree_cut_82 1 rfl ?_
        refine gw_callVR (As := [.int l8]) (st := [.int l8]) S hK (c_Row_at l D cA hr hb n 60 f l8 (by assumption)) (cw_Tree_63 S.2.2.2.2 rfl rfl ⟨Nat.le_of_ble_eq_true rfl, Nat.le_of_ble_eq_true rfl⟩) [1, 2] rfl (by decide) 0 rfl rfl rfl rfl rfl (Nat.le_of_ble_eq_true rfl) dc_Tree_cut_84 ⟨Nat.le_of_ble_eq_true rfl, Nat.le_of_ble_eq_true rfl⟩ ?_
        rintro _ rfl
        refine gw_eq (ws' := [(h, .inr (4, [.ref hr, .ref ht, .ref hs, .ref hl, .ref hi, .int z9])), (hr, .inr (0, [.ref hb, .int n])), (hb, .inl (cA 0, 60, .inl f)), (ht, .inl (cA 0, 30, .inl tg9)), (hs, .inl (cA 0, 30, .inl ss9)), (hl, .inl (cA 0, 30, .inl ln9)), (hi, .inl (cA 0, 30, .inl nn9))]) (lv' := [(9, .int n9), (8, .int l8), (7, .int t7), (0, .ref h), (2, .int en), (3, .int ou), (4, .int 0), (5, .int a), (6, .int (nI c9))]) (st' := [.int (f_Row_at n f l8), .int l8]) (pc' := 87) rfl rfl rfl rfl ?_
        refine gw_sipush (v := 129) S dc_Tree_cut_87 (by decide) ?_
        refine gw_jw (ws2 := [(h, .inr (4, [.ref hr, .ref ht, .ref hs, .ref hl, .ref hi, .int z9])), (hr, .inr (0, [.ref hb, .int n])), (hb, .inl (cA 0, 60, .inl f)), (ht, .inl (cA 0, 30, .inl tg9)), (hs, .inl (cA 0, 30, .inl ss9)), (hl, .inl (cA 0, 30, .inl ln9)), (hi, .inl (cA 0, 30, .inl nn9))]) (lv2 := [(0, .ref h), (2, .int en), (3, .int ou), (4, .int 0), (5, .int a), (6, .int (nI c9)), (7, .int t7), (8, .int l8), (9, .int n9)]) (st2 := [.int (if (f_Row_at n f l8) = 129 then 2 else (1)), .int l8]) (pc2 := 98) ?_ (fun kJ_10 => ?_)
        rotate_left
        · -- join at 98
          refine gw_icmp_ne (tgt := 97) S dc_Tree_cut_90 (by decide) (fun c_11 => ?_) (fun c_11 => ?_)
          · -- taken
            refine gw_iconst (v := 1) S dc_Tree_cut_97 (by decide) ?_
            refine gw_drop [3, 4, 5, 6, 7, 8, 2, 1, 0] (lv' := [(0, .ref h), (2, .int en), (3, .int ou), (4, .int 0), (5, .int a), (6, .int (nI c9)), (7, .int t7), (8, .int l8), (9, .int n9)]) rfl ?_
            exact kJ_10 _ _ _ (by simp only [if_neg c_11]) (by simp only [if_neg c_11]) (by simp only [if_neg c_11])
          · -- not
            refine gw_iconst (v := 2) S dc_Tree_cut_93 (by decide) ?_
            refine gw_goto (tgt := 98) S dc_Tree_cut_94 (by decide) ?_
            refine gw_drop [3, 4, 5, 6, 7, 8, 2, 1, 0] (lv' := [(0, .ref h), (2, .int en), (3, .int ou), (4, .int 0), (5, .int a), (6, .int (nI c9)), (7, .int t7), (8, .int l8), (9, .int n9)]) rfl ?_
            exact kJ_10 _ _ _ (by simp only [if_pos c_11]) (by simp only [if_pos c_11]) (by simp only [if_pos c_11])
        refine gw_iadd S dc_Tree_cut_98 ?_
        refine gw_topi (fun s10 hs10 => ?_)
        refine gw_istore (lv' := [(10, .int s10), (0, .ref h), (2, .int en), (3, .int ou), (4, .int 0), (5, .int a), (6, .int (nI c9)), (7, .int t7), (8, .int l8), (9, .int n9)]) S dc_Tree_cut_99 (by decide) rfl ?_
        refine gw_iload S dc_Tree_cut_101 9 rfl ?_
        refine gw_iconst (v := -1) S dc_Tree_cut_103 (by decide) ?_
        refine gw_icmp_eq (tgt := 116) S dc_Tree_cut_104 (by decide) (fun c_12 => ?_) (fun c_12 => ?_)
        · -- taken
          refine gw_iload S dc_Tree_cut_116 5 rfl ?_
          exact gw_iret (w := [(h, .inr (4, [.ref hr, .ref ht, .ref hs, .ref hl, .ref hi, .int z9])), (hr, .inr (0, [.ref hb, .int n])), (hb, .inl (cA 0, 60, .inl f)), (ht, .inl (cA 0, 30, .inl tg9)), (hs, .inl (cA 0, 30, .inl ss9)), (hl, .inl (cA 0, 30, .inl ln9)), (hi, .inl (cA 0, 30, .inl nn9))]) S g_r g_k  [0, 1, 2, 3, 4, 5, 6] rfl (by decide) ⟨(a, tg9, ss9, ln9, nn9, z9), by obtain ⟨k8, e8, e7, e6⟩ := l30_lt hc9 c_3; rw [hm9, e8]; exact (ct_S3 ht7 hl8 hn9 hs10 c_4 c_6 c_12).symm, rfl, rfl⟩ dc_Tree_cut_118
        · -- not
          refine gw_iload S dc_Tree_cut_107 9 rfl ?_
          refine gw_iload_n S dc_Tree_cut_109 rfl 2 rfl ?_
          refine gw_iload S dc_Tree_cut_110 0 rfl ?_
          refine gw_isub S dc_Tree_cut_112 ?_
          refine gw_icmp_le (tgt := 119) S dc_Tree_cut_113 (by decide) (fun c_13 => ?_) (fun c_13 => ?_)
          · -- taken
            refine gw_aload_n S dc_Tree_cut_119 rfl 1 rfl ?_
            refine gw_iload S dc_Tree_cut_120 7 rfl ?_
            refine gw_iload S dc_Tree_cut_122 0 rfl ?_
            refine gw_iload S dc_Tree_cut_124 9 rfl ?_
            refine gw_iload_n S dc_Tree_cut_126 rfl 3 rfl ?_
            refine gw_callV (As := [.int t7, .int s10, .int n9, .int ou]) (st := []) (wr := [(hr, .inr (0, [.ref hb, .int n])), (hb, .inl (cA 0, 60, .inl f))]) S hK hA (fun sz => c_Tree_keep l D cA sz h hr ht hs hl hi z9 tg9 ss9 ln9 nn9 t7 s10 n9 ou hz9) (cw_Tree_66 S.2.2.2.2 rfl rfl ⟨Nat.le_of_ble_eq_true rfl, Nat.le_of_ble_eq_true rfl⟩) [0, 3, 4, 5, 6] [1, 2] rfl (by decide) rfl (by decide) (by decide) 0 rfl rfl rfl rfl rfl (Nat.le_of_ble_eq_true rfl) dc_Tree_cut_127 ⟨Nat.le_of_ble_eq_true rfl, Nat.le_of_ble_eq_true rfl⟩ ?_
            rintro _ _ ⟨rfl, rfl⟩
            refine gw_eq (ws' := [(hr, .inr (0, [.ref hb, .int n])), (hb, .inl (cA 0, 60, .inl f)), (h, .inr (4, [.ref hr, .ref ht, .ref hs, .ref hl, .ref hi, .int (f_Tree_keep_size z9)])), (ht, .inl (cA 0, 30, .inl (f_Tree_keep_1 z9 tg9 t7))), (hs, .inl (cA 0, 30, .inl (f_Tree_keep_2 z9 ss9 s10))), (hl, .inl (cA 0, 30, .inl (f_Tree_keep_3 z9 ln9 n9))), (hi, .inl (cA 0, 30, .inl (f_Tree_keep_4 z9 nn9 ou)))]) (lv' := [(10, .int s10), (0, .ref h), (2, .int en), (3, .int ou), (4, .int 0), (5, .int a), (6, .int (nI c9)), (7, .int t7), (8, .int l8), (9, .int n9)]) (st' := [.int (f_Tree_keep z9)]) (pc' := 130) rfl rfl rfl rfl ?_
            refine gw_istore (lv' := [(11, .int (f_Tree_keep z9)), (10, .int s10), (0, .ref h), (2, .int en), (3, .int ou), (4, .int 0), (5, .int a), (6, .int (nI c9)), (7, .int t7), (8, .int l8), (9, .int n9)]) S dc_Tree_cut_130 (by decide) rfl ?_
            refine gw_iload S dc_Tree_cut_132 8 rfl ?_
            refine gw_callSR (As := [.int t7]) (st := []) S hK (c_Tag_hasInner l D cA t7 ) (cw_Tree_69 S.2.2.2.2 rfl rfl ⟨Nat.le_of_ble_eq_true rfl, Nat.le_of_ble_eq_true rfl⟩) [] rfl (by decide) rfl rfl (Nat.le_of_ble_eq_true rfl) dc_Tree_cut_134 ⟨Nat.le_of_ble_eq_true rfl, Nat.le_of_ble_eq_true rfl⟩ ?_
            rintro _ rfl
            refine gw_eq (ws' := [(hr, .inr (0, [.ref hb, .int n])), (hb, .inl (cA 0, 60, .inl f)), (h, .inr (4, [.ref hr, .ref ht, .ref hs, .ref hl, .ref hi, .int (f_Tree_keep_size z9)])), (ht, .inl (cA 0, 30, .inl (f_Tree_keep_1 z9 tg9 t7))), (hs, .inl (cA 0, 30, .inl (f_Tree_keep_2 z9 ss9 s10))), (hl, .inl (cA 0, 30, .inl (f_Tree_keep_3 z9 ln9 n9))), (hi, .inl (cA 0, 30, .inl (f_Tree_keep_4 z9 nn9 ou)))]) (lv' := [(11, .int (f_Tree_keep z9)), (10, .int s10), (0, .ref h), (2, .int en), (3, .int ou), (4, .int 0), (5, .int a), (6, .int (nI c9)), (7, .int t7), (8, .int l8), (9, .int n9)]) (st' := [.int (f_Tag_hasInner t7)]) (pc' := 137) rfl rfl rfl rfl ?_
            refine gw_if_eq (tgt := 168) S dc_Tree_cut_137 (by decide) (fun c_15 => ?_) (fun c_15 => ?_)
            · -- taken
              refine gw_iload S dc_Tree_cut_168 1 rfl ?_
              refine gw_iload S dc_Tree_cut_170 10 rfl ?_
              refine gw_iadd S dc_Tree_cut_172 ?_
              refine gw_istore (lv' := [(5, .int (s10 + n9)), (11, .int (f_Tree_keep z9)), (10, .int s10), (0, .ref h), (2, .int en), (3, .int ou), (4, .int 0), (6, .int (nI c9)), (7, .int t7), (8, .int l8), (9, .int n9)]) S dc_Tree_cut_173 (by decide) rfl ?_
              refine gw_iinc (v := (nI c9) + 1) (lv' := [(6, .int ((nI c9) + 1)), (5, .int (s10 + n9)), (11, .int (f_Tree_keep z9)), (10, .int s10), (0, .ref h), (2, .int en), (3, .int ou), (4, .int 0), (7, .int t7), (8, .int l8), (9, .int n9)]) S dc_Tree_cut_175 7 rfl rfl (by decide) rfl ?_
              refine gw_goto (tgt := 23) S dc_Tree_cut_178 (by decide) ?_
              refine gw_sub [2, 0, 1, 3, 4, 5, 6] (w := [(h, .inr (4, [.ref hr, .ref ht, .ref hs, .ref hl, .ref hi, .int (f_Tree_keep_size z9)])), (hr, .inr (0, [.ref hb, .int n])), (hb, .inl (cA 0, 60, .inl f)), (ht, .inl (cA 0, 30, .inl (f_Tree_keep_1 z9 tg9 t7))), (hs, .inl (cA 0, 30, .inl (f_Tree_keep_2 z9 ss9 s10))), (hl, .inl (cA 0, 30, .inl (f_Tree_keep_3 z9 ln9 n9))), (hi, .inl (cA 0, 30, .inl (f_Tree_keep_4 z9 nn9 ou)))]) rfl (by decide) ?_
              refine gw_drop [4, 5, 6, 7, 1, 0] (lv' := [(0, .ref h), (2, .int en), (3, .int ou), (4, .int 0), (5, .int (s10 + n9)), (6, .int ((nI c9) + 1))]) rfl ?_
              refine gw_eq (ws' := [(h, .inr (4, [.ref hr, .ref ht, .ref hs, .ref hl, .ref hi, .int (f_Tree_keep_size z9)])), (hr, .inr (0, [.ref hb, .int n])), (hb, .inl (cA 0, 60, .inl f)), (ht, .inl (cA 0, 30, .inl (f_Tree_keep_1 z9 tg9 t7))), (hs, .inl (cA 0, 30, .inl (f_Tree_keep_2 z9 ss9 s10))), (hl, .inl (cA 0, 30, .inl (f_Tree_keep_3 z9 ln9 n9))), (hi, .inl (cA 0, 30, .inl (f_Tree_keep_4 z9 nn9 ou)))]) (lv' := [(0, .ref h), (2, .int en), (3, .int ou), (4, .int 0), (5, .int (s10 + n9)), (6, .int (nI (c9 + 1)))]) (st' := []) (pc' := 23) rfl (by simp only [nI_1]) rfl rfl ?_
              exact ih_2 (c9 + 1, s10 + n9, f_Tree_keep_1 z9 tg9 t7, f_Tree_keep_2 z9 ss9 s10, f_Tree_keep_3 z9 ln9 n9, f_Tree_keep_4 z9 nn9 ou, f_Tree_keep_size z9) ⟨(by obtain ⟨k8, e8, e7, e6⟩ := l30_lt hc9 c_3; exact e6), (kp_ok hz9), (by obtain ⟨k8, e8, e7, e6⟩ := l30_lt hc9 c_3; rw [hm9, e8, e7]; exact ct_S5 ht7 hl8 hn9 hs10 c_4 c_6 c_12 c_13 c_15)⟩ (by obtain ⟨k8, e8, e7, e6⟩ := l30_lt hc9 c_3; show 30 - (c9 + 1) < 30 - c9; omega)
            · -- not
              refine gw_aload_n S dc_Tree_cut_140 rfl 2 rfl ?_
              refine gw_iload S dc_Tree_cut_141 1 rfl ?_
              refine gw_iload S dc_Tree_cut_143 1 rfl ?_
              refine gw_iload S dc_Tree_cut_145 10 rfl ?_
              refine gw_iadd S dc_Tree_cut_147 ?_
              refine gw_iload S dc_Tree_cut_148 0 rfl ?_
              refine gw_iload S dc_Tree_cut_150 5 rfl ?_
              refine gw_iconst (v := 1) S dc_Tree_cut_152 (by decide) ?_
              refine gw_iadd S dc_Tree_cut_153 ?_
              refine gw_eq (ws' := [(hr, .inr (0, [.ref hb, .int n])), (hb, .inl (cA 0, 60, .inl f)), (h, .inr (4, [.ref hr, .ref ht, .ref hs, .ref hl, .ref hi, .int (f_Tree_keep_size z9)])), (ht, .inl (cA 0, 30, .inl (f_Tree_keep_1 z9 tg9 t7))), (hs, .inl (cA 0, 30, .inl (f_Tree_keep_2 z9 ss9 s10))), (hl, .inl (cA 0, 30, .inl (f_Tree_keep_3 z9 ln9 n9))), (hi, .inl (cA 0, 30, .inl (f_Tree_keep_4 z9 nn9 ou)))]) (lv' := [(11, .int (f_Tree_keep z9)), (10, .int s10), (0, .ref h), (2, .int en), (3, .int ou), (4, .int 0), (5, .int a), (6, .int (nI c9)), (7, .int t7), (8, .int l8), (9, .int n9)]) (st' := [.int 1, .int (f_Tree_keep z9), .int (s10 + n9), .int s10, .ref h]) (pc' := 154) rfl rfl (by rw [show (0 + 1 : Int32) = 1 from by decide]) rfl ?_
              refine gw_callV (As := [.int s10, .int (s10 + n9), .int (f_Tree_keep z9), .int 1]) (st := []) (wr := []) S hK hA (fun sz => c_Tree_cut_3 l D cA sz h hr ht hs hl hi (f_Tree_keep_size z9) hb n f (f_Tree_keep_1 z9 tg9 t7) (f_Tree_keep_2 z9 ss9 s10) (f_Tree_keep_3 z9 ln9 n9) (f_Tree_keep_4 z9 nn9 ou) s10 (s10 + n9) (f_Tree_keep z9) (kp_ok hz9) (by assumption)) (cw_Tree_45 S.2.2.2.2 rfl rfl ⟨Nat.le_of_ble_eq_true rfl, Nat.le_of_ble_eq_true rfl⟩) [2, 0, 1, 3, 4, 5, 6] [] rfl (by decide) rfl (by decide) (by decide) 0 rfl rfl rfl rfl rfl (Nat.le_of_ble_eq_true rfl) dc_Tree_cut_154 ⟨Nat.le_of_ble_eq_true rfl, Nat.le_of_ble_eq_true rfl⟩ ?_
              rintro _ _ ⟨F9_16, hF_17, rfl, rfl⟩
              refine gw_eq (ws' := [(h, .inr (4, [.ref hr, .ref ht, .ref hs, .ref hl, .ref hi, .int F9_16.2.2.2.2.2])), (hr, .inr (0, [.ref hb, .int n])), (hb, .inl (cA 0, 60, .inl f)), (ht, .inl (cA 0, 30, .inl F9_16.2.1)), (hs, .inl (cA 0, 30, .inl F9_16.2.2.1)), (hl, .inl (cA 0, 30, .inl F9_16.2.2.2.1)), (hi, .inl (cA 0, 30, .inl F9_16.2.2.2.2.1))]) (lv' := [(11, .int (f_Tree_keep z9)), (10, .int s10), (0, .ref h), (2, .int en), (3, .int ou), (4, .int 0), (5, .int a), (6, .int (nI c9)), (7, .int t7), (8, .int l8), (9, .int n9)]) (st' := [.int F9_16.1]) (pc' := 157) rfl rfl rfl rfl ?_
              refine gw_istore (lv' := [(12, .int F9_16.1), (11, .int (f_Tree_keep z9)), (10, .int s10), (0, .ref h), (2, .int en), (3, .int ou), (4, .int 0), (5, .int a), (6, .int (nI c9)), (7, .int t7), (8, .int l8), (9, .int n9)]) S dc_Tree_cut_157 (by decide) rfl ?_
              refine gw_iload S dc_Tree_cut_159 0 rfl ?_
              refine gw_iconst (v := -1) S dc_Tree_cut_161 (by decide) ?_
              refine gw_icmp_eq (tgt := 168) S dc_Tree_cut_162 (by decide) (fun c_18 => ?_) (fun c_18 => ?_)
              · -- taken
                refine gw_iload S dc_Tree_cut_168 2 rfl ?_
                refine gw_iload S dc_Tree_cut_170 11 rfl ?_
                refine gw_iadd S dc_Tree_cut_172 ?_
                refine gw_istore (lv' := [(5, .int (s10 + n9)), (12, .int F9_16.1), (11, .int (f_Tree_keep z9)), (10, .int s10), (0, .ref h), (2, .int en), (3, .int ou), (4, .int 0), (6, .int (nI c9)), (7, .int t7), (8, .int l8), (9, .int n9)]) S dc_Tree_cut_173 (by decide) rfl ?_
                refine gw_iinc (v := (nI c9) + 1) (lv' := [(6, .int ((nI c9) + 1)), (5, .int (s10 + n9)), (12, .int F9_16.1), (11, .int (f_Tree_keep z9)), (10, .int s10), (0, .ref h), (2, .int en), (3, .int ou), (4, .int 0), (7, .int t7), (8, .int l8), (9, .int n9)]) S dc_Tree_cut_175 8 rfl rfl (by decide) rfl ?_
                refine gw_goto (tgt := 23) S dc_Tree_cut_178 (by decide) ?_
                refine gw_drop [5, 6, 7, 8, 1, 0] (lv' := [(0, .ref h), (2, .int en), (3, .int ou), (4, .int 0), (5, .int (s10 + n9)), (6, .int ((nI c9) + 1))]) rfl ?_
                refine gw_eq (ws' := [(h, .inr (4, [.ref hr, .ref ht, .ref hs, .ref hl, .ref hi, .int F9_16.2.2.2.2.2])), (hr, .inr (0, [.ref hb, .int n])), (hb, .inl (cA 0, 60, .inl f)), (ht, .inl (cA 0, 30, .inl F9_16.2.1)), (hs, .inl (cA 0, 30, .inl F9_16.2.2.1)), (hl, .inl (cA 0, 30, .inl F9_16.2.2.2.1)), (hi, .inl (cA 0, 30, .inl F9_16.2.2.2.2.1))]) (lv' := [(0, .ref h), (2, .int en), (3, .int ou), (4, .int 0), (5, .int (s10 + n9)), (6, .int (nI (c9 + 1)))]) (st' := []) (pc' := 23) rfl (by simp only [nI_1]) rfl rfl ?_
                exact ih_2 (c9 + 1, s10 + n9, F9_16.2.1, F9_16.2.2.1, F9_16.2.2.2.1, F9_16.2.2.2.2.1, F9_16.2.2.2.2.2) ⟨(by obtain ⟨k8, e8, e7, e6⟩ := l30_lt hc9 c_3; exact e6), (by rw [hF_17]; exact ct_Fok _ _ _ _ _ (kp_ok hz9)), (by obtain ⟨k8, e8, e7, e6⟩ := l30_lt hc9 c_3; rw [hm9, e8, e7]; exact ct_S6 ht7 hl8 hn9 hs10 c_4 c_6 c_12 c_13 c_15 hF_17 c_18)⟩ (by obtain ⟨k8, e8, e7, e6⟩ := l30_lt hc9 c_3; show 30 - (c9 + 1) < 30 - c9; omega)
              · -- not
                refine gw_iload S dc_Tree_cut_165 0 rfl ?_
                exact gw_iret (w := [(h, .inr (4, [.ref hr, .ref ht, .ref hs, .ref hl, .ref hi, .int F9_16.2.2.2.2.2])), (hr, .inr (0, [.ref hb, .int n])), (hb, .inl (cA 0, 60, .inl f)), (ht, .inl (cA 0, 30, .inl F9_16.2.1)), (hs, .inl (cA 0, 30, .inl F9_16.2.2.1)), (hl, .inl (cA 0, 30, .inl F9_16.2.2.2.1)), (hi, .inl (cA 0, 30, .inl F9_16.2.2.2.2.1))]) S g_r g_k  [0, 1, 2, 3, 4, 5, 6] rfl (by decide) ⟨F9_16, by obtain ⟨k8, e8, e7, e6⟩ := l30_lt hc9 c_3; rw [hm9, e8]; refine Eq.symm ?_; exact ct_S7 ht7 hl8 hn9 hs10 c_4 c_6 c_12 c_13 c_15 hF_17 c_18, rfl, rfl⟩ dc_Tree_cut_167
          · -- not
            refine gw_iload S dc_Tree_cut_116 5 rfl ?_
            exact gw_iret (w := [(h, .inr (4, [.ref hr, .ref ht, .ref hs, .ref hl, .ref hi, .int z9])), (hr, .inr (0, [.ref hb, .int n])), (hb, .inl (cA 0, 60, .inl f)), (ht, .inl (cA 0, 30, .inl tg9)), (hs, .inl (cA 0, 30, .inl ss9)), (hl, .inl (cA 0, 30, .inl ln9)), (hi, .inl (cA 0, 30, .inl nn9))]) S g_r g_k  [0, 1, 2, 3, 4, 5, 6] rfl (by decide) ⟨(a, tg9, ss9, ln9, nn9, z9), by obtain ⟨k8, e8, e7, e6⟩ := l30_lt hc9 c_3; rw [hm9, e8]; exact (ct_S4 ht7 hl8 hn9 hs10 c_4 c_6 c_12 c_13).symm, rfl, rfl⟩ dc_Tree_cut_118
      · -- not
        refine gw_iload S dc_Tree_cut_54 5 rfl ?_
        exact gw_iret (w := [(h, .inr (4, [.ref hr, .ref ht, .ref hs, .ref hl, .ref hi, .int z9])), (hr, .inr (0, [.ref hb, .int n])), (hb, .inl (cA 0, 60, .inl f)), (ht, .inl (cA 0, 30, .inl tg9)), (hs, .inl (cA 0, 30, .inl ss9)), (hl, .inl (cA 0, 30, .inl ln9)), (hi, .inl (cA 0, 30, .inl nn9))]) S g_r g_k  [0, 1, 2, 3, 4, 5, 6] rfl (by decide) ⟨(a, tg9, ss9, ln9, nn9, z9), by obtain ⟨k8, e8, e7, e6⟩ := l30_lt hc9 c_3; rw [hm9, e8]; exact (ct_L2 ht7 c_4 c_6).symm, rfl, rfl⟩ dc_Tree_cut_56
