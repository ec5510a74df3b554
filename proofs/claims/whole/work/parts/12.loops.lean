theorem gw_loop {p : Program} {l : Launch} {e : Env} {R : Room} {s : State} {m : MethodId} {args : Array Value} {below : List Frame} {meth : Method} {c : Code} {cells slots nL pc : Nat} {Q : State → Prop} {D : va_G} {cl : List vw_C} {A : Nat → Prop} {I : Heap → List Loc → Prop} {ws0 : va_W} {lv0 : List (Nat × Value)} {σ : Type} (J : σ → Prop) (μ : σ → Nat) (ws : σ → va_W) (lv : σ → List (Nat × Value))
    (hs : ∀ x, J x → (∀ y, J y → μ y < μ x → gw_G p l e R s m args below meth c D cl A I cells slots nL Q (ws y) (lv y) [] pc) → gw_G p l e R s m args below meth c D cl A I cells slots nL Q (ws x) (lv x) [] pc) (x : σ) (hx : J x) (hw : ws0 = ws x) (hl : lv0 = lv x) : gw_G p l e R s m args below meth c D cl A I cells slots nL Q ws0 lv0 [] pc := by
  subst hw hl
  have key : ∀ (n : Nat) (x : σ), μ x < n → J x → gw_G p l e R s m args below meth c D cl A I cells slots nL Q (ws x) (lv x) [] pc := by
    intro n
    induction n with
    | zero => intro x h; exact absurd h (Nat.not_lt_zero _)
    | succ n ih => intro x h hx; exact hs x hx (fun y hy hm => ih y (by omega) hy)
  exact key (μ x + 1) x (Nat.lt_succ_self _) hx
/-- an int that isn't below zero, by its number -/
theorem nw_of {n : Int32} {N : Nat} (h : rw_ok n N) : ∃ k : Nat, k ≤ N ∧ N < 2 ^ 31 ∧ n = nI k := by
  have h0 : ¬ n < 0 := by
    rw [Int32.lt_iff_toInt_lt, Int32.toInt_zero]
    have := h.1
    omega
  obtain ⟨k, hk, e⟩ := nI_of h0
  refine ⟨k, ?_, h.2.2, e⟩
  have h2 := h.2.1
  rw [e, nI_toInt hk] at h2
  omega
theorem rw_nI {k N : Nat} (h : k ≤ N) (hN : N < 2 ^ 31) : rw_ok (nI k) N := ⟨by rw [nI_toInt (by omega)]; omega, by rw [nI_toInt (by omega)]; omega, hN⟩
theorem at_nI {f : Nat → Int32} {k j : Nat} (h : j < k) (hk : k < 2 ^ 31) : f_Row_at (nI k) f (nI j) = f j := by
  unfold f_Row_at
  rw [if_neg (nI_pos (by omega)), if_neg (nI_ge h hk)]
  exact congrArg f (nI_clamp (by omega))
theorem lp_lt {n : Int32} {k j : Nat} (en : n = nI k) (hj : j < 2 ^ 31) (c : ¬ n ≤ nI j) : j < k := by
  subst en
  rcases Nat.lt_or_ge j k with q | q
  · exact q
  · exact absurd (nI_le q hj) c
theorem lp_ge {n : Int32} {k j : Nat} (en : n = nI k) (hk : k < 2 ^ 31) (c : n ≤ nI j) : k ≤ j := by
  subst en
  rcases Nat.lt_or_ge j k with q | q
  · exact absurd c (nI_ge q hk)
  · exact q
theorem add_nI {N j : Nat} (h : j < N) (hN : N < 2 ^ 31) : f_Row_add_length (nI j) N = nI (j + 1) := by
  unfold f_Row_add_length
  rw [if_pos (show nI j < Int32.ofNat N from nI_lt h hN), nI_1]
theorem add_nI1 {N j : Nat} {f : Nat → Int32} {b : Int32} (h : j < N) (hN : N < 2 ^ 31) : f_Row_add_1 (nI j) N f b = upd f j b := by
  unfold f_Row_add_1
  rw [if_pos (show nI j < Int32.ofNat N from nI_lt h hN)]
  exact congrArg (fun q => upd f q b) (nI_clamp (by omega))
/-- a row, its first places taken from another -/
def cp_f (f g : Nat → Int32) (k : Nat) : Nat → Int32 := fun q => if q < k then g q else f q
theorem cp_s (f g : Nat → Int32) (k : Nat) : upd (cp_f f g k) k (g k) = cp_f f g (k + 1) := by
  funext q
  unfold cp_f upd
  by_cases h : q = k
  · subst h; simp
  · by_cases h2 : q < k
    · have h3 : q < k + 1 := by omega
      simp [h, h2, h3]
    · have h3 : ¬ q < k + 1 := by omega
      simp [h, h2, h3]
theorem gw_jn {p : Program} {l : Launch} {e : Env} {R : Room} {s : State} {m : MethodId} {args : Array Value} {below : List Frame} {meth : Method} {c : Code} {cells slots nL pc pc2 : Nat} {Q : State → Prop} {D : va_G} {cl : List vw_C} {A : Nat → Prop} {I : Heap → List Loc → Prop} {ws : va_W} {lv : List (Nat × Value)} {st st2 : List Value} {E : Int32}
    (k : gw_G p l e R s m args below meth c D cl A I cells slots nL Q ws lv (.int E :: st2) pc2) (f : (∀ y : Int32, y = E → gw_G p l e R s m args below meth c D cl A I cells slots nL Q ws lv (.int y :: st2) pc2) → gw_G p l e R s m args below meth c D cl A I cells slots nL Q ws lv st pc) : gw_G p l e R s m args below meth c D cl A I cells slots nL Q ws lv st pc := f (fun y h => h ▸ k)
theorem gw_jw {p : Program} {l : Launch} {e : Env} {R : Room} {s : State} {m : MethodId} {args : Array Value} {below : List Frame} {meth : Method} {c : Code} {cells slots nL pc pc2 : Nat} {Q : State → Prop} {D : va_G} {cl : List vw_C} {A : Nat → Prop} {I : Heap → List Loc → Prop} {ws ws2 : va_W} {lv lv2 : List (Nat × Value)} {st st2 : List Value}
    (k : gw_G p l e R s m args below meth c D cl A I cells slots nL Q ws2 lv2 st2 pc2) (f : (∀ ws' lv' st', ws' = ws2 → lv' = lv2 → st' = st2 → gw_G p l e R s m args below meth c D cl A I cells slots nL Q ws' lv' st' pc2) → gw_G p l e R s m args below meth c D cl A I cells slots nL Q ws lv st pc) : gw_G p l e R s m args below meth c D cl A I cells slots nL Q ws lv st pc := f (fun _ _ _ h1 h2 h3 => by subst h1 h2 h3; exact k)
section GN
variable {p : Program} {l : Launch} {e : Env} {R : Room} {s : State} {m : MethodId} {args : Array Value} {below : List Frame} {meth : Method} {c : Code} {cells slots : Nat} {Q : State → Prop}
variable {cc : ByteArray} {nL pc : Nat} {Ts : List Cond} {own : String} {D : va_G} {cl : List vw_C} {A : Nat → Prop} {I : Heap → List Loc → Prop} {ws : va_W} {lv : List (Nat × Value)} {st : List Value}
theorem gw_iaddN (S : CallFix p m c cc nL s args Ts own) {a b : Nat} (d : decode cc pc = .ok (.iadd, 1)) (k : gw_G p l e R s m args below meth c D cl A I cells slots nL Q ws lv (.int (nI (a + b)) :: st) (pc + 1)) : gw_G p l e R s m args below meth c D cl A I cells slots nL Q ws lv (.int (nI b) :: .int (nI a) :: st) pc := gw_iadd S d (by rw [nI_add]; exact k)
theorem gw_imulN (S : CallFix p m c cc nL s args Ts own) {a b : Nat} (d : decode cc pc = .ok (.imul, 1)) (k : gw_G p l e R s m args below meth c D cl A I cells slots nL Q ws lv (.int (nI (a * b)) :: st) (pc + 1)) : gw_G p l e R s m args below meth c D cl A I cells slots nL Q ws lv (.int (nI b) :: .int (nI a) :: st) pc := gw_imul S d (by rw [pk_mul]; exact k)
end GN

/-- the MAC over the first bytes of a row -/
def mc_f (f : Nat → Int32) (m : Int32) : Nat → Int32
  | 0 => m
  | k + 1 => f_Mac_grow (mc_f f m k) (f k)
/-- the first place of a tag among n from i on -/
def ix_f (tg : Nat → Int32) (t : Int32) : Nat → Nat → Option Nat
  | 0, _ => none
  | n + 1, i => if tg i = t then some i else ix_f tg t n (i + 1)
def ix_v (o : Option Nat) : Int32 := match o with
  | none => -1
  | some j => nI j
set_option maxRecDepth 100000 in
set_option maxHeartbeats 4000000 in
theorem c_Mac_cryptogram (l : Launch) (D : va_G) (cA : Nat → ClassId) (k : Int32) (an : Int32) (ct : Int32) (h : Nat) (hb : Nat) (n : Int32) (N : Nat) (f : Nat → Int32) (hN : rw_ok n N) : ct_R l D cA yn_Mac_cryptogram cd_Mac_cryptogram 2 [.int k, .int an, .int ct, .ref h] [(h, .inr (0, [.ref hb, .int n])), (hb, .inl (cA 0, N, .inl f))] (fun v_ => v_ = some (.int (mc_f f (f_Mac_grow (f_Mac_grow (f_Mac_grow k an) (ct / 256 - ct / 256 / 256 * 256)) (ct - ct / 256 * 256)) (Int32.toNatClampNeg n)))) := by
  refine gw_metR (by decide) rfl (Nat.le_of_ble_eq_true rfl) ?_
  intro p_ e_ s_ m_ args_ below_ meth_ c_ S g_r g_k hK
  refine gw_eq (ws' := [(h, .inr (0, [.ref hb, .int n])), (hb, .inl (cA 0, N, .inl f))]) (lv' := [(0, .int k), (1, .int an), (2, .int ct), (3, .ref h)]) (st' := []) (pc' := 0) rfl rfl rfl rfl ?_
  obtain ⟨k9, hk9, hN9, en9⟩ := nw_of hN
  refine gw_iload_n S dc_Mac_cryptogram_0 rfl 0 rfl ?_
  refine gw_iload_n S dc_Mac_cryptogram_1 rfl 1 rfl ?_
  refine gw_callSR (As := [.int k, .int an]) (st := []) S hK (c_Mac_grow l D cA k an ) (cw_Mac_12 S.2.2.2.2 rfl rfl ⟨Nat.le_of_ble_eq_true rfl, Nat.le_of_ble_eq_true rfl⟩) [] rfl (by decide) rfl rfl (Nat.le_of_ble_eq_true rfl) dc_Mac_cryptogram_2 ⟨Nat.le_of_ble_eq_true rfl, Nat.le_of_ble_eq_true rfl⟩ ?_
  rintro _ rfl
  refine gw_eq (ws' := [(h, .inr (0, [.ref hb, .int n])), (hb, .inl (cA 0, N, .inl f))]) (lv' := [(0, .int k), (1, .int an), (2, .int ct), (3, .ref h)]) (st' := [.int (f_Mac_grow k an)]) (pc' := 5) rfl rfl rfl rfl ?_
  refine gw_istore (lv' := [(4, .int (f_Mac_grow k an)), (0, .int k), (1, .int an), (2, .int ct), (3, .ref h)]) S dc_Mac_cryptogram_5 (by decide) rfl ?_
  refine gw_iload S dc_Mac_cryptogram_7 0 rfl ?_
  refine gw_iload_n S dc_Mac_cryptogram_9 rfl 3 rfl ?_
  refine gw_sipush (v := 256) S dc_Mac_cryptogram_10 (by decide) ?_
  refine gw_idiv S dc_Mac_cryptogram_13 (by decide) ?_
  refine gw_sipush (v := 256) S dc_Mac_cryptogram_14 (by decide) ?_
  refine gw_irem S dc_Mac_cryptogram_17 (by decide) ?_
  refine gw_callSR (As := [.int (f_Mac_grow k an), .int ((ct / 256) - (ct / 256) / 256 * 256)]) (st := []) S hK (c_Mac_grow l D cA (f_Mac_grow k an) ((ct / 256) - (ct / 256) / 256 * 256) ) (cw_Mac_12 S.2.2.2.2 rfl rfl ⟨Nat.le_of_ble_eq_true rfl, Nat.le_of_ble_eq_true rfl⟩) [] rfl (by decide) rfl rfl (Nat.le_of_ble_eq_true rfl) dc_Mac_cryptogram_18 ⟨Nat.le_of_ble_eq_true rfl, Nat.le_of_ble_eq_true rfl⟩ ?_
  rintro _ rfl
  refine gw_eq (ws' := [(h, .inr (0, [.ref hb, .int n])), (hb, .inl (cA 0, N, .inl f))]) (lv' := [(4, .int (f_Mac_grow k an)), (0, .int k), (1, .int an), (2, .int ct), (3, .ref h)]) (st' := [.int (f_Mac_grow (f_Mac_grow k an) ((ct / 256) - (ct / 256) / 256 * 256))]) (pc' := 21) rfl rfl rfl rfl ?_
  refine gw_istore (lv' := [(4, .int (f_Mac_grow (f_Mac_grow k an) ((ct / 256) - (ct / 256) / 256 * 256))), (0, .int k), (1, .int an), (2, .int ct), (3, .ref h)]) S dc_Mac_cryptogram_21 (by decide) rfl ?_
  refine gw_iload S dc_Mac_cryptogram_23 0 rfl ?_
  refine gw_iload_n S dc_Mac_cryptogram_25 rfl 3 rfl ?_
  refine gw_sipush (v := 256) S dc_Mac_cryptogram_26 (by decide) ?_
  refine gw_irem S dc_Mac_cryptogram_29 (by decide) ?_
  refine gw_callSR (As := [.int (f_Mac_grow (f_Mac_grow k an) ((ct / 256) - (ct / 256) / 256 * 256)), .int (ct - ct / 256 * 256)]) (st := []) S hK (c_Mac_grow l D cA (f_Mac_grow (f_Mac_grow k an) ((ct / 256) - (ct / 256) / 256 * 256)) (ct - ct / 256 * 256) ) (cw_Mac_12 S.2.2.2.2 rfl rfl ⟨Nat.le_of_ble_eq_true rfl, Nat.le_of_ble_eq_true rfl⟩) [] rfl (by decide) rfl rfl (Nat.le_of_ble_eq_true rfl) dc_Mac_cryptogram_30 ⟨Nat.le_of_ble_eq_true rfl, Nat.le_of_ble_eq_true rfl⟩ ?_
  rintro _ rfl
  refine gw_eq (ws' := [(h, .inr (0, [.ref hb, .int n])), (hb, .inl (cA 0, N, .inl f))]) (lv' := [(4, .int (f_Mac_grow (f_Mac_grow k an) ((ct / 256) - (ct / 256) / 256 * 256))), (0, .int k), (1, .int an), (2, .int ct), (3, .ref h)]) (st' := [.int (f_Mac_grow (f_Mac_grow (f_Mac_grow k an) ((ct / 256) - (ct / 256) / 256 * 256)) (ct - ct / 256 * 256))]) (pc' := 33) rfl rfl rfl rfl ?_
  refine gw_istore (lv' := [(4, .int (f_Mac_grow (f_Mac_grow (f_Mac_grow k an) ((ct / 256) - (ct / 256) / 256 * 256)) (ct - ct / 256 * 256))), (0, .int k), (1, .int an), (2, .int ct), (3, .ref h)]) S dc_Mac_cryptogram_33 (by decide) rfl ?_
  refine gw_iconst (v := 0) S dc_Mac_cryptogram_35 (by decide) ?_
  refine gw_istore (lv' := [(5, .int 0), (4, .int (f_Mac_grow (f_Mac_grow (f_Mac_grow k an) ((ct / 256) - (ct / 256) / 256 * 256)) (ct - ct / 256 * 256))), (0, .int k), (1, .int an), (2, .int ct), (3, .ref h)]) S dc_Mac_cryptogram_36 (by decide) rfl ?_
  refine gw_drop [5, 1, 0] (lv' := [(3, .ref h), (4, .int (f_Mac_grow (f_Mac_grow (f_Mac_grow k an) ((ct / 256) - (ct / 256) / 256 * 256)) (ct - ct / 256 * 256))), (5, .int 0)]) rfl ?_
  refine gw_loop (σ := Nat × Int32) (fun (x_ : Nat × Int32) => match x_ with | (j, mv) => (j ≤ k9) ∧ (mv = mc_f f (f_Mac_grow (f_Mac_grow (f_Mac_grow k an) (ct / 256 - ct / 256 / 256 * 256)) (ct - ct / 256 * 256)) j)) (fun (x_ : Nat × Int32) => match x_ with | (j, mv) => k9 - j) (fun (x_ : Nat × Int32) => match x_ with | (j, mv) => [(h, .inr (0, [.ref hb, .int n])), (hb, .inl (cA 0, N, .inl f))]) (fun (x_ : Nat × Int32) => match x_ with | (j, mv) => [(3, .ref h), (4, .int mv), (5, .int (nI j))]) ?_ (0, f_Mac_grow (f_Mac_grow (f_Mac_grow k an) ((ct / 256) - (ct / 256) / 256 * 256)) (ct - ct / 256 * 256)) ?_ rfl rfl
  rotate_left
  · exact ⟨Nat.zero_le _, rfl⟩
  rintro ⟨j, mv⟩ ⟨hj9, hm9⟩ ih_4
  refine gw_eq (ws' := [(h, .inr (0, [.ref hb, .int n])), (hb, .inl (cA 0, N, .inl f))]) (lv' := [(3, .ref h), (4, .int mv), (5, .int (nI j))]) (st' := []) (pc' := 38) rfl rfl rfl rfl ?_
  refine gw_iload S dc_Mac_cryptogram_38 2 rfl ?_
  refine gw_aload_n S dc_Mac_cryptogram_40 rfl 0 rfl ?_
  refine gw_callVR (As := []) (st := [.int (nI j)]) S hK (c_Row_length l D cA h hb n N f ) (cw_Mac_16 S.2.2.2.2 rfl rfl ⟨Nat.le_of_ble_eq_true rfl, Nat.le_of_ble_eq_true rfl⟩) [0, 1] rfl (by decide) 0 rfl rfl rfl rfl rfl (Nat.le_of_ble_eq_true rfl) dc_Mac_cryptogram_41 ⟨Nat.le_of_ble_eq_true rfl, Nat.le_of_ble_eq_true rfl⟩ ?_
  rintro _ rfl
  refine gw_eq (ws' := [(h, .inr (0, [.ref hb, .int n])), (hb, .inl (cA 0, N, .inl f))]) (lv' := [(3, .ref h), (4, .int mv), (5, .int (nI j))]) (st' := [.int n, .int (nI j)]) (pc' := 44) rfl rfl rfl rfl ?_
  refine gw_icmp_ge (tgt := 66) S dc_Mac_cryptogram_44 (by decide) (fun c_6 => ?_) (fun c_6 => ?_)
  · -- taken
    refine gw_iload S dc_Mac_cryptogram_66 1 rfl ?_
    exact gw_iretR S g_r g_k  (by have e9 : j = k9 := Nat.le_antisymm hj9 (lp_ge en9 (by omega) c_6); rw [hm9, e9, en9, nI_clamp (by omega)]) dc_Mac_cryptogram_68
  · -- not
    refine gw_iload S dc_Mac_cryptogram_47 1 rfl ?_
    refine gw_aload_n S dc_Mac_cryptogram_49 rfl 0 rfl ?_
    refine gw_iload S dc_Mac_cryptogram_50 2 rfl ?_
    refine gw_callVR (As := [.int (nI j)]) (st := [.int mv]) S hK (c_Row_at l D cA h hb n N f (nI j) (by assumption)) (cw_Mac_22 S.2.2.2.2 rfl rfl ⟨Nat.le_of_ble_eq_true rfl, Nat.le_of_ble_eq_true rfl⟩) [0, 1] rfl (by decide) 0 rfl rfl rfl rfl rfl (Nat.le_of_ble_eq_true rfl) dc_Mac_cryptogram_52 ⟨Nat.le_of_ble_eq_true rfl, Nat.le_of_ble_eq_true rfl⟩ ?_
    rintro _ rfl
    refine gw_eq (ws' := [(h, .inr (0, [.ref hb, .int n])), (hb, .inl (cA 0, N, .inl f))]) (lv' := [(3, .ref h), (4, .int mv), (5, .int (nI j))]) (st' := [.int (f_Row_at n f (nI j)), .int mv]) (pc' := 55) rfl rfl rfl rfl ?_
    refine gw_callSR (As := [.int mv, .int (f_Row_at n f (nI j))]) (st := []) S hK (c_Mac_grow l D cA mv (f_Row_at n f (nI j)) ) (cw_Mac_12 S.2.2.2.2 rfl rfl ⟨Nat.le_of_ble_eq_true rfl, Nat.le_of_ble_eq_true rfl⟩) [] rfl (by decide) rfl rfl (Nat.le_of_ble_eq_true rfl) dc_Mac_cryptogram_55 ⟨Nat.le_of_ble_eq_true rfl, Nat.le_of_ble_eq_true rfl⟩ ?_
    rintro _ rfl
    refine gw_eq (ws' := [(h, .inr (0, [.ref hb, .int n])), (hb, .inl (cA 0, N, .inl f))]) (lv' := [(3, .ref h), (4, .int mv), (5, .int (nI j))]) (st' := [.int (f_Mac_grow mv (f_Row_at n f (nI j)))]) (pc' := 58) rfl rfl rfl rfl ?_
    refine gw_istore (lv' := [(4, .int (f_Mac_grow mv (f_Row_at n f (nI j)))), (3, .ref h), (5, .int (nI j))]) S dc_Mac_cryptogram_58 (by decide) rfl ?_
    refine gw_iinc (v := (nI j) + 1) (lv' := [(5, .int ((nI j) + 1)), (4, .int (f_Mac_grow mv (f_Row_at n f (nI j)))), (3, .ref h)]) S dc_Mac_cryptogram_60 2 rfl rfl (by decide) rfl ?_
    refine gw_goto (tgt := 38) S dc_Mac_cryptogram_63 (by decide) ?_
    refine gw_drop [2, 1, 0] (lv' := [(3, .ref h), (4, .int (f_Mac_grow mv (f_Row_at n f (nI j)))), (5, .int ((nI j) + 1))]) rfl ?_
    refine gw_eq (ws' := [(h, .inr (0, [.ref hb, .int n])), (hb, .inl (cA 0, N, .inl f))]) (lv' := [(3, .ref h), (4, .int (f_Mac_grow mv (f_Row_at n f (nI j)))), (5, .int (nI (j + 1)))]) (st' := []) (pc' := 38) rfl (by simp only [nI_1]) rfl rfl ?_
    exact ih_4 (j + 1, f_Mac_grow mv (f_Row_at n f (nI j))) ⟨(lp_lt en9 (by omega) c_6), (by show _ = f_Mac_grow (mc_f f _ j) (f j); rw [hm9, en9, at_nI (lp_lt en9 (by omega) c_6) (by omega)])⟩ (by have h9 := lp_lt en9 (by omega) c_6; show k9 - (j + 1) < k9 - j; omega)
set_option maxRecDepth 100000 in
set_option maxHeartbeats 4000000 in
theorem c_Tree_first (l : Launch) (D : va_G) (cA : Nat → ClassId) (h : Nat) (hr : Nat) (ht : Nat) (hs : Nat) (hl : Nat) (hi : Nat) (z : Int32) (tg : Nat → Int32) (t : Int32) (hz : rw_ok z 30) : ct_R l D cA yn_Tree_first cd_Tree_first 1 [.ref h, .int t] [(h, .inr (4, [.ref hr, .ref ht, .ref hs, .ref hl, .ref hi, .int z])), (ht, .inl (cA 0, 30, .inl tg))] (fun v_ => v_ = some (.int (ix_v (ix_f tg t (Int32.toNatClampNeg z) 0)))) := by
  refine gw_metR (by decide) rfl (Nat.le_of_ble_eq_true rfl) ?_
  intro p_ e_ s_ m_ args_ below_ meth_ c_ S g_r g_k hK
  refine gw_eq (ws' := [(h, .inr (4, [.ref hr, .ref ht, .ref hs, .ref hl, .ref hi, .int z])), (ht, .inl (cA 0, 30, .inl tg))]) (lv' := [(0, .ref h), (1, .int t)]) (st' := []) (pc' := 0) rfl rfl rfl rfl ?_
  obtain ⟨k9, hk9, hN9, en9⟩ := nw_of hz
  refine gw_iconst (v := 0) S dc_Tree_first_0 (by decide) ?_
  refine gw_istore_n (lv' := [(2, .int 0), (0, .ref h), (1, .int t)]) S dc_Tree_first_1 rfl (by decide) rfl ?_
  refine gw_drop [1, 2, 0] (lv' := [(0, .ref h), (1, .int t), (2, .int 0)]) rfl ?_
  refine gw_loop (σ := Nat) (fun (x_ : Nat) => match x_ with | (j) => (j ≤ k9) ∧ (ix_f tg t k9 0 = ix_f tg t (k9 - j) j)) (fun (x_ : Nat) => match x_ with | (j) => k9 - j) (fun (x_ : Nat) => match x_ with | (j) => [(h, .inr (4, [.ref hr, .ref ht, .ref hs, .ref hl, .ref hi, .int z])), (ht, .inl (cA 0, 30, .inl tg))]) (fun (x_ : Nat) => match x_ with | (j) => [(0, .ref h), (1, .int t), (2, .int (nI j))]) ?_ (0) ?_ rfl rfl
  rotate_left
  · exact ⟨Nat.zero_le _, rfl⟩
  rintro j ⟨hj9, hm9⟩ ih_1
  refine gw_eq (ws' := [(h, .inr (4, [.ref hr, .ref ht, .ref hs, .ref hl, .ref hi, .int z])), (ht, .inl (cA 0, 30, .inl tg))]) (lv' := [(0, .ref h), (1, .int t), (2, .int (nI j))]) (st' := []) (pc' := 2) rfl rfl rfl rfl ?_
  refine gw_iload_n S dc_Tree_first_2 rfl 2 rfl ?_
  refine gw_aload_n S dc_Tree_first_3 rfl 0 rfl ?_
  refine gw_get S hK.1 ic_Tree rfl 5 (by decide) (gw_lk S mw_174) 0 rfl rfl dc_Tree_first_4 ?_
  refine gw_icmp_ge (tgt := 28) S dc_Tree_first_7 (by decide) (fun c_2 => ?_) (fun c_2 => ?_)
  · -- taken
    refine gw_iconst (v := -1) S dc_Tree_first_28 (by decide) ?_
    exact gw_iretR S g_r g_k  (by have e9 : j = k9 := Nat.le_antisymm hj9 (lp_ge en9 (by omega) c_2); rw [en9, nI_clamp (by omega), hm9, e9, Nat.sub_self]; rfl) dc_Tree_first_29
  · -- not
    refine gw_aload_n S dc_Tree_first_10 rfl 0 rfl ?_
    refine gw_get S hK.1 ic_Tree rfl 1 (by decide) (gw_lk S mw_170) 0 rfl rfl dc_Tree_first_11 ?_
    refine gw_iload_n S dc_Tree_first_14 rfl 2 rfl ?_
    refine gw_iald S hK.1 1 0 rfl rfl (vp_in_nI (by have := lp_lt en9 (by omega) c_2; omega) (by omega)) dc_Tree_first_15 ?_
    refine gw_iload_n S dc_Tree_first_16 rfl 1 rfl ?_
    refine gw_icmp_ne (tgt := 22) S dc_Tree_first_17 (by decide) (fun c_3 => ?_) (fun c_3 => ?_)
    · -- taken
      refine gw_iinc (v := (nI j) + 1) (lv' := [(2, .int ((nI j) + 1)), (0, .ref h), (1, .int t)]) S dc_Tree_first_22 2 rfl rfl (by decide) rfl ?_
      refine gw_goto (tgt := 2) S dc_Tree_first_25 (by decide) ?_
      refine gw_drop [1, 2, 0] (lv' := [(0, .ref h), (1, .int t), (2, .int ((nI j) + 1))]) rfl ?_
      refine gw_eq (ws' := [(h, .inr (4, [.ref hr, .ref ht, .ref hs, .ref hl, .ref hi, .int z])), (ht, .inl (cA 0, 30, .inl tg))]) (lv' := [(0, .ref h), (1, .int t), (2, .int (nI (j + 1)))]) (st' := []) (pc' := 2) rfl (by simp only [nI_1]) rfl rfl ?_
      exact ih_1 (j + 1) ⟨(lp_lt en9 (by omega) c_2), (by obtain ⟨q, hq⟩ : ∃ q, k9 - j = q + 1 := ⟨k9 - j - 1, by have := (lp_lt en9 (by omega) c_2); omega⟩; rw [hq] at hm9; rw [show k9 - (j + 1) = q by omega]; rw [hm9, ix_f, if_neg (nI_clamp (n := j) (by omega) ▸ c_3)])⟩ (by have h9 := (lp_lt en9 (by omega) c_2); show k9 - (j + 1) < k9 - j; omega)
    · -- not
      refine gw_iload_n S dc_Tree_first_20 rfl 2 rfl ?_
      exact gw_iretR S g_r g_k  (by obtain ⟨q, hq⟩ : ∃ q, k9 - j = q + 1 := ⟨k9 - j - 1, by have := (lp_lt en9 (by omega) c_2); omega⟩; rw [en9, nI_clamp (by omega), hm9, hq, ix_f, if_pos (nI_clamp (n := j) (by omega) ▸ c_3)]; rfl) dc_Tree_first_21
set_option maxRecDepth 100000 in
set_option maxHeartbeats 4000000 in
theorem c_Row_copy (l : Launch) (D : va_G) (cA : Nat → ClassId) (sz : Nat) (h : Nat) (hb : Nat) (n : Int32) (f : Nat → Int32) (h2 : Nat) (hb2 : Nat) (n2 : Int32) (g : Nat → Int32) (hN : rw_ok n2 60) : ct_M l D cA yn_Row_copy cd_Row_copy 2 0 0 sz [.ref h, .ref h2] [(h, .inr (0, [.ref hb, .int n])), (hb, .inl (cA 0, 60, .inl f)), (h2, .inr (0, [.ref hb2, .int n2])), (hb2, .inl (cA 0, 60, .inl g))] (fun v_ w_ => v_ = none ∧ w_ = [(h, .inr (0, [.ref hb, .int n2])), (hb, .inl (cA 0, 60, .inl (cp_f f g (Int32.toNatClampNeg n2)))), (h2, .inr (0, [.ref hb2, .int n2])), (hb2, .inl (cA 0, 60, .inl g))]) := by
  refine gw_met (by decide) rfl (Nat.le_of_ble_eq_true rfl) ?_
  intro p_ e_ s_ m_ args_ below_ meth_ c_ A_ S g_r g_k g_n hK hA
  refine gw_eq (ws' := [(h, .inr (0, [.ref hb, .int n])), (hb, .inl (cA 0, 60, .inl f)), (h2, .inr (0, [.ref hb2, .int n2])), (hb2, .inl (cA 0, 60, .inl g))]) (lv' := [(0, .ref h), (1, .ref h2)]) (st' := []) (pc' := 0) rfl rfl rfl rfl ?_
  obtain ⟨k9, hk9, hN9, en9⟩ := nw_of hN
  refine gw_aload_n S dc_Row_copy_0 rfl 0 rfl ?_
  refine gw_callV (As := []) (st := []) (wr := [(h2, .inr (0, [.ref hb2, .int n2])), (hb2, .inl (cA 0, 60, .inl g))]) S hK hA (fun sz => c_Row_clear l D cA sz h hb n 60 f ) (cw_Row_19 S.2.2.2.2 rfl rfl ⟨Nat.le_of_ble_eq_true rfl, Nat.le_of_ble_eq_true rfl⟩) [0, 1] [2, 3] rfl (by decide) rfl (by decide) (by decide) 0 rfl rfl rfl rfl rfl (Nat.le_of_ble_eq_true rfl) dc_Row_copy_1 ⟨Nat.le_of_ble_eq_true rfl, Nat.le_of_ble_eq_true rfl⟩ ?_
  rintro _ _ ⟨rfl, rfl⟩
  refine gw_eq (ws' := [(h2, .inr (0, [.ref hb2, .int n2])), (hb2, .inl (cA 0, 60, .inl g)), (h, .inr (0, [.ref hb, .int 0])), (hb, .inl (cA 0, 60, .inl f))]) (lv' := [(0, .ref h), (1, .ref h2)]) (st' := []) (pc' := 4) rfl rfl rfl rfl ?_
  refine gw_iconst (v := 0) S dc_Row_copy_4 (by decide) ?_
  refine gw_istore_n (lv' := [(2, .int 0), (0, .ref h), (1, .ref h2)]) S dc_Row_copy_5 rfl (by decide) rfl ?_
  refine gw_drop [1, 2, 0] (lv' := [(0, .ref h), (1, .ref h2), (2, .int 0)]) rfl ?_
  refine gw_loop (σ := Nat) (fun (x_ : Nat) => match x_ with | (j) => (j ≤ k9)) (fun (x_ : Nat) => match x_ with | (j) => k9 - j) (fun (x_ : Nat) => match x_ with | (j) => [(h2, .inr (0, [.ref hb2, .int n2])), (hb2, .inl (cA 0, 60, .inl g)), (h, .inr (0, [.ref hb, .int (nI j)])), (hb, .inl (cA 0, 60, .inl (cp_f f g j)))]) (fun (x_ : Nat) => match x_ with | (j) => [(0, .ref h), (1, .ref h2), (2, .int (nI j))]) ?_ (0) ?_ rfl rfl
  rotate_left
  · exact Nat.zero_le _
  rintro j hj9 ih_1
  refine gw_eq (ws' := [(h2, .inr (0, [.ref hb2, .int n2])), (hb2, .inl (cA 0, 60, .inl g)), (h, .inr (0, [.ref hb, .int (nI j)])), (hb, .inl (cA 0, 60, .inl (cp_f f g j)))]) (lv' := [(0, .ref h), (1, .ref h2), (2, .int (nI j))]) (st' := []) (pc' := 6) rfl rfl rfl rfl ?_
  refine gw_iload_n S dc_Row_copy_6 rfl 2 rfl ?_
  refine gw_aload_n S dc_Row_copy_7 rfl 1 rfl ?_
  refine gw_get S hK.1 ic_Row rfl 1 (by decide) (gw_lk S mw_36) 0 rfl rfl dc_Row_copy_8 ?_
  refine gw_icmp_ge (tgt := 30) S dc_Row_copy_11 (by decide) (fun c_2 => ?_) (fun c_2 => ?_)
  · -- taken
    exact gw_vret (w := [(h, .inr (0, [.ref hb, .int (nI j)])), (hb, .inl (cA 0, 60, .inl (cp_f f g j))), (h2, .inr (0, [.ref hb2, .int n2])), (hb2, .inl (cA 0, 60, .inl g))]) S g_r g_k  [2, 3, 0, 1] rfl (by decide) ⟨rfl, by have e9 : j = k9 := Nat.le_antisymm hj9 (lp_ge en9 (by omega) c_2); rw [en9, e9, nI_clamp (by omega)]⟩ dc_Row_copy_30
  · -- not
    refine gw_aload_n S dc_Row_copy_14 rfl 0 rfl ?_
    refine gw_aload_n S dc_Row_copy_15 rfl 1 rfl ?_
    refine gw_iload_n S dc_Row_copy_16 rfl 2 rfl ?_
    refine gw_callVR (As := [.int (nI j)]) (st := [.ref h]) S hK (c_Row_at l D cA h2 hb2 n2 60 g (nI j) (by assumption)) (cw_Row_22 S.2.2.2.2 rfl rfl ⟨Nat.le_of_ble_eq_true rfl, Nat.le_of_ble_eq_true rfl⟩) [0, 1] rfl (by decide) 0 rfl rfl rfl rfl rfl (Nat.le_of_ble_eq_true rfl) dc_Row_copy_17 ⟨Nat.le_of_ble_eq_true rfl, Nat.le_of_ble_eq_true rfl⟩ ?_
    rintro _ rfl
    refine gw_eq (ws' := [(h2, .inr (0, [.ref hb2, .int n2])), (hb2, .inl (cA 0, 60, .inl g)), (h, .inr (0, [.ref hb, .int (nI j)])), (hb, .inl (cA 0, 60, .inl (cp_f f g j)))]) (lv' := [(0, .ref h), (1, .ref h2), (2, .int (nI j))]) (st' := [.int (f_Row_at n2 g (nI j)), .ref h]) (pc' := 20) rfl rfl rfl rfl ?_
    refine gw_callV (As := [.int (f_Row_at n2 g (nI j))]) (st := []) (wr := [(h2, .inr (0, [.ref hb2, .int n2])), (hb2, .inl (cA 0, 60, .inl g))]) S hK hA (fun sz => c_Row_add l D cA sz h hb (nI j) 60 (cp_f f g j) (f_Row_at n2 g (nI j)) (rw_nI (by have := lp_lt en9 (by omega) c_2; omega) (by decide))) (cw_Row_26 S.2.2.2.2 rfl rfl ⟨Nat.le_of_ble_eq_true rfl, Nat.le_of_ble_eq_true rfl⟩) [2, 3] [0, 1] rfl (by decide) rfl (by decide) (by decide) 0 rfl rfl rfl rfl rfl (Nat.le_of_ble_eq_true rfl) dc_Row_copy_20 ⟨Nat.le_of_ble_eq_true rfl, Nat.le_of_ble_eq_true rfl⟩ ?_
    rintro _ _ ⟨rfl, rfl⟩
    refine gw_eq (ws' := [(h2, .inr (0, [.ref hb2, .int n2])), (hb2, .inl (cA 0, 60, .inl g)), (h, .inr (0, [.ref hb, .int (f_Row_add_length (nI j) 60)])), (hb, .inl (cA 0, 60, .inl (f_Row_add_1 (nI j) 60 (cp_f f g j) (f_Row_at n2 g (nI j)))))]) (lv' := [(0, .ref h), (1, .ref h2), (2, .int (nI j))]) (st' := [.int (f_Row_add (nI j) 60)]) (pc' := 23) rfl rfl rfl rfl ?_
    refine gw_pop S dc_Row_copy_23 rfl ?_
    refine gw_iinc (v := (nI j) + 1) (lv' := [(2, .int ((nI j) + 1)), (0, .ref h), (1, .ref h2)]) S dc_Row_copy_24 2 rfl rfl (by decide) rfl ?_
    refine gw_goto (tgt := 6) S dc_Row_copy_27 (by decide) ?_
    refine gw_drop [1, 2, 0] (lv' := [(0, .ref h), (1, .ref h2), (2, .int ((nI j) + 1))]) rfl ?_
    refine gw_eq (ws' := [(h2, .inr (0, [.ref hb2, .int n2])), (hb2, .inl (cA 0, 60, .inl g)), (h, .inr (0, [.ref hb, .int (nI (j + 1))])), (hb, .inl (cA 0, 60, .inl (cp_f f g (j + 1))))]) (lv' := [(0, .ref h), (1, .ref h2), (2, .int (nI (j + 1)))]) (st' := []) (pc' := 6) (by rw [add_nI (by have := lp_lt en9 (by omega) c_2; omega) (by decide), add_nI1 (by have := lp_lt en9 (by omega) c_2; omega) (by decide), en9, at_nI (lp_lt en9 (by omega) c_2) (by omega), cp_s]) (by simp only [nI_1]) rfl rfl ?_
    exact ih_1 (j + 1) (lp_lt en9 (by omega) c_2) (by have h9 := (lp_lt en9 (by omega) c_2); show k9 - (j + 1) < k9 - j; omega)
