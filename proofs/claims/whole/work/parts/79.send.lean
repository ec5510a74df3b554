theorem w2 {x : Int32} (h : ¬ f_PC_isWithin x 0 2 = 0) : x = 0 ∨ x = 1 ∨ x = 2 := by
  unfold f_PC_isWithin at h
  by_cases c : x < 0
  · rw [if_pos c] at h; exact absurd rfl h
  · obtain ⟨j, hj, rfl⟩ := nI_of c
    rw [if_neg c] at h
    rcases Nat.lt_or_ge 2 j with q | q
    · rw [if_pos (show (2 : Int32) < nI j from nI_lt (a := 2) q hj)] at h
      exact absurd rfl h
    · rcases (show j = 0 ∨ j = 1 ∨ j = 2 by omega) with e | e | e <;> subst e
      · exact Or.inl rfl
      · exact Or.inr (Or.inl rfl)
      · exact Or.inr (Or.inr rfl)
theorem sd_bb {bal pam pcd pbk : Nat → Int32} {k9 rp rc : Nat} (h : ∀ j, j < 8 → 0 ≤ (bal j).toInt ∧ (bal j).toInt ≤ 9999999 + 999999 * (k9 : Int)) (hk : k9 < 512) (hr : rc < 8) (h0 : 0 ≤ (pam rp).toInt) (h1 : (pam rp).toInt ≤ 999999) : ∀ j, j < 8 → 0 ≤ ((if pcd rp = 1 then (if pbk rp = 0 then upd bal rc (bal rc + pam rp) else bal) else bal) j).toInt ∧ ((if pcd rp = 1 then (if pbk rp = 0 then upd bal rc (bal rc + pam rp) else bal) else bal) j).toInt ≤ 9999999 + 999999 * ((k9 + 1 : Nat) : Int) := by
  intro j hj
  have hj' := h j hj
  have hc' := h rc hr
  split
  · split
    · show 0 ≤ (if j = rc then bal rc + pam rp else bal j).toInt ∧ (if j = rc then bal rc + pam rp else bal j).toInt ≤ _
      by_cases e : j = rc
      · rw [if_pos e]
        have e1 : (bal rc + pam rp).toInt = (bal rc).toInt + (pam rp).toInt := by
          rw [Int32.toInt_add]
          exact Int.bmod_eq_of_le (by omega) (by omega)
        rw [e1]
        omega
      · rw [if_neg e]; omega
    · omega
  · omega
theorem sd_n {pcd pbk : Nat → Int32} {rp p : Nat} (h : ∀ j, p < j → pbk j = 0) (hp : rp ≤ p) : ∀ j, p < j → (if pcd rp = 1 then (if pbk rp = 0 then upd pbk rp 1 else pbk) else pbk) j = 0 := by
  intro j hj
  split
  · split
    · show (if j = rp then 1 else pbk j) = 0
      rw [if_neg (by omega)]; exact h j hj
    · exact h j hj
  · exact h j hj
theorem sd_V {pam pcd pbk : Nat → Int32} {rp : Nat} {L : List (Nat × Nat × Nat)} (h : ∀ b ∈ L, rp < b.2.1) : L.map (rv_c pam pcd (if pcd rp = 1 then (if pbk rp = 0 then upd pbk rp 1 else pbk) else pbk)) = L.map (rv_c pam pcd pbk) := by
  apply List.map_congr_left
  intro b hb
  have := h b hb
  unfold rv_c
  rw [du_other (p8 := rp) (p := b.2.1) (by omega)]
theorem se_sim {que : Nat → Int32} {c : Nat} (hc : c ≤ 6) : ∀ (j k : Nat) (qf : Nat → Int32), 1 ≤ k → k + j = c → (∀ i, i + 1 < k → qf i = que (i + 1)) → (∀ i, k ≤ i + 1 → qf i = que i) → ∀ i, i + 1 < c → Mod_send_f c que (j + 1) (k, qf) i = que (i + 1)
  | 0, k, qf, h1, h2, ha, hb, i, hi => by
    have e : k = c := by omega
    subst e
    rw [Mod_send_d (rr_ := qf) (by show (if nI k ≤ nI k then _ else _) = _; rw [if_pos (nI_le (Nat.le_refl _) (by omega))])]
    exact ha i hi
  | j + 1, k, qf, h1, h2, ha, hb, i, hi => by
    rw [Mod_send_n (yy_ := (k + 1, upd qf (k - 1) (qf k))) (by show (if nI c ≤ nI k then _ else _) = _; rw [if_neg (nI_ge (by omega) (by omega))])]
    refine se_sim hc j (k + 1) _ (by omega) (by omega) (fun i hi => ?_) (fun i hi => ?_) i hi
    · show (if i = k - 1 then qf k else qf i) = que (i + 1)
      by_cases e : i = k - 1
      · rw [if_pos e, hb k (by omega)]
        congr 1
        omega
      · rw [if_neg e]; exact ha i (by omega)
    · show (if i = k - 1 then qf k else qf i) = que i
      rw [if_neg (by omega)]
      exact hb i (by omega)
theorem se_q {que : Nat → Int32} {c : Nat} (h1 : 1 ≤ c) (hc : c ≤ 6) : ∀ i, i + 1 < c → Mod_send_r c que i = que (i + 1) := by
  intro i hi
  unfold Mod_send_r
  exact se_sim hc (c - 1) 1 que (Nat.le_refl _) (by omega) (fun i hi => by omega) (fun i _ => rfl) i hi
theorem pw_tl {A B S C V : va_W} : (A ++ (B ++ (S ++ (C ++ V)))).Perm ((A ++ V) ++ (B ++ (S ++ C))) := by
  rw [List.append_assoc]
  refine List.Perm.append_left A ?_
  have e : B ++ (S ++ (C ++ V)) = (B ++ (S ++ C)) ++ V := by simp only [List.append_assoc]
  rw [e]
  exact List.perm_append_comm
theorem pw_lt {A B S C V : va_W} : ((B ++ (S ++ C)) ++ (A ++ V)).Perm ((B ++ A) ++ (S ++ (C ++ V))) := by
  simp only [List.append_assoc]
  refine List.Perm.append_left B ?_
  have e1 : S ++ (C ++ (A ++ V)) = (S ++ C) ++ (A ++ V) := by rw [List.append_assoc]
  have e2 : A ++ (S ++ (C ++ V)) = A ++ ((S ++ C) ++ V) := by rw [List.append_assoc]
  rw [e1, e2]
  exact List.perm_append_comm_assoc _ _ _
set_option maxRecDepth 100000 in
set_option maxHeartbeats 4000000 in
theorem pr_send (l : Launch) (D : va_G) (cA : Nat → ClassId) (ut9 ed9 k9 x m : Nat) (cw mw : va_W) (a1 : Int32) (hk9 : k9 < 512) (h : lq_R cA ed9 k9 x m cw mw) : lq_P l D cA ut9 ed9 yn_PC_send cd_PC_send yn_Mod_send cd_Mod_send [.ref x, .int a1] [.ref m, .int a1] cw mw (lq_R cA ed9 (k9 + 1) x m) := by
  refine h _ ?_
  intro tx tb ca te hs hh h1 h2 h3 hp hd db qu hq sp xm xs xt xk xp xr xc xu xe xb xa xl xg x1 x2 x3 x4 xq xz xd pl ap n am ty fa oc fl wi fi fc s2 sc co mq ft tw inn bd fl2 p c d t4 f g cf b k la df M Z the kys pin trs cou run see bal lst pac pam pcd pbk que S Q V K hcw hmw hB hr hK hb hbb hl hd9 hp9 hn hS hQ
  have hQ9 := hQ
  obtain ⟨L, G, hLc, hc6, hV, hLi, hpw, hform⟩ := hQ9
  by_cases hx : f_PC_isWithin a1 0 2 = 0 ∨ g 2 = 0 ∨ c = 0
  · refine ⟨_, lc_R (hcw.trans (pm_head (A := ([(x, .inr (7, [.ref tx, .ref ca, .ref te, .ref hh, .ref hp, .ref qu, .ref sp, .int pl, .int ap])), (te, .inr (1, [.ref hs])), (hs, .inl (cA 0, 7, .inl g)), (qu, .inr (8, [.ref hq, .int (nI c), .int mq]))] : va_W)) (B := ([(tx, .inr (0, [.ref tb, .int n])), (tb, .inl (cA 0, 60, .inl f)), (ca, .inl (cA 3, 4, .inr (.inr (.inr (.inr cf))))), (hh, .inr (2, [.ref h1, .ref h2, .ref h3, .int (nI (op_n pcd pbk p))])), (h1, .inl (cA 1, 8, .inr (.inl b))), (h2, .inl (cA 0, 8, .inl k)), (h3, .inl (cA 0, 8, .inl la)), (hp, .inr (3, [.ref hd, .int (nI p), .int am, .int ty, .int fa, .int oc, .int fl, .int wi, .int fi, .int fc, .int s2, .int sc, .int co])), (hd, .inr (0, [.ref db, .int (nI d)])), (db, .inl (cA 0, 40, .inl df))] : va_W)) 14 rfl [0, 4, 5, 13, 1, 2, 3, 6, 7, 8, 9, 10, 11, 12] (by decide +kernel) rfl)) (by decide) (c_PC_send_r l D cA x tx ca te hh hp qu sp pl ap hs g hq c mq a1 hx), ?_⟩
    rintro _ _ ⟨rfl, rfl⟩
    refine ⟨_, rfl, _, lc_R (hmw.trans (pm_e (X' := ([(m, .inr (9, [.ref xm, .ref xs, .ref xt, .ref xk, .ref xp, .ref xr, .ref xc, .ref xu, .ref xe, .ref xb, .ref xa, .ref xl, .ref xg, .int pl, .int ft, .int tw, .int inn, .int bd, .int (nI p), .ref x1, .ref x2, .ref x3, .ref x4, .int ap, .ref xq, .int (nI c), .ref xz, .ref xd, .int (nI d), .int fl2, .int (nI t4)])), (xg, .inl (cA 0, 7, .inl g))] ++ [(xm, .inl (cA 0, 300, .inl (nJ M))), (xs, .inl (cA 0, 5, .inl (nJ Z))), (xt, .inl (cA 2, 4, .inl the)), (xk, .inl (cA 0, 4, .inl kys)), (xp, .inl (cA 0, 4, .inl pin)), (xr, .inl (cA 0, 4, .inl trs)), (xc, .inl (cA 0, 4, .inl cou)), (xu, .inl (cA 0, 4, .inl run)), (xe, .inl (cA 2, 4, .inl see)), (xb, .inl (cA 0, 8, .inl bal)), (xa, .inl (cA 0, 8, .inl k)), (xl, .inl (cA 0, 8, .inl la)), (x1, .inl (cA 0, 513, .inl pac)), (x2, .inl (cA 0, 513, .inl pam)), (x3, .inl (cA 0, 513, .inl pcd)), (x4, .inl (cA 2, 513, .inl pbk)), (xq, .inl (cA 0, 7, .inl que)), (xz, .inl (cA 0, 9, .inl lst)), (xd, .inl (cA 0, 40, .inl df))] : va_W)) 21 rfl [0, 13, 1, 2, 3, 4, 5, 6, 7, 8, 9, 10, 11, 12, 14, 15, 16, 17, 18, 19, 20] (by decide +kernel) rfl)) (by decide) (c_Mod_send_r l D cA m xm xs xt xk xp xr xc xu xe xb xa xl xg x1 x2 x3 x4 xq xz xd pl ft tw inn bd (nI p) ap (nI d) fl2 (nI t4) c g a1 hx hc6), ?_⟩
    rintro _ _ ⟨rfl, rfl⟩
    refine ⟨rfl, ?_⟩
    exact fun P_ kk_ => kk_ tx tb ca te hs hh h1 h2 h3 hp hd db qu hq sp xm xs xt xk xp xr xc xu xe xb xa xl xg x1 x2 x3 x4 xq xz xd pl ap n am ty fa oc fl wi fi fc s2 sc co mq ft tw inn bd fl2 p c d t4 f g cf b k la df M Z the kys pin trs cou run see bal lst pac pam pcd pbk que S Q V K hcw hmw hB hr hK hb (fun j hj => ⟨(hbb j hj).1, by have := (hbb j hj).2; omega⟩) hl hd9 (Nat.le_succ_of_le hp9) hn hS hQ
  · have hx1 : ¬ f_PC_isWithin a1 0 2 = 0 := fun q => hx (Or.inl q)
    have hg2 : ¬ g 2 = 0 := fun q => hx (Or.inr (Or.inl q))
    have hc0 : 0 < c := Nat.pos_of_ne_zero (fun q => hx (Or.inr (Or.inr q)))
    cases L with
    | nil => exact absurd hLc (by simp; omega)
    | cons r8 L8 =>
      obtain ⟨ra, rp, rc⟩ := r8
      obtain ⟨q0, q1, q2, q3, q4, q5, q6⟩ := hLi 0 (ra, rp, rc) rfl
      have q0 : que 0 = nI rp := q0
      have q1 : pac rp = nI rc := q1
      have q2 : rc < 8 := q2
      have q3 : 1 ≤ rp := q3
      have q4 : rp ≤ p := q4
      have q5 : 0 ≤ (pam rp).toInt := q5
      have q6 : (pam rp).toInt ≤ 999999 := q6
      have hpw8 := List.pairwise_cons.mp hpw
      rcases hform with ⟨_, _, q⟩ | ⟨fq, hQe, hfq⟩
      · exact absurd q (by omega)
      · have hf0 : fq 0 = some ra := hfq 0 (ra, rp, rc) rfl
        have hrb := (hbb rc q2)
        have hbal := rv_bal (pcd := pcd) (pbk := pbk) (p8 := rp) q2 hb hrb.1 q5 (by omega)
        have hstd := rv_std (pcd := pcd) (pbk := pbk) (p8 := rp) (p := p) q2 q3 q4 (by omega)
        have hdue := rv_due (pcd := pcd) (pbk := pbk) (p8 := rp) (a8 := rc) q2
        have hbb9 := sd_bb (pcd := pcd) (pbk := pbk) hbb hk9 q2 q5 q6
        have hn9 := sd_n (pcd := pcd) hn q4
        have hV9 := sd_V (pam := pam) (pcd := pcd) (pbk := pbk) hpw8.1
        have hcx := hcw
        rw [hQe, hV] at hcx
        have hcx := hcx.trans (pw_rev (V' := L8.map (rv_c pam pcd pbk) ++ G) (List.Perm.refl _))
        rcases w2 hx1 with rfl | rfl | rfl
        · by_cases hc1 : c = 1
          · subst hc1
            have hL8 : L8 = [] := List.eq_nil_of_length_eq_zero (by simpa using hLc)
            subst hL8
            refine ⟨_, lc_M (hcx.trans (pm_head (A := ([(x, .inr (7, [.ref tx, .ref ca, .ref te, .ref hh, .ref hp, .ref qu, .ref sp, .int pl, .int ap])), (te, .inr (1, [.ref hs])), (hs, .inl (cA 0, 7, .inl g)), (qu, .inr (8, [.ref hq, .int (nI 1), .int mq])), (hq, .inl (cA 4, 10, .inr (.inr (.inr (.inr fq))))), (hh, .inr (2, [.ref h1, .ref h2, .ref h3, .int (nI (op_n pcd pbk p))])), (h1, .inl (cA 1, 8, .inr (.inl b))), (ra, .inr (6, [.int (nI rp), .int (nI rc), .int (pam rp), .int (du_v pcd pbk rp)]))] : va_W)) (B := ([(tx, .inr (0, [.ref tb, .int n])), (tb, .inl (cA 0, 60, .inl f)), (ca, .inl (cA 3, 4, .inr (.inr (.inr (.inr cf))))), (h2, .inl (cA 0, 8, .inl k)), (h3, .inl (cA 0, 8, .inl la)), (hp, .inr (3, [.ref hd, .int (nI p), .int am, .int ty, .int fa, .int oc, .int fl, .int wi, .int fi, .int fc, .int s2, .int sc, .int co])), (hd, .inr (0, [.ref db, .int (nI d)])), (db, .inl (cA 0, 40, .inl df))] : va_W)) 16 rfl [0, 4, 5, 13, 14, 6, 7, 15, 1, 2, 3, 8, 9, 10, 11, 12] (by decide +kernel) rfl)) (by decide) (by decide) (by decide) (fun sz => c_PC_send_0a l D cA sz x tx ca te hh hp qu sp pl ap hs g hq mq fq h1 h2 h3 (nI (op_n pcd pbk p)) b ra (nI rp) (nI rc) (pam rp) (du_v pcd pbk rp) hg2 hf0), ?_⟩
            rintro _ _ ⟨_, ⟨rfl, rfl⟩, rfl⟩
            refine ⟨_, rfl, _, lc_M (hmw.trans (pm_e (X' := ([(m, .inr (9, [.ref xm, .ref xs, .ref xt, .ref xk, .ref xp, .ref xr, .ref xc, .ref xu, .ref xe, .ref xb, .ref xa, .ref xl, .ref xg, .int pl, .int ft, .int tw, .int inn, .int bd, .int (nI p), .ref x1, .ref x2, .ref x3, .ref x4, .int ap, .ref xq, .int (nI 1), .ref xz, .ref xd, .int (nI d), .int fl2, .int (nI t4)])), (xg, .inl (cA 0, 7, .inl g)), (xb, .inl (cA 0, 8, .inl bal)), (xq, .inl (cA 0, 7, .inl que)), (x1, .inl (cA 0, 513, .inl pac)), (x2, .inl (cA 0, 513, .inl pam)), (x3, .inl (cA 0, 513, .inl pcd)), (x4, .inl (cA 2, 513, .inl pbk))] ++ [(xm, .inl (cA 0, 300, .inl (nJ M))), (xs, .inl (cA 0, 5, .inl (nJ Z))), (xt, .inl (cA 2, 4, .inl the)), (xk, .inl (cA 0, 4, .inl kys)), (xp, .inl (cA 0, 4, .inl pin)), (xr, .inl (cA 0, 4, .inl trs)), (xc, .inl (cA 0, 4, .inl cou)), (xu, .inl (cA 0, 4, .inl run)), (xe, .inl (cA 2, 4, .inl see)), (xa, .inl (cA 0, 8, .inl k)), (xl, .inl (cA 0, 8, .inl la)), (xz, .inl (cA 0, 9, .inl lst)), (xd, .inl (cA 0, 40, .inl df))] : va_W)) 21 rfl [0, 13, 10, 18, 14, 15, 16, 17, 1, 2, 3, 4, 5, 6, 7, 8, 9, 11, 12, 19, 20] (by decide +kernel) rfl)) (by decide) (by decide) (by decide) (fun sz => c_Mod_send_0 l D cA sz m xm xs xt xk xp xr xc xu xe xb xa xl xg x1 x2 x3 x4 xq xz xd pl ft tw inn bd (nI p) ap (nI d) fl2 (nI t4) 1 g bal que pac pam pcd pbk rp rc (if pcd rp = 1 then (if pbk rp = 0 then upd bal rc (bal rc + pam rp) else bal) else bal) (if pcd rp = 1 then (if pbk rp = 0 then upd pbk rp 1 else pbk) else pbk) hg2 hc0 hc6 q0 (by omega) q1 q2 rfl rfl), ?_⟩
            rintro _ _ ⟨_, ⟨rfl, rfl⟩, rfl⟩
            refine ⟨rfl, ?_⟩
            exact fun P_ kk_ => kk_ tx tb ca te hs hh h1 h2 h3 hp hd db qu hq sp xm xs xt xk xp xr xc xu xe xb xa xl xg x1 x2 x3 x4 xq xz xd pl ap n am ty fa oc fl wi fi fc s2 sc co (mq + 1) ft tw inn bd fl2 p 0 d t4 f g cf (f_Host_reverse_1 b (nI rc) (pam rp) (du_v pcd pbk rp)) k la df M Z the kys pin trs cou run see (if pcd rp = 1 then (if pbk rp = 0 then upd bal rc (bal rc + pam rp) else bal) else bal) lst pac pam pcd (if pcd rp = 1 then (if pbk rp = 0 then upd pbk rp 1 else pbk) else pbk) (Mod_send_r 1 que) S ([(hq, .inl (cA 4, 10, .inr (.inr (.inr (.inr (va_up fq 0 none))))))]) ((ra, .inr (6, [.int (nI rp), .int (nI rc), .int (pam rp), .int 0])) :: G) K (by rw [hstd, hdue]; exact ((pm_mid _ _ _).trans (pm_ix 16 rfl [8, 0, 1, 2, 9, 10, 13, 14, 3, 4, 5, 6, 7, 11, 12, 15] (by decide +kernel) rfl)).trans (pw_rev (B := [(x, .inr (7, [.ref tx, .ref ca, .ref te, .ref hh, .ref hp, .ref qu, .ref sp, .int pl, .int ap])), (tx, .inr (0, [.ref tb, .int n])), (tb, .inl (cA 0, 60, .inl f)), (ca, .inl (cA 3, 4, .inr (.inr (.inr (.inr cf))))), (te, .inr (1, [.ref hs])), (hs, .inl (cA 0, 7, .inl g)), (hh, .inr (2, [.ref h1, .ref h2, .ref h3, .int (nI (op_n pcd (if pcd rp = 1 then (if pbk rp = 0 then upd pbk rp 1 else pbk) else pbk) p))])), (h1, .inl (cA 1, 8, .inr (.inl (f_Host_reverse_1 b (nI rc) (pam rp) (du_v pcd pbk rp))))), (h2, .inl (cA 0, 8, .inl k)), (h3, .inl (cA 0, 8, .inl la)), (hp, .inr (3, [.ref hd, .int (nI p), .int am, .int ty, .int fa, .int oc, .int fl, .int wi, .int fi, .int fc, .int s2, .int sc, .int co])), (hd, .inr (0, [.ref db, .int (nI d)])), (db, .inl (cA 0, 40, .inl df)), (qu, .inr (8, [.ref hq, .int (nI 0), .int (mq + 1)]))]) (S := S) (C := cs_all K) (V' := G) (List.Perm.refl _)).symm) (pm_e 21 rfl [13, 0, 1, 2, 3, 4, 5, 6, 7, 8, 15, 9, 10, 14, 17, 18, 19, 20, 16, 11, 12] (by decide +kernel) rfl) hB hr hK hbal hbb9 hl hd9 (Nat.le_succ_of_le hp9) hn9 hS (⟨[], (ra, .inr (6, [.int (nI rp), .int (nI rc), .int (pam rp), .int 0])) :: G, rfl, by decide, rfl, fun i r hi => absurd hi (by simp), List.Pairwise.nil, Or.inr ⟨_, rfl, fun i r hi => absurd hi (by simp)⟩⟩)
          · have hel8 : ∀ i, 1 ≤ i → i < c → ∀ y, fq i = some y → ∃ (k : Nat) (fs : List Value), (L8.map (rv_c pam pcd pbk) ++ G)[k]? = some (y, .inr (6, fs)) := (fun i h1 h2 y hy => by
              obtain ⟨r, hr⟩ : ∃ r, L8[i - 1]? = some r := ⟨_, List.getElem?_eq_getElem (by have := hLc; simp at this; omega)⟩
              have hi : ((ra, rp, rc) :: L8)[i]? = some r := by rw [show i = (i - 1) + 1 by omega, List.getElem?_cons_succ]; exact hr
              rw [hfq i r hi] at hy
              cases hy
              exact ⟨i - 1, _, by rw [List.getElem?_append_left (by rw [List.length_map]; exact (List.getElem?_eq_some_iff.mp hr).1), List.getElem?_map, hr]; rfl⟩)
            refine ⟨_, lc_M ((hcx.trans (pm_head (A := ([(x, .inr (7, [.ref tx, .ref ca, .ref te, .ref hh, .ref hp, .ref qu, .ref sp, .int pl, .int ap])), (te, .inr (1, [.ref hs])), (hs, .inl (cA 0, 7, .inl g)), (qu, .inr (8, [.ref hq, .int (nI c), .int mq])), (hq, .inl (cA 4, 10, .inr (.inr (.inr (.inr fq))))), (hh, .inr (2, [.ref h1, .ref h2, .ref h3, .int (nI (op_n pcd pbk p))])), (h1, .inl (cA 1, 8, .inr (.inl b))), (ra, .inr (6, [.int (nI rp), .int (nI rc), .int (pam rp), .int (du_v pcd pbk rp)]))] : va_W)) (B := ([(tx, .inr (0, [.ref tb, .int n])), (tb, .inl (cA 0, 60, .inl f)), (ca, .inl (cA 3, 4, .inr (.inr (.inr (.inr cf))))), (h2, .inl (cA 0, 8, .inl k)), (h3, .inl (cA 0, 8, .inl la)), (hp, .inr (3, [.ref hd, .int (nI p), .int am, .int ty, .int fa, .int oc, .int fl, .int wi, .int fi, .int fc, .int s2, .int sc, .int co])), (hd, .inr (0, [.ref db, .int (nI d)])), (db, .inl (cA 0, 40, .inl df))] : va_W)) 16 rfl [0, 4, 5, 13, 14, 6, 7, 15, 1, 2, 3, 8, 9, 10, 11, 12] (by decide +kernel) rfl)).trans pw_tl) (by decide) (by decide) (by decide) (fun sz => c_PC_send_09 l D cA sz x tx ca te hh hp qu sp pl ap hs g hq c mq fq h1 h2 h3 (nI (op_n pcd pbk p)) b ra (nI rp) (nI rc) (pam rp) (du_v pcd pbk rp) (L8.map (rv_c pam pcd pbk) ++ G) hg2 hc0 hc6 hf0 (by omega) hel8), ?_⟩
            rintro _ _ ⟨_, ⟨rfl, rfl⟩, rfl⟩
            refine ⟨_, rfl, _, lc_M (hmw.trans (pm_e (X' := ([(m, .inr (9, [.ref xm, .ref xs, .ref xt, .ref xk, .ref xp, .ref xr, .ref xc, .ref xu, .ref xe, .ref xb, .ref xa, .ref xl, .ref xg, .int pl, .int ft, .int tw, .int inn, .int bd, .int (nI p), .ref x1, .ref x2, .ref x3, .ref x4, .int ap, .ref xq, .int (nI c), .ref xz, .ref xd, .int (nI d), .int fl2, .int (nI t4)])), (xg, .inl (cA 0, 7, .inl g)), (xb, .inl (cA 0, 8, .inl bal)), (xq, .inl (cA 0, 7, .inl que)), (x1, .inl (cA 0, 513, .inl pac)), (x2, .inl (cA 0, 513, .inl pam)), (x3, .inl (cA 0, 513, .inl pcd)), (x4, .inl (cA 2, 513, .inl pbk))] ++ [(xm, .inl (cA 0, 300, .inl (nJ M))), (xs, .inl (cA 0, 5, .inl (nJ Z))), (xt, .inl (cA 2, 4, .inl the)), (xk, .inl (cA 0, 4, .inl kys)), (xp, .inl (cA 0, 4, .inl pin)), (xr, .inl (cA 0, 4, .inl trs)), (xc, .inl (cA 0, 4, .inl cou)), (xu, .inl (cA 0, 4, .inl run)), (xe, .inl (cA 2, 4, .inl see)), (xa, .inl (cA 0, 8, .inl k)), (xl, .inl (cA 0, 8, .inl la)), (xz, .inl (cA 0, 9, .inl lst)), (xd, .inl (cA 0, 40, .inl df))] : va_W)) 21 rfl [0, 13, 10, 18, 14, 15, 16, 17, 1, 2, 3, 4, 5, 6, 7, 8, 9, 11, 12, 19, 20] (by decide +kernel) rfl)) (by decide) (by decide) (by decide) (fun sz => c_Mod_send_0 l D cA sz m xm xs xt xk xp xr xc xu xe xb xa xl xg x1 x2 x3 x4 xq xz xd pl ft tw inn bd (nI p) ap (nI d) fl2 (nI t4) c g bal que pac pam pcd pbk rp rc (if pcd rp = 1 then (if pbk rp = 0 then upd bal rc (bal rc + pam rp) else bal) else bal) (if pcd rp = 1 then (if pbk rp = 0 then upd pbk rp 1 else pbk) else pbk) hg2 hc0 hc6 q0 (by omega) q1 q2 rfl rfl), ?_⟩
            rintro _ _ ⟨_, ⟨rfl, rfl⟩, rfl⟩
            refine ⟨rfl, ?_⟩
            have hi8 : ∀ i r, L8[i]? = some r → i + 1 < c ∧ ((ra, rp, rc) :: L8)[i + 1]? = some r := fun i r hi => ⟨by have := (List.getElem?_eq_some_iff.mp hi).1; have := hLc; simp at this; omega, by rw [List.getElem?_cons_succ]; exact hi⟩
            have hQ8 : qu_I cA ed9 hq (c - 1) p [(hq, .inl (cA 4, 10, .inr (.inr (.inr (.inr (va_up (va_cpy fq fq 1 0 (c - 1)) (c - 1) none))))))] (L8.map (rv_c pam pcd pbk) ++ ((ra, .inr (6, [.int (nI rp), .int (nI rc), .int (pam rp), .int 0])) :: G)) (Mod_send_r c que) pac pam pcd (if pcd rp = 1 then (if pbk rp = 0 then upd pbk rp 1 else pbk) else pbk) := by
              refine ⟨L8, (ra, .inr (6, [.int (nI rp), .int (nI rc), .int (pam rp), .int 0])) :: G, by have := hLc; simp at this; omega, by omega, by rw [hV9], fun i r hi => ?_, hpw8.2, Or.inr ⟨_, rfl, fun i r hi => ?_⟩⟩
              · obtain ⟨u1, u2⟩ := hi8 i r hi
                have u3 := hLi (i + 1) r u2
                rw [se_q (by omega) hc6 i u1]
                exact u3
              · obtain ⟨u1, u2⟩ := hi8 i r hi
                show (if i = c - 1 then none else (if 0 ≤ i ∧ i < 0 + (c - 1) then fq (1 + (i - 0)) else fq i)) = some r.1
                rw [if_neg (by omega), if_pos (by omega), show 1 + (i - 0) = i + 1 by omega]
                exact hfq (i + 1) r u2
            exact fun P_ kk_ => kk_ tx tb ca te hs hh h1 h2 h3 hp hd db qu hq sp xm xs xt xk xp xr xc xu xe xb xa xl xg x1 x2 x3 x4 xq xz xd pl ap n am ty fa oc fl wi fi fc s2 sc co (mq + 1) ft tw inn bd fl2 p (c - 1) d t4 f g cf (f_Host_reverse_1 b (nI rc) (pam rp) (du_v pcd pbk rp)) k la df M Z the kys pin trs cou run see (if pcd rp = 1 then (if pbk rp = 0 then upd bal rc (bal rc + pam rp) else bal) else bal) lst pac pam pcd (if pcd rp = 1 then (if pbk rp = 0 then upd pbk rp 1 else pbk) else pbk) (Mod_send_r c que) S ([(hq, .inl (cA 4, 10, .inr (.inr (.inr (.inr (va_up (va_cpy fq fq 1 0 (c - 1)) (c - 1) none))))))]) (L8.map (rv_c pam pcd pbk) ++ ((ra, .inr (6, [.int (nI rp), .int (nI rc), .int (pam rp), .int 0])) :: G)) K (by rw [hstd, hdue]; exact ((pw_lt.trans (pm_ix 16 rfl [8, 0, 1, 2, 9, 10, 13, 14, 3, 4, 5, 6, 7, 11, 12, 15] (by decide +kernel) rfl)).trans (pw_rev (B := [(x, .inr (7, [.ref tx, .ref ca, .ref te, .ref hh, .ref hp, .ref qu, .ref sp, .int pl, .int ap])), (tx, .inr (0, [.ref tb, .int n])), (tb, .inl (cA 0, 60, .inl f)), (ca, .inl (cA 3, 4, .inr (.inr (.inr (.inr cf))))), (te, .inr (1, [.ref hs])), (hs, .inl (cA 0, 7, .inl g)), (hh, .inr (2, [.ref h1, .ref h2, .ref h3, .int (nI (op_n pcd (if pcd rp = 1 then (if pbk rp = 0 then upd pbk rp 1 else pbk) else pbk) p))])), (h1, .inl (cA 1, 8, .inr (.inl (f_Host_reverse_1 b (nI rc) (pam rp) (du_v pcd pbk rp))))), (h2, .inl (cA 0, 8, .inl k)), (h3, .inl (cA 0, 8, .inl la)), (hp, .inr (3, [.ref hd, .int (nI p), .int am, .int ty, .int fa, .int oc, .int fl, .int wi, .int fi, .int fc, .int s2, .int sc, .int co])), (hd, .inr (0, [.ref db, .int (nI d)])), (db, .inl (cA 0, 40, .inl df)), (qu, .inr (8, [.ref hq, .int (nI (c - 1)), .int (mq + 1)]))]) (S := S) (C := cs_all K) (V' := (L8.map (rv_c pam pcd pbk) ++ G)) List.perm_middle).symm)) (pm_e 21 rfl [13, 0, 1, 2, 3, 4, 5, 6, 7, 8, 15, 9, 10, 14, 17, 18, 19, 20, 16, 11, 12] (by decide +kernel) rfl) hB hr hK hbal hbb9 hl hd9 (Nat.le_succ_of_le hp9) hn9 hS hQ8
        · refine ⟨_, lc_R (hcw.trans (pm_head (A := ([(x, .inr (7, [.ref tx, .ref ca, .ref te, .ref hh, .ref hp, .ref qu, .ref sp, .int pl, .int ap])), (te, .inr (1, [.ref hs])), (hs, .inl (cA 0, 7, .inl g)), (qu, .inr (8, [.ref hq, .int (nI c), .int mq]))] : va_W)) (B := ([(tx, .inr (0, [.ref tb, .int n])), (tb, .inl (cA 0, 60, .inl f)), (ca, .inl (cA 3, 4, .inr (.inr (.inr (.inr cf))))), (hh, .inr (2, [.ref h1, .ref h2, .ref h3, .int (nI (op_n pcd pbk p))])), (h1, .inl (cA 1, 8, .inr (.inl b))), (h2, .inl (cA 0, 8, .inl k)), (h3, .inl (cA 0, 8, .inl la)), (hp, .inr (3, [.ref hd, .int (nI p), .int am, .int ty, .int fa, .int oc, .int fl, .int wi, .int fi, .int fc, .int s2, .int sc, .int co])), (hd, .inr (0, [.ref db, .int (nI d)])), (db, .inl (cA 0, 40, .inl df))] : va_W)) 14 rfl [0, 4, 5, 13, 1, 2, 3, 6, 7, 8, 9, 10, 11, 12] (by decide +kernel) rfl)) (by decide) (c_PC_send_1 l D cA x tx ca te hh hp qu sp pl ap hs g hq c mq hg2 hc0 hc6), ?_⟩
          rintro _ _ ⟨rfl, rfl⟩
          refine ⟨_, rfl, _, lc_R (hmw.trans (pm_e (X' := ([(m, .inr (9, [.ref xm, .ref xs, .ref xt, .ref xk, .ref xp, .ref xr, .ref xc, .ref xu, .ref xe, .ref xb, .ref xa, .ref xl, .ref xg, .int pl, .int ft, .int tw, .int inn, .int bd, .int (nI p), .ref x1, .ref x2, .ref x3, .ref x4, .int ap, .ref xq, .int (nI c), .ref xz, .ref xd, .int (nI d), .int fl2, .int (nI t4)])), (xg, .inl (cA 0, 7, .inl g))] ++ [(xm, .inl (cA 0, 300, .inl (nJ M))), (xs, .inl (cA 0, 5, .inl (nJ Z))), (xt, .inl (cA 2, 4, .inl the)), (xk, .inl (cA 0, 4, .inl kys)), (xp, .inl (cA 0, 4, .inl pin)), (xr, .inl (cA 0, 4, .inl trs)), (xc, .inl (cA 0, 4, .inl cou)), (xu, .inl (cA 0, 4, .inl run)), (xe, .inl (cA 2, 4, .inl see)), (xb, .inl (cA 0, 8, .inl bal)), (xa, .inl (cA 0, 8, .inl k)), (xl, .inl (cA 0, 8, .inl la)), (x1, .inl (cA 0, 513, .inl pac)), (x2, .inl (cA 0, 513, .inl pam)), (x3, .inl (cA 0, 513, .inl pcd)), (x4, .inl (cA 2, 513, .inl pbk)), (xq, .inl (cA 0, 7, .inl que)), (xz, .inl (cA 0, 9, .inl lst)), (xd, .inl (cA 0, 40, .inl df))] : va_W)) 21 rfl [0, 13, 1, 2, 3, 4, 5, 6, 7, 8, 9, 10, 11, 12, 14, 15, 16, 17, 18, 19, 20] (by decide +kernel) rfl)) (by decide) (c_Mod_send_1 l D cA m xm xs xt xk xp xr xc xu xe xb xa xl xg x1 x2 x3 x4 xq xz xd pl ft tw inn bd (nI p) ap (nI d) fl2 (nI t4) c g hg2 hc0 hc6), ?_⟩
          rintro _ _ ⟨rfl, rfl⟩
          refine ⟨rfl, ?_⟩
          exact fun P_ kk_ => kk_ tx tb ca te hs hh h1 h2 h3 hp hd db qu hq sp xm xs xt xk xp xr xc xu xe xb xa xl xg x1 x2 x3 x4 xq xz xd pl ap n am ty fa oc fl wi fi fc s2 sc co mq ft tw inn bd fl2 p c d t4 f g cf b k la df M Z the kys pin trs cou run see bal lst pac pam pcd pbk que S Q V K hcw hmw hB hr hK hb (fun j hj => ⟨(hbb j hj).1, by have := (hbb j hj).2; omega⟩) hl hd9 (Nat.le_succ_of_le hp9) hn hS hQ
        · refine ⟨_, lc_M (hcx.trans (pm_head (A := ([(x, .inr (7, [.ref tx, .ref ca, .ref te, .ref hh, .ref hp, .ref qu, .ref sp, .int pl, .int ap])), (te, .inr (1, [.ref hs])), (hs, .inl (cA 0, 7, .inl g)), (qu, .inr (8, [.ref hq, .int (nI c), .int mq])), (hq, .inl (cA 4, 10, .inr (.inr (.inr (.inr fq))))), (hh, .inr (2, [.ref h1, .ref h2, .ref h3, .int (nI (op_n pcd pbk p))])), (h1, .inl (cA 1, 8, .inr (.inl b))), (ra, .inr (6, [.int (nI rp), .int (nI rc), .int (pam rp), .int (du_v pcd pbk rp)]))] : va_W)) (B := ([(tx, .inr (0, [.ref tb, .int n])), (tb, .inl (cA 0, 60, .inl f)), (ca, .inl (cA 3, 4, .inr (.inr (.inr (.inr cf))))), (h2, .inl (cA 0, 8, .inl k)), (h3, .inl (cA 0, 8, .inl la)), (hp, .inr (3, [.ref hd, .int (nI p), .int am, .int ty, .int fa, .int oc, .int fl, .int wi, .int fi, .int fc, .int s2, .int sc, .int co])), (hd, .inr (0, [.ref db, .int (nI d)])), (db, .inl (cA 0, 40, .inl df))] : va_W)) 16 rfl [0, 4, 5, 13, 14, 6, 7, 15, 1, 2, 3, 8, 9, 10, 11, 12] (by decide +kernel) rfl)) (by decide) (by decide) (by decide) (fun sz => c_PC_send_2 l D cA sz x tx ca te hh hp qu sp pl ap hs g hq c mq fq h1 h2 h3 (nI (op_n pcd pbk p)) b ra (nI rp) (nI rc) (pam rp) (du_v pcd pbk rp) hg2 hc0 hc6 hf0), ?_⟩
          rintro _ _ ⟨_, ⟨rfl, rfl⟩, rfl⟩
          refine ⟨_, rfl, _, lc_M (hmw.trans (pm_e (X' := ([(m, .inr (9, [.ref xm, .ref xs, .ref xt, .ref xk, .ref xp, .ref xr, .ref xc, .ref xu, .ref xe, .ref xb, .ref xa, .ref xl, .ref xg, .int pl, .int ft, .int tw, .int inn, .int bd, .int (nI p), .ref x1, .ref x2, .ref x3, .ref x4, .int ap, .ref xq, .int (nI c), .ref xz, .ref xd, .int (nI d), .int fl2, .int (nI t4)])), (xg, .inl (cA 0, 7, .inl g)), (xb, .inl (cA 0, 8, .inl bal)), (xq, .inl (cA 0, 7, .inl que)), (x1, .inl (cA 0, 513, .inl pac)), (x2, .inl (cA 0, 513, .inl pam)), (x3, .inl (cA 0, 513, .inl pcd)), (x4, .inl (cA 2, 513, .inl pbk))] ++ [(xm, .inl (cA 0, 300, .inl (nJ M))), (xs, .inl (cA 0, 5, .inl (nJ Z))), (xt, .inl (cA 2, 4, .inl the)), (xk, .inl (cA 0, 4, .inl kys)), (xp, .inl (cA 0, 4, .inl pin)), (xr, .inl (cA 0, 4, .inl trs)), (xc, .inl (cA 0, 4, .inl cou)), (xu, .inl (cA 0, 4, .inl run)), (xe, .inl (cA 2, 4, .inl see)), (xa, .inl (cA 0, 8, .inl k)), (xl, .inl (cA 0, 8, .inl la)), (xz, .inl (cA 0, 9, .inl lst)), (xd, .inl (cA 0, 40, .inl df))] : va_W)) 21 rfl [0, 13, 10, 18, 14, 15, 16, 17, 1, 2, 3, 4, 5, 6, 7, 8, 9, 11, 12, 19, 20] (by decide +kernel) rfl)) (by decide) (by decide) (by decide) (fun sz => c_Mod_send_2 l D cA sz m xm xs xt xk xp xr xc xu xe xb xa xl xg x1 x2 x3 x4 xq xz xd pl ft tw inn bd (nI p) ap (nI d) fl2 (nI t4) c g bal que pac pam pcd pbk rp rc hg2 hc0 hc6 q0 (by omega) q1 q2), ?_⟩
          rintro _ _ ⟨_, ⟨rfl, rfl⟩, rfl⟩
          refine ⟨rfl, ?_⟩
          exact fun P_ kk_ => kk_ tx tb ca te hs hh h1 h2 h3 hp hd db qu hq sp xm xs xt xk xp xr xc xu xe xb xa xl xg x1 x2 x3 x4 xq xz xd pl ap n am ty fa oc fl wi fi fc s2 sc co mq ft tw inn bd fl2 p c d t4 f g cf (f_Host_reverse_1 b (nI rc) (pam rp) (du_v pcd pbk rp)) k la df M Z the kys pin trs cou run see (if pcd rp = 1 then (if pbk rp = 0 then upd bal rc (bal rc + pam rp) else bal) else bal) lst pac pam pcd (if pcd rp = 1 then (if pbk rp = 0 then upd pbk rp 1 else pbk) else pbk) que S ([(hq, .inl (cA 4, 10, .inr (.inr (.inr (.inr fq)))))]) ((ra, .inr (6, [.int (nI rp), .int (nI rc), .int (pam rp), .int 0])) :: (L8.map (rv_c pam pcd pbk) ++ G)) K (by rw [hstd, hdue]; exact ((pm_mid _ _ _).trans (pm_ix 16 rfl [8, 0, 1, 2, 9, 10, 13, 14, 3, 4, 5, 6, 7, 11, 12, 15] (by decide +kernel) rfl)).trans (pw_rev (B := [(x, .inr (7, [.ref tx, .ref ca, .ref te, .ref hh, .ref hp, .ref qu, .ref sp, .int pl, .int ap])), (tx, .inr (0, [.ref tb, .int n])), (tb, .inl (cA 0, 60, .inl f)), (ca, .inl (cA 3, 4, .inr (.inr (.inr (.inr cf))))), (te, .inr (1, [.ref hs])), (hs, .inl (cA 0, 7, .inl g)), (hh, .inr (2, [.ref h1, .ref h2, .ref h3, .int (nI (op_n pcd (if pcd rp = 1 then (if pbk rp = 0 then upd pbk rp 1 else pbk) else pbk) p))])), (h1, .inl (cA 1, 8, .inr (.inl (f_Host_reverse_1 b (nI rc) (pam rp) (du_v pcd pbk rp))))), (h2, .inl (cA 0, 8, .inl k)), (h3, .inl (cA 0, 8, .inl la)), (hp, .inr (3, [.ref hd, .int (nI p), .int am, .int ty, .int fa, .int oc, .int fl, .int wi, .int fi, .int fc, .int s2, .int sc, .int co])), (hd, .inr (0, [.ref db, .int (nI d)])), (db, .inl (cA 0, 40, .inl df)), (qu, .inr (8, [.ref hq, .int (nI c), .int mq]))]) (S := S) (C := cs_all K) (V' := (L8.map (rv_c pam pcd pbk) ++ G)) (List.Perm.refl _)).symm) (pm_e 21 rfl [13, 0, 1, 2, 3, 4, 5, 6, 7, 8, 15, 9, 10, 14, 17, 18, 19, 20, 16, 11, 12] (by decide +kernel) rfl) hB hr hK hbal hbb9 hl hd9 (Nat.le_succ_of_le hp9) hn9 hS (⟨(ra, rp, rc) :: L8, G, hLc, hc6, by rw [List.map_cons, hV9]; unfold rv_c; rw [du_self]; rfl, hLi, hpw, Or.inr ⟨fq, rfl, hfq⟩⟩)
