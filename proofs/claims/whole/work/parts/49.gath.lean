theorem b255 : ∀ i, i < 32 → (255#32 : BitVec 32).getLsbD i = decide (i < 8) := by decide
theorem shr_and (v : BitVec 32) (s : Nat) (hs : s ≤ 24) : (v.sshiftRight s &&& 255#32) = (v >>> s &&& 255#32) := by
  apply BitVec.eq_of_getLsbD_eq
  intro i hi
  rw [BitVec.getLsbD_and, BitVec.getLsbD_and, b255 i hi]
  by_cases c : i < 8
  · rw [BitVec.getLsbD_sshiftRight, BitVec.getLsbD_ushiftRight, if_pos (by omega)]
    rw [decide_eq_false (show ¬ 32 ≤ i by omega), Bool.not_false, Bool.true_and]
  · rw [decide_eq_false c, Bool.and_false, Bool.and_false]
theorem gb_eq (v : Int32) : ∀ i : Nat, i < 2 ^ 31 → an_b v (nI i) = gb_v v i := by
  intro i hi
  unfold an_b gb_v
  by_cases c : i ≤ 3
  · rw [if_neg (show ¬ (4 : Int32) ≤ nI i from nI_ge (a := i) (b := 4) (by omega) (by decide)), if_pos (show nI i ≤ (3 : Int32) from nI_le (a := i) (b := 3) c (by decide))]
    rcases (show i = 0 ∨ i = 1 ∨ i = 2 ∨ i = 3 by omega) with h | h | h | h <;> subst h
    · exact congrArg Int32.ofBitVec (shr_and v.toBitVec 0 (by decide)).symm
    · exact congrArg Int32.ofBitVec (shr_and v.toBitVec 8 (by decide)).symm
    · exact congrArg Int32.ofBitVec (shr_and v.toBitVec 16 (by decide)).symm
    · exact congrArg Int32.ofBitVec (shr_and v.toBitVec 24 (by decide)).symm
  · rw [if_pos (show (4 : Int32) ≤ nI i from nI_le (a := 4) (b := i) (by omega) hi), if_neg (show ¬ nI i ≤ (3 : Int32) from nI_ge (a := 3) (b := i) (by omega) hi)]
theorem an_sim (v : Int32) : ∀ (s dn : Nat) (df : Nat → Int32), dn + s ≤ 40 → an_m v s (nI s - 1) (nI dn) df = (nI (gi_f v s (df, dn)).2, (gi_f v s (df, dn)).1)
  | 0, dn, df, _ => rfl
  | s + 1, dn, df, h => by
    rw [nI_pred, an_m, if_neg (nI_pos (by omega)), ← Int32.sub_eq_add_neg]
    have e1 : f_Row_add_length (nI dn) 40 = nI (dn + 1) := by
      unfold f_Row_add_length
      rw [if_pos (show nI dn < Int32.ofNat 40 from nI_lt (a := dn) (b := 40) (by omega) (by decide)), nI_1]
    have e2 : f_Row_add_1 (nI dn) 40 df (an_b v (nI s)) = upd df dn (gb_v v s) := by
      unfold f_Row_add_1
      rw [if_pos (show nI dn < Int32.ofNat 40 from nI_lt (a := dn) (b := 40) (by omega) (by decide)), nI_clamp (by omega), gb_eq v s (by omega)]
    rw [e1, e2, an_sim v s (dn + 1) _ (by omega)]
    rfl
theorem an_eq (v : Int32) {s dn : Nat} (df : Nat → Int32) (h : dn + s ≤ 40) : an_r v (nI s) (nI dn) df = (nI (gi_f v s (df, dn)).2, (gi_f v s (df, dn)).1) := by
  unfold an_r
  have e : ((nI s - 1).toInt + 1).toNat = s := by
    cases s with
    | zero => rfl
    | succ s => rw [nI_pred, nI_toInt (by omega)]; omega
  rw [e]
  exact an_sim v s dn df h
theorem dq_le {M : Nat → Nat} {ar T k p : Nat} {L : List (Nat × Nat)} (h : dm_L M ar T k p = some L) (c : p < T) : (nI (bt M ar p)) &&& 31 = 31 → p + 1 < T ∧ bt M ar (p + 1) ≤ 127 := by
  intro q
  cases k with
  | zero => cases h
  | succ k =>
    rw [dm_L, if_neg (by omega)] at h
    by_cases b : dm_b M ar p T
    · rw [if_pos ((@decide_eq_true_iff _ (Classical.propDecidable _)).mpr b)] at h; cases h
    · refine ⟨?_, ?_⟩
      · rcases Nat.lt_or_ge (p + 1) T with z | z
        · exact z
        · exact absurd (Or.inl ⟨q, Or.inl z⟩) b
      · rcases Nat.lt_or_ge 127 (bt M ar (p + 1)) with z | z
        · exact absurd (Or.inl ⟨q, Or.inr z⟩) b
        · exact z
theorem dm_eq (nu am fl : Int32) (g : Nat → Int32) (t : Nat) : f_Pmt_demanded nu am fl g (nI t) = gv_f am fl (g 1) nu t := by
  unfold f_Pmt_demanded gv_f
  by_cases h1 : nI t = 149
  · rw [if_pos h1, h1, if_neg (show ¬ (149 : Int32) = 40706 by decide), if_pos rfl]
  rw [if_neg h1]
  by_cases h2 : nI t = 154
  · rw [if_pos h2, h2, if_neg (show ¬ (154 : Int32) = 40706 by decide), if_neg (show ¬ (154 : Int32) = 149 by decide), if_pos rfl]
  rw [if_neg h2]
  by_cases h3 : nI t = 40706
  · rw [if_pos h3, if_pos h3]
  · rw [if_neg h3, if_neg h3, if_neg h1, if_neg h2]
theorem i_can {a b c : Int32} (h : a + b = a + c) : b = c := by
  have e := congrArg (fun x => x - a) h
  simp only [Int32.add_comm a, Int32.add_sub_cancel] at e
  exact e
/-- a demand's tag and where its size stands, as the class reads them -/
theorem dm_tag {M Z : Nat → Nat} {ar : Nat} {acc : List ob_T} {z n : Int32} {f tg ss ln nn : Nat → Int32} (h : cr_I M Z ar acc z n f tg ss ln nn) {o : Nat × Nat × Nat} {j : Nat} (hj : j < acc.length) (hss : ss j = nI o.1) (hln : ln j = nI o.2.1) (hx : o.1 + o.2.1 ≤ Z ar) {a : Nat} (ha : a < o.2.1) (hd : (nI (bt M ar (o.1 + a))) &&& 31 = 31 → o.1 + a + 1 < o.1 + o.2.1 ∧ bt M ar (o.1 + a + 1) ≤ 127) : f_Tree_tagOf z n f ss ln (nI j) (nI a) = nI (wk_t1 M ar (o.1 + a)) ∧ nI a + f_Tag_bytesOf (nI (wk_t1 M ar (o.1 + a))) = nI (wk_q1 M ar (o.1 + a) - o.1) ∧ o.1 + a < wk_q1 M ar (o.1 + a) := by
  have hl := cr_len h
  have hZ := h.1
  have hq : o.1 + a < wk_q1 M ar (o.1 + a) := by unfold wk_q1; split <;> omega
  refine ⟨?_, ?_, hq⟩
  · unfold f_Tree_tagOf
    rw [if_neg (by rw [cr_hb h hj hln hx a (by omega)]; exact fun q => q ha), nI_clamp (by omega), hss, hln, nI_add, nI_add]
    exact rd_ok h.2.1 h.2.2.2.1 hx (by omega) hd
  · have e := la_ok (M := M) (ar := ar) (p := o.1 + a) h.2.1 (by omega)
    rw [← nI_add, Int32.add_assoc] at e
    have e2 : nI o.1 + nI (wk_q1 M ar (o.1 + a) - o.1) = nI (wk_q1 M ar (o.1 + a)) := by rw [nI_add]; congr 1; omega
    rw [← e2] at e
    exact i_can e
theorem ga_sim {M Z : Nat → Nat} {ar : Nat} {acc : List ob_T} {z n : Int32} {f tg ss ln nn : Nat → Int32} (h : cr_I M Z ar acc z n f tg ss ln nn) {o : Nat × Nat × Nat} {j : Nat} (hj : j < acc.length) (hss : ss j = nI o.1) (hln : ln j = nI o.2.1) (hx : o.1 + o.2.1 ≤ Z ar) {nu am fl : Int32} {g : Nat → Int32} : ∀ (k a dn kk : Nat) (df : Nat → Int32) (L : List (Nat × Nat)), a ≤ o.2.1 → dm_L M ar (o.1 + o.2.1) kk (o.1 + a) = some L → L.length ≤ k → dn + dm_n L ≤ 40 → gd_f z n f ss ln (nI j) nu am fl g k (nI a) (nI dn) df = (nI (ga_f am fl (g 1) nu L (df, dn)).2, (ga_f am fl (g 1) nu L (df, dn)).1) := by
  have hZ := h.1
  intro k
  induction k with
  | zero =>
    intro a dn kk df L _ _ hk _
    cases L with
    | nil => rfl
    | cons b L => exact absurd hk (by simp)
  | succ k ih =>
    intro a dn kk df L hal hL hk hs
    rw [gd_f, cr_length h hj hln]
    by_cases c : o.2.1 ≤ a
    · have hae : L = [] := dm_end hL (by omega)
      subst hae
      rw [if_pos (nI_le c (by omega))]
      rfl
    · obtain ⟨k', L', e1, e2, e3, e4⟩ := dm_step hL (by omega)
      have hd := dq_le hL (by omega)
      obtain ⟨t1, t2, t3⟩ := dm_tag h hj hss hln hx (a := a) (by omega) hd
      subst e1
      rw [if_neg (nI_ge (by omega) (by omega)), t1, t2, cr_byte h hj hss hln hx (i := wk_q1 M ar (o.1 + a) - o.1) (by omega), show o.1 + (wk_q1 M ar (o.1 + a) - o.1) = wk_q1 M ar (o.1 + a) by omega, dm_eq]
      have hs2 : dn + (bt M ar (wk_q1 M ar (o.1 + a)) + dm_n L') ≤ 40 := hs
      rw [an_eq _ df (by omega), show nI (wk_q1 M ar (o.1 + a) - o.1) + 1 = nI (wk_q1 M ar (o.1 + a) - o.1 + 1) from nI_1 _]
      have hl2 : L'.length + 1 ≤ k + 1 := hk
      have := ih (wk_q1 M ar (o.1 + a) - o.1 + 1) (gi_f (gv_f am fl (g 1) nu (wk_t1 M ar (o.1 + a))) (bt M ar (wk_q1 M ar (o.1 + a))) (df, dn)).2 k' (gi_f (gv_f am fl (g 1) nu (wk_t1 M ar (o.1 + a))) (bt M ar (wk_q1 M ar (o.1 + a))) (df, dn)).1 L' (by omega) (by rw [show o.1 + (wk_q1 M ar (o.1 + a) - o.1 + 1) = wk_q1 M ar (o.1 + a) + 1 by omega]; exact e2) (by omega) (by rw [gi_two]; show dn + _ + _ ≤ 40; omega)
      exact this
/-- the DATA on both sides -/
theorem eq_gather {M Z : Nat → Nat} {ar : Nat} {acc : List ob_T} {z n : Int32} {f tg ss ln nn : Nat → Int32} (h : cr_I M Z ar acc z n f tg ss ln nn) {kk : Nat} {L : List (Nat × Nat)} (hv : ¬ so_v (fo_s acc 140) = 0) (hL : dm_L M ar (sn_f (fo_s acc 140) + sn_n (fo_s acc 140)) kk (sn_f (fo_s acc 140)) = some L) (hs : dm_n L ≤ 40) (h8 : L.length ≤ 8) (nu am fl : Int32) (g df : Nat → Int32) : gd_r z n f tg ss ln nu am fl g df = (nI (ga_f am fl (g 1) nu L (df, 0)).2, (ga_f am fl (g 1) nu L (df, 0)).1) := by
  unfold gd_r
  cases c : fo_s acc 140 with
  | none => rw [c] at hv; exact absurd rfl hv
  | some o =>
    obtain ⟨j, h1, h2, h3, h4, h5, h6⟩ := cr_yes h c
    rw [c] at hL
    rw [h1]
    exact ga_sim h h2 h3 h4 h6 8 0 0 kk df L (Nat.zero_le _) hL h8 (by rw [Nat.zero_add]; exact hs)
