theorem eq_list {M Z : Nat → Nat} {acc : List ob_T} {z n : Int32} {f tg ss ln nn : Nat → Int32} (h : cr_I M Z 4 acc z n f tg ss ln nn) : f_Card_fits z n f tg ss ln 140 = Mod_list_r M acc := by
  have hZ := h.1
  unfold f_Card_fits Mod_list_r
  cases c : fo_s acc 140 with
  | none => rw [cr_no h c, if_pos rfl, if_neg (show ¬ (140 : Int32) = 90 by decide), if_pos rfl, if_pos (show so_v none = 0 from rfl)]
  | some x =>
    obtain ⟨j, h1, h2, h3, h4, h5, h6⟩ := cr_yes h c
    have hl := cr_len h
    rw [h1, if_neg (nI_m1 (by omega)), if_neg (show ¬ (140 : Int32) = 90 by decide), if_pos rfl, if_neg (show ¬ so_v (some x) = 0 from show ¬ (1 : Int32) = 0 by decide)]
    unfold f_isl
    have e1 := il_sim h h2 h3 h4 h6 8 (x.2.1 + 1) 0 0 0 (Nat.zero_le _) (by omega) rfl (by omega)
    have e2 := li_sim (M := M) h.2.1 (acc := acc) (T := x.1 + x.2.1) (by rw [c]; rfl) (by omega) (x.1 + x.2.1 - x.1 + 1) (x.2.1 + 1) x.1 0 0 (by omega) (by omega) (by omega) (by omega) (by omega)
    exact e1.trans e2.symm
theorem fit_90 {M Z : Nat → Nat} {acc : List ob_T} {z n : Int32} {f tg ss ln nn : Nat → Int32} (h : cr_I M Z 4 acc z n f tg ss ln nn) : f_Card_fits z n f tg ss ln 90 = if so_v (fo_s acc 90) = 0 then 0 else if so_t (fo_s acc 90) - so_f (fo_s acc 90) = 1 then (if nI (bt M 4 (sn_f (fo_s acc 90))) ≤ 7 then 1 else 0) else 0 := by
  have hZ := h.1
  unfold f_Card_fits
  cases c : fo_s acc 90 with
  | none => rw [cr_no h c, if_pos rfl, if_pos rfl, if_pos (show so_v none = 0 from rfl)]
  | some x =>
    obtain ⟨j, h1, h2, h3, h4, h5, h6⟩ := cr_yes h c
    have hl := cr_len h
    have hv : ¬ so_v (some x) = 0 := show ¬ (1 : Int32) = 0 by decide
    rw [h1, if_neg (nI_m1 (by omega)), if_pos rfl, if_neg hv, so_d hv, cr_length h h2 h4]
    by_cases c1 : x.2.1 = 1
    · have hb : bt M 4 x.1 ≤ 255 := h.2.1 _
      have e := cr_byte h h2 h3 h4 h6 (i := 0) (by omega)
      rw [show f_Tree_byteOf z n f ss ln (nI j) 0 = f_Tree_byteOf z n f ss ln (nI j) (nI 0) from rfl, e, Nat.add_zero]
      rw [if_pos (show nI x.2.1 = 1 by rw [c1]; rfl), if_pos (show nI (sn_n (some x)) = 1 by show nI x.2.1 = 1; rw [c1]; rfl)]
      show _ = if nI (bt M 4 x.1) ≤ 7 then (1 : Int32) else 0
      by_cases c7 : bt M 4 x.1 ≤ 7
      · rw [if_pos (show nI (bt M 4 x.1) ≤ (7 : Int32) from nI_le (b := 7) c7 (by decide)), if_neg (show ¬ (8 : Int32) ≤ nI (bt M 4 x.1) from nI_ge (b := 8) (by omega) (by decide))]
      · rw [if_neg (show ¬ nI (bt M 4 x.1) ≤ (7 : Int32) from nI_ge (a := 7) (by omega) (by omega)), if_pos (show (8 : Int32) ≤ nI (bt M 4 x.1) from nI_le (a := 8) (by omega) (by omega))]
    · have hn : ¬ nI x.2.1 = 1 := wk_ne (b := 1) (by omega) (by decide) c1
      rw [if_neg hn, if_neg (show ¬ nI (sn_n (some x)) = 1 from hn)]
theorem fit_142 {M Z : Nat → Nat} {ar : Nat} {acc : List ob_T} {z n : Int32} {f tg ss ln nn : Nat → Int32} (h : cr_I M Z ar acc z n f tg ss ln nn) : f_Card_fits z n f tg ss ln 142 = if so_v (fo_s acc 142) = 0 then 1 else if so_t (fo_s acc 142) - so_f (fo_s acc 142) < 2 then 0 else if 12 < so_t (fo_s acc 142) - so_f (fo_s acc 142) then 0 else if ((so_t (fo_s acc 142) - so_f (fo_s acc 142)) - (so_t (fo_s acc 142) - so_f (fo_s acc 142)) / 2 * 2) = 0 then 1 else 0 := by
  have hZ := h.1
  unfold f_Card_fits
  cases c : fo_s acc 142 with
  | none => rw [cr_no h c, if_pos rfl, if_neg (show ¬ (142 : Int32) = 90 by decide), if_neg (show ¬ (142 : Int32) = 140 by decide), if_neg (show ¬ (142 : Int32) = 24356 by decide), if_pos (show so_v none = 0 from rfl)]
  | some x =>
    obtain ⟨j, h1, h2, h3, h4, h5, h6⟩ := cr_yes h c
    have hl := cr_len h
    have hv : ¬ so_v (some x) = 0 := show ¬ (1 : Int32) = 0 by decide
    rw [h1, if_neg (nI_m1 (by omega)), if_neg (show ¬ (142 : Int32) = 90 by decide), if_neg (show ¬ (142 : Int32) = 140 by decide), if_pos rfl, if_neg hv, so_d hv, cr_length h h2 h4]
    show _ = if nI x.2.1 < 2 then (0 : Int32) else if 12 < nI x.2.1 then 0 else if nI x.2.1 - nI x.2.1 / 2 * 2 = 0 then 1 else 0
    unfold f_PC_isWithin
    by_cases ca : nI x.2.1 < 2
    · simp only [if_pos ca]; split <;> rfl
    · simp only [if_neg ca]
      by_cases cb : 12 < nI x.2.1
      · simp only [if_pos cb]; split <;> rfl
      · simp only [if_neg cb]
        rw [if_neg (show ¬ (1 : Int32) = 0 by decide)]
theorem fit_end {M Z : Nat → Nat} {ar : Nat} {acc : List ob_T} {z n : Int32} {f tg ss ln nn : Nat → Int32} (h : cr_I M Z ar acc z n f tg ss ln nn) : f_Card_fits z n f tg ss ln 24356 = if so_v (fo_s acc 24356) = 0 then 0 else if so_t (fo_s acc 24356) - so_f (fo_s acc 24356) = 2 then 1 else 0 := by
  have hZ := h.1
  unfold f_Card_fits
  cases c : fo_s acc 24356 with
  | none => rw [cr_no h c, if_pos rfl, if_neg (show ¬ (24356 : Int32) = 90 by decide), if_neg (show ¬ (24356 : Int32) = 140 by decide), if_pos rfl, if_pos (show so_v none = 0 from rfl)]
  | some x =>
    obtain ⟨j, h1, h2, h3, h4, h5, h6⟩ := cr_yes h c
    have hl := cr_len h
    have hv : ¬ so_v (some x) = 0 := show ¬ (1 : Int32) = 0 by decide
    rw [h1, if_neg (nI_m1 (by omega)), if_neg (show ¬ (24356 : Int32) = 90 by decide), if_neg (show ¬ (24356 : Int32) = 140 by decide), if_neg (show ¬ (24356 : Int32) = 142 by decide), if_neg (show ¬ (24356 : Int32) = 40724 by decide), if_neg (show ¬ (24356 : Int32) = 40739 by decide), if_neg hv, so_d hv, cr_length h h2 h4]
    rfl
theorem fit_2 {M Z : Nat → Nat} {ar : Nat} {acc : List ob_T} {z n : Int32} {f tg ss ln nn : Nat → Int32} (h : cr_I M Z ar acc z n f tg ss ln nn) {t : Int32} (ht : t = 40717 ∨ t = 40718 ∨ t = 40719) : f_Card_fits z n f tg ss ln t = f_Mod_sized acc t 2 := by
  have hZ := h.1
  have n1 : ¬ t = 90 := by rcases ht with q | q | q <;> subst q <;> decide
  have n2 : ¬ t = 140 := by rcases ht with q | q | q <;> subst q <;> decide
  have n3 : ¬ t = 24356 := by rcases ht with q | q | q <;> subst q <;> decide
  have n4 : ¬ t = 142 := by rcases ht with q | q | q <;> subst q <;> decide
  have n5 : ¬ t = 40724 := by rcases ht with q | q | q <;> subst q <;> decide
  have n6 : ¬ t = 40739 := by rcases ht with q | q | q <;> subst q <;> decide
  unfold f_Card_fits f_Mod_sized
  cases c : fo_s acc t with
  | none => rw [cr_no h c, if_pos rfl, if_neg n1, if_neg n2, if_neg n3, if_pos (show so_v none = 0 from rfl)]
  | some x =>
    obtain ⟨j, h1, h2, h3, h4, h5, h6⟩ := cr_yes h c
    have hl := cr_len h
    have hv : ¬ so_v (some x) = 0 := show ¬ (1 : Int32) = 0 by decide
    rw [h1, if_neg (nI_m1 (by omega)), if_neg n1, if_neg n2, if_neg n4, if_neg n5, if_neg n6, if_neg hv, so_d hv, cr_length h h2 h4]
    rfl
theorem fit_1 {M Z : Nat → Nat} {ar : Nat} {acc : List ob_T} {z n : Int32} {f tg ss ln nn : Nat → Int32} (h : cr_I M Z ar acc z n f tg ss ln nn) {t : Int32} (ht : t = 40724 ∨ t = 40739) : f_Card_fits z n f tg ss ln t = f_Mod_sized acc t 1 := by
  have hZ := h.1
  have n1 : ¬ t = 90 := by rcases ht with q | q <;> subst q <;> decide
  have n2 : ¬ t = 140 := by rcases ht with q | q <;> subst q <;> decide
  have n3 : ¬ t = 24356 := by rcases ht with q | q <;> subst q <;> decide
  have n4 : ¬ t = 142 := by rcases ht with q | q <;> subst q <;> decide
  unfold f_Card_fits f_Mod_sized
  cases c : fo_s acc t with
  | none => rw [cr_no h c, if_pos rfl, if_neg n1, if_neg n2, if_neg n3, if_pos (show so_v none = 0 from rfl)]
  | some x =>
    obtain ⟨j, h1, h2, h3, h4, h5, h6⟩ := cr_yes h c
    have hl := cr_len h
    have hv : ¬ so_v (some x) = 0 := show ¬ (1 : Int32) = 0 by decide
    rw [h1, if_neg (nI_m1 (by omega)), if_neg n1, if_neg n2, if_neg n4, if_neg hv, so_d hv, cr_length h h2 h4]
    rcases ht with q | q
    · rw [if_pos q]; rfl
    · rw [if_neg (by rw [q]; decide), if_pos q]; rfl
/-- the least tag that doesn't fit, as the class finds it -/
def uf_v (z n : Int32) (f tg ss ln : Nat → Int32) : List Int32 → Int32
  | [] => -1
  | t :: l => if f_Card_fits z n f tg ss ln t = 0 then t else uf_v z n f tg ss ln l
def uf_L : List Int32 := [90, 140, 142, 24356, 40717, 40718, 40719, 40724, 40739]
theorem eq_unfit {M Z : Nat → Nat} {acc : List ob_T} {z n : Int32} {f tg ss ln nn : Nat → Int32} (h : cr_I M Z 4 acc z n f tg ss ln nn) : f_Mod_unfit M acc = if uf_v z n f tg ss ln uf_L = -1 then 0 else uf_v z n f tg ss ln uf_L := by
  have e10 : ¬ (1 : Int32) = 0 := by decide
  unfold uf_L
  simp only [uf_v, fit_90 h, eq_list h, fit_142 h, fit_end h, fit_2 h (t := 40717) (Or.inl rfl), fit_2 h (t := 40718) (Or.inr (Or.inl rfl)), fit_2 h (t := 40719) (Or.inr (Or.inr rfl)), fit_1 h (t := 40724) (Or.inl rfl), fit_1 h (t := 40739) (Or.inr rfl)]
  unfold f_Mod_unfit
  by_cases a1 : so_v (fo_s acc 90) = 0
  · simp only [if_pos a1]; rfl
  simp only [if_neg a1]
  rcases Classical.em (so_t (fo_s acc 90) - so_f (fo_s acc 90) = 1) with a2 | a2
  rotate_left
  · simp only [if_neg a2]; rfl
  simp only [if_pos a2]
  rcases Classical.em (nI (bt M 4 (sn_f (fo_s acc 90))) ≤ 7) with a3 | a3
  rotate_left
  · simp only [if_neg a3]; rfl
  simp only [if_pos a3, if_neg e10]
  rcases Classical.em (Mod_list_r M acc = 0) with a4 | a4
  · simp only [if_pos a4]; rfl
  simp only [if_neg a4]
  have tail : ∀ r : Int32, r = (if so_v (fo_s acc 24356) = 0 then 24356 else (if so_t (fo_s acc 24356) - so_f (fo_s acc 24356) = 2 then (if f_Mod_sized acc 40717 2 = 0 then 40717 else (if f_Mod_sized acc 40718 2 = 0 then 40718 else (if f_Mod_sized acc 40719 2 = 0 then 40719 else (if f_Mod_sized acc 40724 1 = 0 then 40724 else (if f_Mod_sized acc 40739 1 = 0 then 40739 else 0))))) else 24356)) → r = (if (if (if so_v (fo_s acc 24356) = 0 then (0 : Int32) else if so_t (fo_s acc 24356) - so_f (fo_s acc 24356) = 2 then 1 else 0) = 0 then (24356 : Int32) else if f_Mod_sized acc 40717 2 = 0 then 40717 else if f_Mod_sized acc 40718 2 = 0 then 40718 else if f_Mod_sized acc 40719 2 = 0 then 40719 else if f_Mod_sized acc 40724 1 = 0 then 40724 else if f_Mod_sized acc 40739 1 = 0 then 40739 else -1) = -1 then 0 else (if (if so_v (fo_s acc 24356) = 0 then (0 : Int32) else if so_t (fo_s acc 24356) - so_f (fo_s acc 24356) = 2 then 1 else 0) = 0 then (24356 : Int32) else if f_Mod_sized acc 40717 2 = 0 then 40717 else if f_Mod_sized acc 40718 2 = 0 then 40718 else if f_Mod_sized acc 40719 2 = 0 then 40719 else if f_Mod_sized acc 40724 1 = 0 then 40724 else if f_Mod_sized acc 40739 1 = 0 then 40739 else -1)) := by
    intro r hr
    rw [hr]
    rcases Classical.em (so_v (fo_s acc 24356) = 0) with b1 | b1
    · simp only [if_pos b1]; rfl
    simp only [if_neg b1]
    rcases Classical.em (so_t (fo_s acc 24356) - so_f (fo_s acc 24356) = 2) with b2 | b2
    rotate_left
    · simp only [if_neg b2]; rfl
    simp only [if_pos b2, if_neg e10]
    rcases Classical.em (f_Mod_sized acc 40717 2 = 0) with b3 | b3
    · simp only [if_pos b3]; rfl
    simp only [if_neg b3]
    rcases Classical.em (f_Mod_sized acc 40718 2 = 0) with b4 | b4
    · simp only [if_pos b4]; rfl
    simp only [if_neg b4]
    rcases Classical.em (f_Mod_sized acc 40719 2 = 0) with b5 | b5
    · simp only [if_pos b5]; rfl
    simp only [if_neg b5]
    rcases Classical.em (f_Mod_sized acc 40724 1 = 0) with b6 | b6
    · simp only [if_pos b6]; rfl
    simp only [if_neg b6]
    rcases Classical.em (f_Mod_sized acc 40739 1 = 0) with b7 | b7
    · simp only [if_pos b7]; rfl
    · simp only [if_neg b7]; rfl
  rcases Classical.em (so_v (fo_s acc 142) = 0) with a5 | a5
  · simp only [if_pos a5, if_neg e10]; exact tail _ rfl
  simp only [if_neg a5]
  rcases Classical.em (so_t (fo_s acc 142) - so_f (fo_s acc 142) < 2) with a6 | a6
  · simp only [if_pos a6]; rfl
  simp only [if_neg a6]
  rcases Classical.em (12 < so_t (fo_s acc 142) - so_f (fo_s acc 142)) with a7 | a7
  · simp only [if_pos a7]; rfl
  simp only [if_neg a7]
  rcases Classical.em (((so_t (fo_s acc 142) - so_f (fo_s acc 142)) - (so_t (fo_s acc 142) - so_f (fo_s acc 142)) / 2 * 2) = 0) with a8 | a8
  · simp only [if_pos a8, if_neg e10]; exact tail _ rfl
  · simp only [if_neg a8]; rfl
