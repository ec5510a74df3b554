theorem cr_obj {M Z : Nat → Nat} {ar : Nat} {acc : List ob_T} {z n : Int32} {f tg ss ln nn : Nat → Int32} (h : cr_I M Z ar acc z n f tg ss ln nn) {j : Nat} (hj : j < acc.length) : ¬ f_Tree_isObject z (nI j) = 0 := by
  have hz : z = nI acc.length := h.2.2.2.2.1
  have := cr_len h
  rw [hz]
  exact io_lt hj (by omega)
theorem cr_nobj {M Z : Nat → Nat} {ar : Nat} {acc : List ob_T} {z n : Int32} {f tg ss ln nn : Nat → Int32} (h : cr_I M Z ar acc z n f tg ss ln nn) : f_Tree_isObject z (-1) = 0 := by
  have hz : z = nI acc.length := h.2.2.2.2.1
  rw [hz]
  exact io_no
theorem cr_hb {M Z : Nat → Nat} {ar : Nat} {acc : List ob_T} {z n : Int32} {f tg ss ln nn : Nat → Int32} (h : cr_I M Z ar acc z n f tg ss ln nn) {j : Nat} {x : Nat × Nat × Nat} (hj : j < acc.length) (hln : ln j = nI x.2.1) (hx : x.1 + x.2.1 ≤ Z ar) (i : Nat) (hi : i < 2 ^ 31) : (f_Tree_hasByte z ln (nI j) (nI i) = 0) = ¬ i < x.2.1 := by
  have hl := cr_len h
  have hZ := h.1
  unfold f_Tree_hasByte
  rw [if_neg (cr_obj h hj), if_neg (nI_pos hi), nI_clamp (by omega), hln]
  by_cases c : i < x.2.1
  · rw [if_neg (nI_ge c (by omega))]
    exact propext ⟨fun q => absurd q (by decide), fun q => absurd c q⟩
  · rw [if_pos (nI_le (by omega) (by omega))]
    exact propext ⟨fun _ => c, fun _ => rfl⟩
theorem cr_byte {M Z : Nat → Nat} {ar : Nat} {acc : List ob_T} {z n : Int32} {f tg ss ln nn : Nat → Int32} (h : cr_I M Z ar acc z n f tg ss ln nn) {j : Nat} {x : Nat × Nat × Nat} (hj : j < acc.length) (hss : ss j = nI x.1) (hln : ln j = nI x.2.1) (hx : x.1 + x.2.1 ≤ Z ar) {i : Nat} (hi : i < x.2.1) : f_Tree_byteOf z n f ss ln (nI j) (nI i) = nI (bt M ar (x.1 + i)) := by
  have hl := cr_len h
  have hZ := h.1
  unfold f_Tree_byteOf
  rw [if_neg (by rw [cr_hb h hj hln hx i (by omega)]; exact fun q => q hi), nI_clamp (by omega), hss, nI_add]
  exact ra_lt h.2.2.2.1 (by omega)
theorem cr_byteN {M Z : Nat → Nat} {ar : Nat} {acc : List ob_T} {z n : Int32} {f tg ss ln nn : Nat → Int32} (h : cr_I M Z ar acc z n f tg ss ln nn) {j : Nat} {x : Nat × Nat × Nat} (hj : j < acc.length) (hln : ln j = nI x.2.1) (hx : x.1 + x.2.1 ≤ Z ar) {i : Nat} (hi2 : i < 2 ^ 31) (hi : ¬ i < x.2.1) : f_Tree_byteOf z n f ss ln (nI j) (nI i) = -1 := by
  unfold f_Tree_byteOf
  rw [if_pos (by rw [cr_hb h hj hln hx i hi2]; exact hi)]
theorem cr_byte_neg {z n : Int32} {f ss ln : Nat → Int32} {o i : Int32} (hi : i < 0) : f_Tree_byteOf z n f ss ln o i = -1 := by
  unfold f_Tree_byteOf f_Tree_hasByte
  by_cases c : f_Tree_isObject z o = 0
  · rw [if_pos c, if_pos rfl]
  · rw [if_neg c, if_pos hi, if_pos rfl]
theorem cr_byte_no {M Z : Nat → Nat} {ar : Nat} {acc : List ob_T} {z n : Int32} {f tg ss ln nn : Nat → Int32} (h : cr_I M Z ar acc z n f tg ss ln nn) (i : Int32) : f_Tree_byteOf z n f ss ln (-1) i = -1 := by
  unfold f_Tree_byteOf f_Tree_hasByte
  rw [if_pos (cr_nobj h), if_pos rfl]
theorem cr_length {M Z : Nat → Nat} {ar : Nat} {acc : List ob_T} {z n : Int32} {f tg ss ln nn : Nat → Int32} (h : cr_I M Z ar acc z n f tg ss ln nn) {j : Nat} {x : Nat × Nat × Nat} (hj : j < acc.length) (hln : ln j = nI x.2.1) : f_Tree_lengthOf z ln (nI j) = nI x.2.1 := by
  have hl := cr_len h
  unfold f_Tree_lengthOf
  rw [if_neg (cr_obj h hj), nI_clamp (by omega), hln]
theorem cr_pair {M Z : Nat → Nat} {ar : Nat} {acc : List ob_T} {z n : Int32} {f tg ss ln nn : Nat → Int32} (h : cr_I M Z ar acc z n f tg ss ln nn) {j : Nat} {x : Nat × Nat × Nat} (hj : j < acc.length) (hss : ss j = nI x.1) (hln : ln j = nI x.2.1) (hx : x.1 + x.2.1 ≤ Z ar) (h2 : 2 ≤ x.2.1) : f_Tree_pairOf z n f ss ln (nI j) = nI (256 * bt M ar x.1 + bt M ar (x.1 + 1)) := by
  unfold f_Tree_pairOf
  have e0 : f_Tree_byteOf z n f ss ln (nI j) (nI 0) = nI (bt M ar (x.1 + 0)) := cr_byte h hj hss hln hx (by omega)
  have e1 : f_Tree_byteOf z n f ss ln (nI j) (nI 1) = nI (bt M ar (x.1 + 1)) := cr_byte h hj hss hln hx (by omega)
  have hh := cr_hb h hj hln hx 1 (by omega)
  rw [if_neg (show ¬ f_Tree_hasByte z ln (nI j) 1 = 0 from fun q => (hh ▸ (show f_Tree_hasByte z ln (nI j) (nI 1) = 0 from q)) (by omega))]
  rw [show f_Tree_byteOf z n f ss ln (nI j) 0 = nI (bt M ar (x.1 + 0)) from e0, show f_Tree_byteOf z n f ss ln (nI j) 1 = nI (bt M ar (x.1 + 1)) from e1]
  rw [← nI_add, show (256 : Int32) = nI 256 from rfl, pk_mul]
  rfl
theorem cr_pair_no {M Z : Nat → Nat} {ar : Nat} {acc : List ob_T} {z n : Int32} {f tg ss ln nn : Nat → Int32} (h : cr_I M Z ar acc z n f tg ss ln nn) : f_Tree_pairOf z n f ss ln (-1) = 0 := by
  unfold f_Tree_pairOf f_Tree_hasByte
  rw [if_pos (cr_nobj h), if_pos rfl]
/-- value, on both sides -/
theorem eq_value {M Z : Nat → Nat} {ar : Nat} {acc : List ob_T} {z n : Int32} {f tg ss ln nn : Nat → Int32} (h : cr_I M Z ar acc z n f tg ss ln nn) (t i : Int32) : f_PC_orRefused (f_Tree_byteOf z n f ss ln (ix_v (ix_f tg t (Int32.toNatClampNeg z) 0)) i) = f_Mod_value_y M ar acc t i := by
  unfold f_Mod_value_y
  cases c : fo_s acc t with
  | none => rw [cr_no h c, cr_byte_no h, if_pos (show so_v none = 0 from rfl)]; rfl
  | some x =>
    obtain ⟨j, h1, h2, h3, h4, h5, h6⟩ := cr_yes h c
    have hZ := h.1
    rw [h1, if_neg (show ¬ so_v (some x) = 0 from show ¬ (1 : Int32) = 0 by decide)]
    by_cases c0 : i < 0
    · rw [if_pos c0, cr_byte_neg c0]; rfl
    · rw [if_neg c0]
      obtain ⟨k, hk, rfl⟩ := nI_of c0
      have e : so_t (some x) - so_f (some x) = nI x.2.1 := nI_sub x.1 x.2.1
      rw [e]
      by_cases c1 : k < x.2.1
      · rw [if_neg (nI_ge c1 (by omega)), cr_byte h h2 h3 h4 h6 c1, nI_clamp (by omega)]
        unfold f_PC_orRefused
        have hb : bt M ar (x.1 + k) ≤ 255 := h.2.1 _
        rw [if_neg (nI_m1 (by omega))]
        rfl
      · rw [if_pos (nI_le (by omega) hk), cr_byteN h h2 h4 h6 hk c1]; rfl
theorem eq_inside {M Z : Nat → Nat} {ar : Nat} {acc : List ob_T} {z n : Int32} {f tg ss ln nn : Nat → Int32} (h : cr_I M Z ar acc z n f tg ss ln nn) (t : Int32) : f_PC_orRefused (f_Tree_innerOf z nn (ix_v (ix_f tg t (Int32.toNatClampNeg z) 0))) = f_Mod_inside_y acc t := by
  unfold f_Mod_inside_y f_Tree_innerOf
  cases c : fo_s acc t with
  | none => rw [cr_no h c, if_pos (cr_nobj h), if_pos (show so_v none = 0 from rfl)]; rfl
  | some x =>
    obtain ⟨j, h1, h2, h3, h4, h5, h6⟩ := cr_yes h c
    have hl := cr_len h
    have := (fo_in h.1 h.2.1 h.2.2.1 c).2
    rw [h1, if_neg (cr_obj h h2), nI_clamp (by omega), h5, if_neg (show ¬ so_v (some x) = 0 from show ¬ (1 : Int32) = 0 by decide)]
    unfold f_PC_orRefused
    rw [if_neg (nI_m1 (by omega))]
    rfl
