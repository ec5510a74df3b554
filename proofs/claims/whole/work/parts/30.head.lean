/-- a row that holds the bytes of an area -/
def ro_I (M : Nat → Nat) (ar L : Nat) (n : Int32) (f : Nat → Int32) : Prop := n = nI L ∧ L ≤ 60 ∧ ∀ j, j < L → f j = nI (bt M ar j)
theorem nI_m1 {a : Nat} (h : a < 2 ^ 31) : ¬ nI a = -1 := fun q => by
  have := nI_toInt h
  rw [q] at this
  have h2 : (-1 : Int32).toInt = -1 := by decide
  omega
theorem ab_lt {M : Nat → Nat} {ar L i e : Nat} {n : Int32} {f : Nat → Int32} (hr : ro_I M ar L n f) (he : e ≤ L) (h : i < e) : f_Row_atBefore n f (nI i) (nI e) = nI (bt M ar i) := by
  obtain ⟨rfl, hL, hf⟩ := hr
  unfold f_Row_atBefore
  rw [if_neg (nI_pos (by omega)), if_neg (nI_ge h (by omega)), if_neg (nI_ge (by omega) (by omega)), nI_clamp (by omega)]
  exact hf i (by omega)
theorem ab_ge {i e : Nat} {n : Int32} {f : Nat → Int32} (hi : i < 2 ^ 31) (h : e ≤ i) : f_Row_atBefore n f (nI i) (nI e) = -1 := by
  unfold f_Row_atBefore
  rw [if_neg (nI_pos hi), if_pos (nI_le h hi)]
theorem ra_lt {M : Nat → Nat} {ar L i : Nat} {n : Int32} {f : Nat → Int32} (hr : ro_I M ar L n f) (h : i < L) : f_Row_at n f (nI i) = nI (bt M ar i) := by
  obtain ⟨rfl, hL, hf⟩ := hr
  rw [at_nI h (by omega)]
  exact hf i h
theorem bt_0 {b : Nat} (h : (nI b &&& 31) = 31) : b ≠ 0 := fun q => by subst q; exact absurd h (by decide)
theorem rd_ok {M : Nat → Nat} {ar L p e : Nat} {n : Int32} {f : Nat → Int32} (hB : ∀ j, M j ≤ 255) (hr : ro_I M ar L n f) (he : e ≤ L) (hp : p < e) (g : (nI (bt M ar p) &&& 31) = 31 → p + 1 < e ∧ bt M ar (p + 1) ≤ 127) : f_Tag_read n f (nI p) (nI e) = nI (wk_t1 M ar p) := by
  have hL := hr.2.1
  have b0 : bt M ar p ≤ 255 := hB _
  unfold f_Tag_read
  rw [ab_lt hr he hp, if_neg (nI_m1 (by omega))]
  unfold wk_t1
  by_cases c : (nI (bt M ar p) &&& 31) = 31
  · obtain ⟨g1, g2⟩ := g c
    rw [if_pos c, if_pos c, nI_1, ab_lt hr he g1, if_neg]
    · rw [show (256 : Int32) * nI (bt M ar p) = nI (256 * bt M ar p) from pk_mul 256 _, nI_add]
    · rw [iw_iff]
      intro q
      apply q
      rw [nI_toInt (by omega)]
      have h1 : (0 : Int32).toInt = 0 := by decide
      have h2 : (127 : Int32).toInt = 127 := by decide
      omega
  · rw [if_neg c, if_neg c]
theorem rd_bad {M : Nat → Nat} {ar L p e : Nat} {n : Int32} {f : Nat → Int32} (hB : ∀ j, M j ≤ 255) (hr : ro_I M ar L n f) (he : e ≤ L) (hp : p < e) (c : (nI (bt M ar p) &&& 31) = 31) (g : ¬ (p + 1 < e ∧ bt M ar (p + 1) ≤ 127)) : f_Tag_read n f (nI p) (nI e) = -1 := by
  have hL := hr.2.1
  have b0 : bt M ar p ≤ 255 := hB _
  have b1 : bt M ar (p + 1) ≤ 255 := hB _
  unfold f_Tag_read
  rw [ab_lt hr he hp, if_neg (nI_m1 (by omega)), if_pos c, nI_1, if_pos]
  rw [iw_iff]
  have h1 : (0 : Int32).toInt = 0 := by decide
  have h2 : (127 : Int32).toInt = 127 := by decide
  by_cases d : p + 1 < e
  · rw [ab_lt hr he d, nI_toInt (by omega)]
    intro q
    exact g ⟨d, by omega⟩
  · rw [ab_ge (by omega) (by omega)]
    have h3 : (-1 : Int32).toInt = -1 := by decide
    omega
theorem la_ok {M : Nat → Nat} {ar p : Nat} (hB : ∀ j, M j ≤ 255) (hp : p < 100) : nI p + f_Tag_bytesOf (nI (wk_t1 M ar p)) = nI (wk_q1 M ar p) := by
  have b0 : bt M ar p ≤ 255 := hB _
  have b1 : bt M ar (p + 1) ≤ 255 := hB _
  unfold f_Tag_bytesOf wk_t1 wk_q1
  by_cases c : (nI (bt M ar p) &&& 31) = 31
  · have := bt_0 c
    rw [if_pos c, if_pos c, if_neg (show ¬ nI (256 * bt M ar p + bt M ar (p + 1)) ≤ 255 from nI_ge (b := 256 * bt M ar p + bt M ar (p + 1)) (a := 255) (by omega) (by omega))]
    exact nI_add p 2
  · rw [if_neg c, if_neg c, if_pos (show nI (bt M ar p) ≤ 255 from nI_le (b := 255) b0 (by decide))]
    exact nI_add p 1
theorem hi_ok {M : Nat → Nat} {ar p : Nat} (hB : ∀ j, M j ≤ 255) : f_Tag_hasInner (nI (wk_t1 M ar p)) = 0 ↔ (nI (bt M ar p) &&& 32) = 0 := by
  have b0 : bt M ar p ≤ 255 := hB _
  have b1 : bt M ar (p + 1) ≤ 255 := hB _
  unfold f_Tag_hasInner wk_t1
  by_cases c : (nI (bt M ar p) &&& 31) = 31
  · have := bt_0 c
    rw [if_pos c, if_neg (show ¬ nI (256 * bt M ar p + bt M ar (p + 1)) ≤ 255 from nI_ge (b := 256 * bt M ar p + bt M ar (p + 1)) (a := 255) (by omega) (by omega))]
    rw [show nI (256 * bt M ar p + bt M ar (p + 1)) / 256 = nI (bt M ar p) by
      rw [show (256 : Int32) = nI 256 from rfl, pk_div (by omega) (by decide) (by decide)]
      congr 1
      omega]
    by_cases d : (nI (bt M ar p) &&& 32) = 0
    · rw [if_pos d]; exact ⟨fun _ => d, fun _ => rfl⟩
    · rw [if_neg d]; exact ⟨fun q => absurd q (by decide), fun q => absurd q d⟩
  · rw [if_neg c, if_pos (show nI (bt M ar p) ≤ 255 from nI_le (b := 255) b0 (by decide))]
    by_cases d : (nI (bt M ar p) &&& 32) = 0
    · rw [if_pos d]; exact ⟨fun _ => d, fun _ => rfl⟩
    · rw [if_neg d]; exact ⟨fun q => absurd q (by decide), fun q => absurd q d⟩
/-- the head, as the class reads it: as said -/
theorem hd_ok {M : Nat → Nat} {ar L p e : Nat} {n : Int32} {f : Nat → Int32} (hB : ∀ j, M j ≤ 255) (hr : ro_I M ar L n f) (he : e ≤ L) (hp : p < e) (h : hv M ar p e) : f_Tag_read n f (nI p) (nI e) = nI (wk_t1 M ar p) ∧ ct_s n f (nI p) (nI e) = nI (wk_q2 M ar (wk_q1 M ar p)) ∧ ct_n n f (nI p) (nI e) = nI (wk_ln M ar (wk_q1 M ar p)) := by
  have hL := hr.2.1
  obtain ⟨h1, h2, h3, h4⟩ := h
  have e1 := rd_ok hB hr he hp h1
  have e2 : ct_l n f (nI p) (nI e) = nI (wk_q1 M ar p) := by unfold ct_l; rw [e1]; exact la_ok hB (by omega)
  have b2 : bt M ar (wk_q1 M ar p) ≤ 255 := hB _
  have a1 := ab_lt hr he h2
  refine ⟨e1, ?_, ?_⟩
  · unfold ct_s wk_q2
    rw [e2, ra_lt hr (by omega)]
    rcases h3 with h3 | ⟨h3, h3'⟩
    · rw [if_pos (show nI (bt M ar (wk_q1 M ar p)) ≤ 127 from nI_le (b := 127) h3 (by decide)), if_neg (fun q => by have := (nI_eq (b := 129) (by omega) (by decide)).mp q; omega)]
      exact nI_add _ 1
    · rw [h3, if_pos (show nI 129 = 129 from rfl), if_neg (show ¬ nI 129 ≤ 127 by decide)]
      exact nI_add _ 2
  · unfold ct_n f_Tree_readLength wk_ln
    rw [e2, a1]
    rcases h3 with h3 | ⟨h3, h3'⟩
    · rw [if_pos (show nI (bt M ar (wk_q1 M ar p)) ≤ 127 from nI_le (b := 127) h3 (by decide)), if_neg (fun q => by have := (nI_eq (b := 129) (by omega) (by decide)).mp q; omega), if_neg (show ¬ 127 < nI (bt M ar (wk_q1 M ar p)) from nI_nlt (a := 127) h3 (by decide))]
    · rw [h3, if_pos (show nI 129 = 129 from rfl), if_neg (show ¬ nI 129 ≤ 127 by decide), nI_1, ab_lt hr he h3']
/-- not as said -/
theorem hd_bad {M : Nat → Nat} {ar L p e : Nat} {n : Int32} {f : Nat → Int32} (hB : ∀ j, M j ≤ 255) (hr : ro_I M ar L n f) (he : e ≤ L) (hp : p < e) (h : ¬ hv M ar p e) : f_Tag_read n f (nI p) (nI e) = -1 ∨ ct_n n f (nI p) (nI e) = -1 ∨ ¬ ct_n n f (nI p) (nI e) ≤ nI e - ct_s n f (nI p) (nI e) := by
  have hL := hr.2.1
  by_cases h1 : (nI (bt M ar p) &&& 31) = 31 → p + 1 < e ∧ bt M ar (p + 1) ≤ 127
  rotate_left
  · left
    by_cases c : (nI (bt M ar p) &&& 31) = 31
    · exact rd_bad hB hr he hp c (fun q => h1 (fun _ => q))
    · exact absurd (fun z => absurd z c) h1
  have e1 := rd_ok hB hr he hp h1
  have e2 : ct_l n f (nI p) (nI e) = nI (wk_q1 M ar p) := by unfold ct_l; rw [e1]; exact la_ok hB (by omega)
  have b2 : bt M ar (wk_q1 M ar p) ≤ 255 := hB _
  have b3 : bt M ar (wk_q1 M ar p + 1) ≤ 255 := hB _
  have q1b := wk_q1b M ar p
  right
  by_cases h2 : wk_q1 M ar p < e
  rotate_left
  · left
    unfold ct_n f_Tree_readLength
    rw [e2, ab_ge (by omega) (by omega), if_neg (by decide), if_neg (by decide)]
  have a1 := ab_lt hr he h2
  by_cases h3 : bt M ar (wk_q1 M ar p) ≤ 127
  · right
    have hs : ct_s n f (nI p) (nI e) = nI (wk_q1 M ar p + 1) := by
      unfold ct_s
      rw [e2, ra_lt hr (by omega), if_neg (fun q => by have := (nI_eq (b := 129) (by omega) (by decide)).mp q; omega)]
      exact nI_add _ 1
    have hn : ct_n n f (nI p) (nI e) = nI (bt M ar (wk_q1 M ar p)) := by
      unfold ct_n f_Tree_readLength
      rw [e2, a1, if_neg (fun q => by have := (nI_eq (b := 129) (by omega) (by decide)).mp q; omega), if_neg (show ¬ 127 < nI (bt M ar (wk_q1 M ar p)) from nI_nlt (a := 127) h3 (by decide))]
    rw [hs, hn, pk_sub (by omega)]
    have hq2 : wk_q2 M ar (wk_q1 M ar p) = wk_q1 M ar p + 1 := by unfold wk_q2; rw [if_pos (show nI (bt M ar (wk_q1 M ar p)) ≤ 127 from nI_le (b := 127) h3 (by decide))]
    have hln : wk_ln M ar (wk_q1 M ar p) = bt M ar (wk_q1 M ar p) := by unfold wk_ln; rw [if_pos (show nI (bt M ar (wk_q1 M ar p)) ≤ 127 from nI_le (b := 127) h3 (by decide))]
    intro q
    have := (nI_leI (by omega) (by omega)).mp q
    exact h ⟨h1, h2, Or.inl h3, by rw [hq2, hln]; omega⟩
  · by_cases h4 : bt M ar (wk_q1 M ar p) = 129
    · have hno : ¬ nI (bt M ar (wk_q1 M ar p)) ≤ 127 := by rw [h4]; decide
      by_cases h5 : wk_q1 M ar p + 1 < e
      · right
        have hs : ct_s n f (nI p) (nI e) = nI (wk_q1 M ar p + 2) := by
          unfold ct_s
          rw [e2, ra_lt hr (by omega), h4, if_pos (show nI 129 = 129 from rfl)]
          exact nI_add _ 2
        have hn : ct_n n f (nI p) (nI e) = nI (bt M ar (wk_q1 M ar p + 1)) := by
          unfold ct_n f_Tree_readLength
          rw [e2, a1, h4, if_pos (show nI 129 = 129 from rfl), nI_1, ab_lt hr he h5]
        rw [hs, hn, pk_sub (by omega)]
        have hq2 : wk_q2 M ar (wk_q1 M ar p) = wk_q1 M ar p + 1 + 1 := by unfold wk_q2; rw [if_neg hno]
        have hln : wk_ln M ar (wk_q1 M ar p) = bt M ar (wk_q1 M ar p + 1) := by unfold wk_ln; rw [if_neg hno]
        intro q
        have := (nI_leI (by omega) (by omega)).mp q
        exact h ⟨h1, h2, Or.inr ⟨h4, h5⟩, by rw [hq2, hln]; omega⟩
      · left
        unfold ct_n f_Tree_readLength
        rw [e2, a1, h4, if_pos (show nI 129 = 129 from rfl), nI_1, ab_ge (by omega) (by omega)]
    · left
      unfold ct_n f_Tree_readLength
      rw [e2, a1, if_neg (show ¬ nI (bt M ar (wk_q1 M ar p)) = 129 from fun q => h4 ((nI_eq (b := 129) (by omega) (by decide)).mp q)), if_pos (show 127 < nI (bt M ar (wk_q1 M ar p)) from nI_lt (a := 127) (by omega) (by omega))]
