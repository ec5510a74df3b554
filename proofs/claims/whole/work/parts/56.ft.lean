/-- a card's row and tree, as make reads them, fit for a card -/
def kc_I (M Z : Nat → Nat) (ar : Nat) (z n : Int32) (f tg ss ln nn : Nat → Int32) : Prop := ro_I M ar (Z ar) n f ∧ (∃ tg0 ss0 ln0 nn0 : Nat → Int32, ct_F n f 4 0 n (-1) (tg0, ss0, ln0, nn0, 0) = (-1, (tg, ss, ln, nn, z))) ∧ uf_v z n f tg ss ln uf_L = -1
theorem kc_cr {M Z : Nat → Nat} {ar : Nat} {z n : Int32} {f tg ss ln nn : Nat → Int32} (hB : ∀ j, M j ≤ 255) (h : kc_I M Z ar z n f tg ss ln nn) : ∃ acc, cr_I M Z ar acc z n f tg ss ln nn := by
  obtain ⟨hr, ⟨tg0, ss0, ln0, nn0, e⟩, _⟩ := h
  have hs := ct_spec (tg := tg0) (ss := ss0) (ln := ln0) (nn := nn0) hB hr
  rw [e] at hs
  rcases hs with ⟨b, hb, h1, _⟩ | ⟨_, acc, h1, h2⟩
  · exact absurd h1.symm (nI_m1 hb)
  · exact ⟨acc, hr.2.1, hB, h2, hr, h1⟩
theorem kc_move {M Z M' Z' : Nat → Nat} {ar ar' : Nat} {z n : Int32} {f tg ss ln nn : Nat → Int32} (h : kc_I M Z ar z n f tg ss ln nn) (hr : ro_I M' ar' (Z' ar') n f) : kc_I M' Z' ar' z n f tg ss ln nn := ⟨hr, h.2⟩
theorem uf_no {z n : Int32} {f tg ss ln : Nat → Int32} : ∀ {l : List Int32}, (∀ t ∈ l, ¬ t = -1) → uf_v z n f tg ss ln l = -1 → ∀ t ∈ l, ¬ f_Card_fits z n f tg ss ln t = 0
  | [], _, _, t, ht => absurd ht (List.not_mem_nil)
  | a :: l, h1, h2, t, ht => by
    rw [uf_v] at h2
    by_cases c : f_Card_fits z n f tg ss ln a = 0
    · rw [if_pos c] at h2
      exact absurd h2 (h1 a (List.mem_cons_self ..))
    · rw [if_neg c] at h2
      rcases List.mem_cons.mp ht with e | e
      · rw [e]; exact c
      · exact uf_no (fun q hq => h1 q (List.mem_cons_of_mem _ hq)) h2 t e
theorem uf_yes {z n : Int32} {f tg ss ln : Nat → Int32} (h : uf_v z n f tg ss ln uf_L = -1) : ∀ t ∈ uf_L, ¬ f_Card_fits z n f tg ss ln t = 0 := uf_no (by decide) h
theorem ft_90 {M Z : Nat → Nat} {ar : Nat} {acc : List ob_T} {z n : Int32} {f tg ss ln nn : Nat → Int32} (h : cr_I M Z ar acc z n f tg ss ln nn) (hf : ¬ f_Card_fits z n f tg ss ln 90 = 0) : ∃ x, fo_s acc 90 = some x ∧ x.2.1 = 1 ∧ bt M ar x.1 < 8 := by
  have hZ := h.1
  unfold f_Card_fits at hf
  cases c : fo_s acc 90 with
  | none => rw [cr_no h c, if_pos rfl, if_pos rfl] at hf; exact absurd rfl hf
  | some x =>
    obtain ⟨j, h1, h2, h3, h4, h5, h6⟩ := cr_yes h c
    have hl := cr_len h
    have hb : bt M ar x.1 ≤ 255 := h.2.1 _
    rw [h1, if_neg (nI_m1 (by omega)), if_pos rfl, cr_length h h2 h4] at hf
    by_cases c1 : nI x.2.1 = 1
    · have c1' : x.2.1 = 1 := (nI_eq (b := 1) (by omega) (by decide)).mp c1
      have e := cr_byte h h2 h3 h4 h6 (i := 0) (by omega)
      rw [if_pos c1, show f_Tree_byteOf z n f ss ln (nI j) 0 = f_Tree_byteOf z n f ss ln (nI j) (nI 0) from rfl, e, Nat.add_zero] at hf
      refine ⟨x, rfl, c1', ?_⟩
      rcases Nat.lt_or_ge (bt M ar x.1) 8 with q | q
      · exact q
      · rw [if_pos (show (8 : Int32) ≤ nI (bt M ar x.1) from nI_le (a := 8) q (by omega))] at hf
        exact absurd rfl hf
    · rw [if_neg c1] at hf
      exact absurd rfl hf
theorem ft_140 {M Z : Nat → Nat} {ar : Nat} {acc : List ob_T} {z n : Int32} {f tg ss ln nn : Nat → Int32} (h : cr_I M Z ar acc z n f tg ss ln nn) (hf : ¬ f_Card_fits z n f tg ss ln 140 = 0) : ¬ so_v (fo_s acc 140) = 0 ∧ ∃ kk L, dm_L M ar (sn_f (fo_s acc 140) + sn_n (fo_s acc 140)) kk (sn_f (fo_s acc 140)) = some L ∧ dm_n L ≤ 40 ∧ L.length ≤ 8 := by
  have hZ := h.1
  unfold f_Card_fits at hf
  cases c : fo_s acc 140 with
  | none => rw [cr_no h c, if_pos rfl, if_neg (show ¬ (140 : Int32) = 90 by decide), if_pos rfl] at hf; exact absurd rfl hf
  | some x =>
    obtain ⟨j, h1, h2, h3, h4, h5, h6⟩ := cr_yes h c
    have hl := cr_len h
    refine ⟨show ¬ (1 : Int32) = 0 by decide, ?_⟩
    rw [h1, if_neg (nI_m1 (by omega)), if_neg (show ¬ (140 : Int32) = 90 by decide), if_pos rfl] at hf
    unfold f_isl at hf
    have e1 := il_sim h h2 h3 h4 h6 8 (x.2.1 + 1) 0 0 0 (Nat.zero_le _) (by omega) rfl (by omega)
    rw [show il_f z n f ss ln (nI j) 8 0 0 = il_f z n f ss ln (nI j) 8 (nI 0) (nI 0) from rfl, e1] at hf
    cases e : dm_L M ar (x.1 + x.2.1) (x.2.1 + 1) (x.1 + 0) with
    | none => rw [e] at hf; exact absurd rfl hf
    | some L =>
      rw [e] at hf
      have hf' : ¬ (if 0 + L.length ≤ 8 ∧ 0 + dm_n L ≤ 40 then (1 : Int32) else 0) = 0 := hf
      by_cases q : 0 + L.length ≤ 8 ∧ 0 + dm_n L ≤ 40
      · exact ⟨x.2.1 + 1, L, e, by omega, by omega⟩
      · rw [if_neg q] at hf'
        exact absurd rfl hf'
theorem ft_sz {acc : List ob_T} {t : Int32} {M Z : Nat → Nat} {ar k : Nat} {z n : Int32} {f tg ss ln nn : Nat → Int32} (h : cr_I M Z ar acc z n f tg ss ln nn) (hk : k ≤ 60) (hf : ¬ f_Mod_sized acc t (nI k) = 0) : sz_ok acc t k := by
  intro x hx
  have hZ := h.1
  have hin := (fo_in h.1 h.2.1 h.2.2.1 hx).1
  unfold f_Mod_sized at hf
  have hv : ¬ so_v (fo_s acc t) = 0 := by rw [hx]; exact show ¬ (1 : Int32) = 0 by decide
  rw [if_neg hv, so_d hv, hx] at hf
  by_cases c : nI (sn_n (some x)) = nI k
  · exact (nI_eq (show x.2.1 < 2 ^ 31 by omega) (by omega)).mp c
  · rw [if_neg c] at hf; exact absurd rfl hf
theorem ft_end {M Z : Nat → Nat} {ar : Nat} {acc : List ob_T} {z n : Int32} {f tg ss ln nn : Nat → Int32} (h : cr_I M Z ar acc z n f tg ss ln nn) (hf : ¬ f_Card_fits z n f tg ss ln 24356 = 0) : sz_ok acc 24356 2 := by
  refine ft_sz (k := 2) h (by decide) (fun q => hf ?_)
  rw [fit_end h]
  unfold f_Mod_sized at q
  by_cases c : so_v (fo_s acc 24356) = 0
  · rw [if_pos c]
  · rw [if_neg c] at q ⊢; exact q
theorem ft_142 {M Z : Nat → Nat} {ar : Nat} {acc : List ob_T} {z n : Int32} {f tg ss ln nn : Nat → Int32} (h : cr_I M Z ar acc z n f tg ss ln nn) (hf : ¬ f_Card_fits z n f tg ss ln 142 = 0) : so_v (fo_s acc 142) = 0 ∨ (2 ≤ sn_n (fo_s acc 142) ∧ sn_n (fo_s acc 142) % 2 = 0) := by
  rw [fit_142 h] at hf
  by_cases c : so_v (fo_s acc 142) = 0
  · exact Or.inl c
  · refine Or.inr ?_
    cases hx : fo_s acc 142 with
    | none => rw [hx] at c; exact absurd rfl c
    | some x =>
      have hin := (fo_in h.1 h.2.1 h.2.2.1 hx).1
      have hZ := h.1
      rw [if_neg c, so_d c, hx] at hf
      have e : sn_n (some x) = x.2.1 := rfl
      rw [e] at hf ⊢
      by_cases c1 : nI x.2.1 < 2
      · rw [if_pos c1] at hf; exact absurd rfl hf
      · rw [if_neg c1] at hf
        by_cases c2 : (12 : Int32) < nI x.2.1
        · rw [if_pos c2] at hf; exact absurd rfl hf
        · rw [if_neg c2] at hf
          have g1 : 2 ≤ x.2.1 := by
            rcases Nat.lt_or_ge x.2.1 2 with q | q
            · exact absurd (nI_lt (b := 2) q (by decide)) c1
            · exact q
          have g2 : x.2.1 ≤ 12 := by
            rcases Nat.lt_or_ge 12 x.2.1 with q | q
            · exact absurd (nI_lt (a := 12) q (by omega)) c2
            · exact q
          refine ⟨g1, ?_⟩
          generalize x.2.1 = k at *
          rcases (show k = 2 ∨ k = 3 ∨ k = 4 ∨ k = 5 ∨ k = 6 ∨ k = 7 ∨ k = 8 ∨ k = 9 ∨ k = 10 ∨ k = 11 ∨ k = 12 by omega) with q | q | q | q | q | q | q | q | q | q | q <;> subst q <;> first | rfl | exact absurd (by decide) hf
/-- what a card's rows give, for a payment -/
theorem ft_all {M Z : Nat → Nat} {ar : Nat} {acc : List ob_T} {z n : Int32} {f tg ss ln nn : Nat → Int32} (h : cr_I M Z ar acc z n f tg ss ln nn) (hu : uf_v z n f tg ss ln uf_L = -1) : (∃ x, fo_s acc 90 = some x ∧ x.2.1 = 1 ∧ bt M ar x.1 < 8) ∧ (¬ so_v (fo_s acc 140) = 0 ∧ ∃ kk L, dm_L M ar (sn_f (fo_s acc 140) + sn_n (fo_s acc 140)) kk (sn_f (fo_s acc 140)) = some L ∧ dm_n L ≤ 40 ∧ L.length ≤ 8) ∧ (so_v (fo_s acc 142) = 0 ∨ (2 ≤ sn_n (fo_s acc 142) ∧ sn_n (fo_s acc 142) % 2 = 0)) ∧ sz_ok acc 24356 2 ∧ sz_ok acc 40717 2 ∧ sz_ok acc 40718 2 ∧ sz_ok acc 40719 2 ∧ sz_ok acc 40724 1 ∧ sz_ok acc 40739 1 := by
  have hy := uf_yes hu
  have f2 : ∀ t : Int32, (t = 40717 ∨ t = 40718 ∨ t = 40719) → t ∈ uf_L → sz_ok acc t 2 := fun t ht hm => ft_sz (k := 2) h (by decide) (fun q => hy t hm ((fit_2 h ht).trans q))
  have f1 : ∀ t : Int32, (t = 40724 ∨ t = 40739) → t ∈ uf_L → sz_ok acc t 1 := fun t ht hm => ft_sz (k := 1) h (by decide) (fun q => hy t hm ((fit_1 h ht).trans q))
  exact ⟨ft_90 h (hy 90 (by decide)), ft_140 h (hy 140 (by decide)), ft_142 h (hy 142 (by decide)), ft_end h (hy 24356 (by decide)), f2 _ (Or.inl rfl) (by decide), f2 _ (Or.inr (Or.inl rfl)) (by decide), f2 _ (Or.inr (Or.inr rfl)) (by decide), f1 _ (Or.inl rfl) (by decide), f1 _ (Or.inr rfl) (by decide)⟩
