theorem ho_sim {M Z : Nat → Nat} {ar : Nat} {acc : List ob_T} {z n : Int32} {f tg ss ln nn : Nat → Int32} (h : cr_I M Z ar acc z n f tg ss ln nn) {o : Nat × Nat × Nat} (ho : fo_s acc 142 = some o) {j : Nat} (hj : j < acc.length) (hss : ss j = nI o.1) (hln : ln j = nI o.2.1) (hx : o.1 + o.2.1 ≤ Z ar) {fl x y : Int32} {g pin trs : Nat → Int32} (hy : y = -1 ∨ 0 ≤ y) : ∀ (k a kM : Nat) (fl8 t8 : Int32), a ≤ o.2.1 → (o.2.1 - a) % 2 = 0 → o.2.1 - a < 2 * k → o.2.1 - a < kM → Mod_holder_f fl M ar acc g pin trs x y kM (o.1 + a, fl8, upd trs ar t8) = ((ch_f z n f ss ln (nI j) x y (pin ar) g (nI (256 * bt M ar o.1 + bt M ar (o.1 + 1))) k (nI a) fl8 t8).1, upd trs ar (ch_f z n f ss ln (nI j) x y (pin ar) g (nI (256 * bt M ar o.1 + bt M ar (o.1 + 1))) k (nI a) fl8 t8).2) := by
  have hZ := h.1
  intro k
  induction k with
  | zero => intro a kM fl8 t8 _ _ q; omega
  | succ k ih =>
    intro a kM fl8 t8 ha he hk hM
    obtain ⟨q, rfl⟩ : ∃ q, kM = q + 1 := ⟨kM - 1, by omega⟩
    rw [ch_f, cr_length h hj hln]
    by_cases c : o.2.1 ≤ a
    · rw [if_pos (nI_le c (by omega)), Mod_holder_d (hs_end ho (by omega) (by omega))]
    · rw [if_neg (nI_ge (by omega) (by omega)), show nI a + 1 = nI (a + 1) from nI_1 a, show nI a + 2 = nI (a + 2) from nI_add a 2, cr_byte h hj hss hln hx (i := a) (by omega), cr_byte h hj hss hln hx (i := a + 1) (by omega)]
      by_cases hc : f_Pmt_isCase x g (nI (bt M ar (o.1 + (a + 1)))) (nI (256 * bt M ar o.1 + bt M ar (o.1 + 1))) = 0
      · rw [if_pos hc, Mod_holder_n (hs_skip (p := o.1 + a) ho (by omega) (by omega) hc)]
        exact ih (a + 2) q fl8 t8 (by omega) (by omega) (by omega) (by omega)
      · rw [if_neg hc]
        have hr := hs_rule (fl := fl) (trs := trs) (tr8 := upd trs ar t8) (fl8 := fl8) (pin := pin) (y := y) h.2.1 hy ho (p := o.1 + a) (by omega) (by omega) hc
        simp only [upd_at, upd_upd] at hr
        by_cases hm : f_Pmt_isMet y (pin ar) t8 g (nI (bt M ar (o.1 + a)) &&& -65) = 0
        · rw [if_pos hm] at hr ⊢
          by_cases h64 : nI (bt M ar (o.1 + a)) &&& 64 = 0
          · rw [if_pos h64] at hr ⊢
            rw [Mod_holder_d hr]
          · rw [if_neg h64] at hr ⊢
            rw [Mod_holder_n hr]
            exact ih (a + 2) q _ _ (by omega) (by omega) (by omega) (by omega)
        · rw [if_neg hm] at hr ⊢
          rw [Mod_holder_d hr]
theorem eq_holder {M Z : Nat → Nat} {ar : Nat} {acc : List ob_T} {z n : Int32} {f tg ss ln nn : Nat → Int32} (h : cr_I M Z ar acc z n f tg ss ln nn) {fl x y : Int32} {g pin trs : Nat → Int32} (hy : y = -1 ∨ 0 ≤ y) (hr : so_v (fo_s acc 142) = 0 ∨ (2 ≤ sn_n (fo_s acc 142) ∧ sn_n (fo_s acc 142) % 2 = 0)) : Mod_holder_r fl M ar acc g pin trs x y = ((ch_r z n f tg ss ln x y fl (pin ar) (trs ar) g).1, upd trs ar (ch_r z n f tg ss ln x y fl (pin ar) (trs ar) g).2) := by
  have hZ := h.1
  unfold Mod_holder_r ch_r
  cases c : fo_s acc 142 with
  | none =>
    rw [cr_no h c, if_pos (show so_v none = 0 from rfl), if_pos rfl, upd_self]
  | some o =>
    obtain ⟨j, h1, h2, h3, h4, h5, h6⟩ := cr_yes h c
    have hl := cr_len h
    rw [c] at hr
    obtain ⟨r1, r2⟩ := hr.resolve_left (show ¬ so_v (some o) = 0 from show ¬ (1 : Int32) = 0 by decide)
    have r1 : 2 ≤ o.2.1 := r1
    have r2 : o.2.1 % 2 = 0 := r2
    rw [h1, if_neg (show ¬ so_v (some o) = 0 from show ¬ (1 : Int32) = 0 by decide), if_neg (nI_m1 (by omega)), cr_pair h h2 h3 h4 h6 r1]
    have := ho_sim h c h2 h3 h4 h6 (fl := fl) (x := x) (g := g) (pin := pin) (trs := trs) hy 30 2 (sn_f (some o) + sn_n (some o) - (sn_f (some o) + 2) + 1) fl (trs ar) r1 (by omega) (by omega) (by show _ < o.1 + o.2.1 - (o.1 + 2) + 1; omega)
    rw [upd_self] at this
    exact this
