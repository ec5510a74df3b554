theorem dm_e {M : Nat → Nat} {ar T k p : Nat} (c : T ≤ p) : dm_L M ar T (k + 1) p = some [] := by rw [dm_L, if_pos c]
theorem dm_bad {M : Nat → Nat} {ar T k p : Nat} (c : p < T) (b : dm_b M ar p T) : dm_L M ar T (k + 1) p = none := by
  rw [dm_L, if_neg (by omega), if_pos ((@decide_eq_true_iff _ (Classical.propDecidable _)).mpr b)]
theorem dm_ok {M : Nat → Nat} {ar T k p : Nat} (c : p < T) (b : ¬ dm_b M ar p T) : dm_L M ar T (k + 1) p = (dm_L M ar T k (wk_q1 M ar p + 1)).map ((wk_t1 M ar p, bt M ar (wk_q1 M ar p)) :: ·) := by
  rw [dm_L, if_neg (by omega), if_neg (fun z => b ((@decide_eq_true_iff _ (Classical.propDecidable _)).mp z))]
/-- whether demands make a list, after n demands that ask for u bytes -/
def lm_v (n u : Nat) (o : Option (List (Nat × Nat))) : Int32 := match o with
  | none => 0
  | some L => if n + L.length ≤ 8 ∧ u + dm_n L ≤ 40 then 1 else 0
theorem lm_cons (n u : Nat) (b : Nat × Nat) (o : Option (List (Nat × Nat))) : lm_v n u (o.map (b :: ·)) = lm_v (n + 1) (u + b.2) o := by
  cases o with
  | none => rfl
  | some L =>
    show (if n + (b :: L).length ≤ 8 ∧ u + dm_n (b :: L) ≤ 40 then (1 : Int32) else 0) = (if n + 1 + L.length ≤ 8 ∧ u + b.2 + dm_n L ≤ 40 then 1 else 0)
    have e1 : (b :: L).length = L.length + 1 := rfl
    have e2 : dm_n (b :: L) = b.2 + dm_n L := rfl
    rw [e1, e2, show n + (L.length + 1) = n + 1 + L.length by omega, Nat.add_assoc u]
theorem lm_nil (n u : Nat) : lm_v n u (some []) = if n ≤ 8 ∧ u ≤ 40 then 1 else 0 := rfl
theorem wk_q1l {M : Nat → Nat} {ar p : Nat} (c : (nI (bt M ar p) &&& 31) = 31) : wk_q1 M ar p = p + 1 + 1 := by unfold wk_q1; rw [if_pos c]
theorem wk_q1s {M : Nat → Nat} {ar p : Nat} (c : ¬ (nI (bt M ar p) &&& 31) = 31) : wk_q1 M ar p = p + 1 := by unfold wk_q1; rw [if_neg c]
theorem li_sim {M : Nat → Nat} (hB : ∀ j, M j ≤ 255) {acc : List ob_T} {T : Nat} (hT : sn_f (fo_s acc 140) + sn_n (fo_s acc 140) = T) (h60 : T ≤ 60) : ∀ (kM kk p n u : Nat), p ≤ T → T - p < kM → T - p < kk → n + (T - p) ≤ 100 → u + 255 * (T - p) ≤ 100000 → Mod_list_f M acc kM (p, n, u) = lm_v n u (dm_L M 4 T kk p) := by
  intro kM
  induction kM with
  | zero => intro kk p n u _ q; omega
  | succ kM ih =>
    intro kk p n u hp hM hk hn hu
    obtain ⟨kk, rfl⟩ : ∃ q, kk = q + 1 := ⟨kk - 1, by omega⟩
    by_cases c : T ≤ p
    · rw [dm_e c, lm_nil]
      refine Mod_list_d ?_
      unfold Mod_list_s
      dsimp only
      rw [hT, if_pos (nI_le c (by omega))]
      by_cases c8 : n ≤ 8
      · rw [if_neg (show ¬ (8 : Int32) < nI n from nI_nlt (a := 8) (b := n) c8 (by decide))]
        by_cases c4 : u ≤ 40
        · rw [if_neg (show ¬ (40 : Int32) < nI u from nI_nlt (a := 40) (b := u) c4 (by decide)), if_pos ⟨c8, c4⟩]
        · rw [if_pos (show (40 : Int32) < nI u from nI_lt (a := 40) (b := u) (by omega) (by omega)), if_neg (fun q => c4 q.2)]
      · rw [if_pos (show (8 : Int32) < nI n from nI_lt (a := 8) (b := n) (by omega) (by omega)), if_neg (fun q => c8 q.1)]
    · have hb1 : bt M 4 (p + 1) ≤ 255 := hB _
      by_cases b : dm_b M 4 p T
      · rw [dm_bad (by omega) b, show lm_v n u none = 0 from rfl]
        refine Mod_list_d ?_
        unfold Mod_list_s
        dsimp only
        rw [hT, if_neg (nI_ge (by omega) (by omega))]
        by_cases cl : (nI (bt M 4 p) &&& 31) = 31
        · rw [if_pos cl]
          by_cases c1 : T ≤ p + 1
          · rw [if_pos (nI_le c1 (by omega))]
          · rw [if_neg (nI_ge (by omega) (by omega))]
            by_cases c2 : bt M 4 (p + 1) ≤ 127
            · rw [if_pos (show nI (bt M 4 (p + 1)) ≤ (127 : Int32) from nI_le (b := 127) c2 (by decide))]
              have h3 : T ≤ p + 1 + 1 := by
                rcases b with ⟨_, b | b⟩ | b
                · omega
                · omega
                · rw [wk_q1l cl] at b; exact b
              rw [if_neg (nI_nlt h3 (by omega))]
            · rw [if_neg (show ¬ nI (bt M 4 (p + 1)) ≤ (127 : Int32) from nI_ge (a := 127) (by omega) (by omega))]
        · rw [if_neg cl]
          have h3 : T ≤ p + 1 := by
            rcases b with ⟨q, _⟩ | b
            · exact absurd q cl
            · rw [wk_q1s cl] at b; exact b
          rw [if_neg (nI_nlt h3 (by omega))]
      · have hq : wk_q1 M 4 p < T := by
          rcases Nat.lt_or_ge (wk_q1 M 4 p) T with z | z
          · exact z
          · exact absurd (Or.inr z) b
        have hqp : p < wk_q1 M 4 p := by unfold wk_q1; split <;> omega
        have hb2 : bt M 4 (wk_q1 M 4 p) ≤ 255 := hB _
        rw [dm_ok (by omega) b, lm_cons]
        rw [Mod_list_n (yy_ := (wk_q1 M 4 p + 1, n + 1, u + bt M 4 (wk_q1 M 4 p)))]
        · exact ih kk (wk_q1 M 4 p + 1) (n + 1) (u + bt M 4 (wk_q1 M 4 p)) (by omega) (by omega) (by omega) (by omega) (by omega)
        · unfold Mod_list_s
          dsimp only
          rw [hT, if_neg (nI_ge (by omega) (by omega))]
          by_cases cl : (nI (bt M 4 p) &&& 31) = 31
          · have e := wk_q1l cl
            have c1 : ¬ T ≤ p + 1 := fun q => b (Or.inl ⟨cl, Or.inl q⟩)
            have c2 : bt M 4 (p + 1) ≤ 127 := by
              rcases Nat.lt_or_ge 127 (bt M 4 (p + 1)) with z | z
              · exact absurd (Or.inl ⟨cl, Or.inr z⟩) b
              · exact z
            rw [e] at hq
            rw [if_pos cl, if_neg (nI_ge (by omega) (by omega)), if_pos (show nI (bt M 4 (p + 1)) ≤ (127 : Int32) from nI_le (b := 127) c2 (by decide)), if_pos (nI_lt hq (by omega)), e]
          · have e := wk_q1s cl
            rw [e] at hq
            rw [if_neg cl, if_pos (nI_lt hq (by omega)), e]
theorem il_sim {M Z : Nat → Nat} {ar : Nat} {acc : List ob_T} {z n : Int32} {f tg ss ln nn : Nat → Int32} (h : cr_I M Z ar acc z n f tg ss ln nn) {o : Nat × Nat × Nat} {j : Nat} (hj : j < acc.length) (hss : ss j = nI o.1) (hln : ln j = nI o.2.1) (hx : o.1 + o.2.1 ≤ Z ar) : ∀ (k kk a m u : Nat), a ≤ o.2.1 → o.2.1 - a < kk → m + k = 8 → u + 255 * k ≤ 100000 → il_f z n f ss ln (nI j) k (nI a) (nI u) = lm_v m u (dm_L M ar (o.1 + o.2.1) kk (o.1 + a)) := by
  have hZ := h.1
  have hle : ∀ a m u : Nat, a = o.2.1 → m ≤ 8 → u ≤ 100000 → il_e z ln (nI j) (nI a) (nI u) = lm_v m u (some []) := by
    intro a m u ha hm hu
    unfold il_e
    rw [cr_length h hj hln, ha, if_pos rfl, lm_nil]
    by_cases c : u ≤ 40
    · rw [if_neg (show ¬ (40 : Int32) < nI u from nI_nlt (a := 40) (b := u) c (by decide)), if_pos ⟨hm, c⟩]
    · rw [if_pos (show (40 : Int32) < nI u from nI_lt (a := 40) (b := u) (by omega) (by omega)), if_neg (fun q => c q.2)]
  intro k
  induction k with
  | zero =>
    intro kk a m u ha hk hm hu
    obtain ⟨kk, rfl⟩ : ∃ q, kk = q + 1 := ⟨kk - 1, by omega⟩
    by_cases c : o.2.1 ≤ a
    · rw [dm_e (by omega)]
      exact hle a m u (by omega) (by omega) (by omega)
    · show il_e z ln (nI j) (nI a) (nI u) = _
      unfold il_e
      rw [cr_length h hj hln, if_neg (wk_ne (by omega) (by omega) (by omega))]
      by_cases b : dm_b M ar (o.1 + a) (o.1 + o.2.1)
      · rw [dm_bad (by omega) b]; rfl
      · rw [dm_ok (by omega) b, lm_cons]
        cases dm_L M ar (o.1 + o.2.1) kk (wk_q1 M ar (o.1 + a) + 1) with
        | none => rfl
        | some L =>
          show (0 : Int32) = if _ then _ else _
          rw [if_neg (by omega)]
  | succ k ih =>
    intro kk a m u ha hk hm hu
    obtain ⟨kk, rfl⟩ : ∃ q, kk = q + 1 := ⟨kk - 1, by omega⟩
    rw [il_f]
    have hlen := cr_length h hj hln
    by_cases c : o.2.1 ≤ a
    · rw [dm_e (by omega), if_pos (by rw [hlen]; exact nI_le c (by omega))]
      exact hle a m u (by omega) (by omega) (by omega)
    · rw [if_neg (by rw [hlen]; exact nI_ge (by omega) (by omega))]
      by_cases b : dm_b M ar (o.1 + a) (o.1 + o.2.1)
      · rw [dm_bad (by omega) b]
        by_cases g : (nI (bt M ar (o.1 + a)) &&& 31) = 31 → o.1 + a + 1 < o.1 + o.2.1 ∧ bt M ar (o.1 + a + 1) ≤ 127
        · obtain ⟨t1, t2, t3⟩ := dm_tag h hj hss hln hx (a := a) (by omega) g
          have hq : o.1 + o.2.1 ≤ wk_q1 M ar (o.1 + a) := by
            rcases b with ⟨q, b | b⟩ | b
            · have := (g q).1; omega
            · have := (g q).2; omega
            · exact b
          have hq2 : wk_q1 M ar (o.1 + a) ≤ o.1 + a + 2 := by unfold wk_q1; split <;> omega
          rw [t1, t2, cr_byteN h hj hln hx (i := wk_q1 M ar (o.1 + a) - o.1) (by omega) (by omega), if_pos rfl]
          split <;> rfl
        · have c31 : (nI (bt M ar (o.1 + a)) &&& 31) = 31 := Classical.byContradiction (fun q => g (fun z => absurd z q))
          have t1 : f_Tree_tagOf z n f ss ln (nI j) (nI a) = -1 := by
            have hl := cr_len h
            unfold f_Tree_tagOf
            rw [if_neg (by rw [cr_hb h hj hln hx a (by omega)]; exact fun q => q (by omega)), nI_clamp (by omega), hss, hln, nI_add, nI_add]
            exact rd_bad h.2.1 h.2.2.2.1 hx (by omega) c31 (fun q => g (fun _ => q))
          rw [t1, if_pos rfl]
          rfl
      · have g : (nI (bt M ar (o.1 + a)) &&& 31) = 31 → o.1 + a + 1 < o.1 + o.2.1 ∧ bt M ar (o.1 + a + 1) ≤ 127 := by
          intro q
          refine ⟨?_, ?_⟩
          · rcases Nat.lt_or_ge (o.1 + a + 1) (o.1 + o.2.1) with y | y
            · exact y
            · exact absurd (Or.inl ⟨q, Or.inl y⟩) b
          · rcases Nat.lt_or_ge 127 (bt M ar (o.1 + a + 1)) with y | y
            · exact absurd (Or.inl ⟨q, Or.inr y⟩) b
            · exact y
        obtain ⟨t1, t2, t3⟩ := dm_tag h hj hss hln hx (a := a) (by omega) g
        have hq : wk_q1 M ar (o.1 + a) < o.1 + o.2.1 := by
          rcases Nat.lt_or_ge (wk_q1 M ar (o.1 + a)) (o.1 + o.2.1) with y | y
          · exact y
          · exact absurd (Or.inr y) b
        have hb2 : bt M ar (wk_q1 M ar (o.1 + a)) ≤ 255 := h.2.1 _
        have ht : wk_t1 M ar (o.1 + a) < 2 ^ 31 := by
          have h1 : bt M ar (o.1 + a) ≤ 255 := h.2.1 _
          have h2 : bt M ar (o.1 + a + 1) ≤ 255 := h.2.1 _
          unfold wk_t1; split <;> omega
        rw [dm_ok (by omega) b, lm_cons, t1, t2, if_neg (nI_m1 ht), cr_byte h hj hss hln hx (i := wk_q1 M ar (o.1 + a) - o.1) (by omega), show o.1 + (wk_q1 M ar (o.1 + a) - o.1) = wk_q1 M ar (o.1 + a) by omega, if_neg (nI_m1 (by omega)), nI_add, show nI (wk_q1 M ar (o.1 + a) - o.1) + 1 = nI (wk_q1 M ar (o.1 + a) - o.1 + 1) from nI_1 _]
        have := ih kk (wk_q1 M ar (o.1 + a) - o.1 + 1) (m + 1) (u + bt M ar (wk_q1 M ar (o.1 + a))) (by omega) (by omega) (by omega) (by omega)
        rw [show o.1 + (wk_q1 M ar (o.1 + a) - o.1 + 1) = wk_q1 M ar (o.1 + a) + 1 by omega] at this
        exact this
