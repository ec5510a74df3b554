/-- what a stretch of objects comes to: a BAD one, or all of it -/
def ct_P (M : Nat → Nat) (ar : Nat) (R : Int32 × tt_T) (a e : Nat) (o : Option Nat) (r : List (Nat × Option Nat)) (acc : List ob_T) : Prop := (∃ b c : Nat, R.1 = nI b ∧ b < 2 ^ 31 ∧ c ≤ e - a + 1 ∧ ∀ k, pm M ar (k + c) a ((e, o) :: r) acc = .inl b) ∨ (R.1 = -1 ∧ ∃ (acc' : List ob_T) (c : Nat), tt_I R.2 acc' ∧ c ≤ e - a ∧ 2 * acc'.length ≤ e ∧ (∀ x ∈ acc', ∀ k, x.2.2.2.2 = some k → k < acc'.length) ∧ acc.length ≤ acc'.length ∧ ∀ k, pm M ar (k + c) a ((e, o) :: r) acc = pm M ar k e ((e, o) :: r) acc')
theorem ctL_bad {n : Int32} {f : Nat → Int32} {rc : Int32 → Int32 → Int32 → tt_T → Int32 × tt_T} {en ou a : Int32} {T : tt_T} {r : Nat} (c1 : ¬ en ≤ a) (h : f_Tag_read n f a en = -1 ∨ ct_n n f a en = -1 ∨ ¬ ct_n n f a en ≤ en - ct_s n f a en) : ct_L n f rc en ou (r + 1) a T = (a, T) := by
  rw [ct_Le, if_neg c1]
  unfold ct_C
  by_cases c2 : f_Tag_read n f a en = -1
  · rw [if_pos c2]
  · rw [if_neg c2]
    unfold ct_D
    by_cases c3 : ct_n n f a en = -1
    · rw [if_pos c3]
    · rw [if_neg c3, if_neg]
      rcases h with h | h | h
      · exact absurd h c2
      · exact absurd h c3
      · exact h
theorem ctL_ok {n : Int32} {f : Nat → Int32} {rc : Int32 → Int32 → Int32 → tt_T → Int32 × tt_T} {en ou a t s l : Int32} {T : tt_T} {r : Nat} (c1 : ¬ en ≤ a) (h1 : f_Tag_read n f a en = t) (h2 : ct_s n f a en = s) (h3 : ct_n n f a en = l) (c2 : ¬ t = -1) (c3 : ¬ l = -1) (c4 : l ≤ en - s) : ct_L n f rc en ou (r + 1) a T = ct_B (ct_L n f rc en ou r) t (s + l) (kp_T T t s l ou) (rc s (s + l) (f_Tree_keep T.2.2.2.2) (kp_T T t s l ou)) := by
  rw [ct_Le, if_neg c1, h1]
  unfold ct_C
  rw [if_neg c2, h2, h3]
  unfold ct_D
  rw [if_neg c3, if_pos c4]
theorem ct_sim {M : Nat → Nat} {ar L : Nat} {n : Int32} {f : Nat → Int32} (hB : ∀ j, M j ≤ 255) (hr : ro_I M ar L n f) : ∀ (d : Nat), d ≤ 4 → ∀ (a e : Nat) (o : Option Nat) (r : List (Nat × Option Nat)) (acc : List ob_T) (T : tt_T), a ≤ e → e ≤ L → r.length = 4 - d → tt_I T acc → 2 * acc.length ≤ a → (∀ k, o = some k → k < acc.length) → (∀ x ∈ acc, ∀ k, x.2.2.2.2 = some k → k < acc.length) → ct_P M ar (ct_F n f d (nI a) (nI e) (ou_v o) T) a e o r acc := by
  have hL := hr.2.1
  intro d
  induction d with
  | zero =>
    intro _ a e o r acc T hae heL hrl hT h2 ho hol
    by_cases c : e ≤ a
    · have hea : a = e := Nat.le_antisymm hae c
      subst hea
      right
      refine ⟨?_, acc, 0, hT, Nat.zero_le _, h2, hol, Nat.le_refl _, fun k => rfl⟩
      show (if nI a ≤ nI a then (-1 : Int32) else nI a) = -1
      rw [if_pos (nI_le (Nat.le_refl _) (by omega))]
    · left
      refine ⟨a, 1, ?_, by omega, by omega, fun k => pm_deep (by omega) (by omega)⟩
      show (if nI e ≤ nI a then (-1 : Int32) else nI a) = nI a
      rw [if_neg (nI_ge (by omega) (by omega))]
  | succ d ihd =>
    intro hd4 a e o r acc T hae heL hrl hT h2 ho hol
    have inner : ∀ (rr a : Nat) (acc : List ob_T) (T : tt_T), a ≤ e → e ≤ a + 2 * rr → tt_I T acc → 2 * acc.length ≤ a → (∀ k, o = some k → k < acc.length) → (∀ x ∈ acc, ∀ k, x.2.2.2.2 = some k → k < acc.length) → ct_P M ar (ct_L n f (ct_F n f d) (nI e) (ou_v o) rr (nI a) T) a e o r acc := by
      intro rr
      induction rr with
      | zero =>
        intro a acc T hae hea hT h2 ho hol
        have hea : a = e := by omega
        subst hea
        right
        exact ⟨rfl, acc, 0, hT, Nat.zero_le _, h2, hol, Nat.le_refl _, fun k => rfl⟩
      | succ rr ih =>
        intro a acc T hae hea hT h2 ho hol
        by_cases c : e ≤ a
        · have hea : a = e := Nat.le_antisymm hae c
          subst hea
          rw [ct_L1 (nI_le (Nat.le_refl _) (by omega))]
          right
          exact ⟨rfl, acc, 0, hT, Nat.zero_le _, h2, hol, Nat.le_refl _, fun k => rfl⟩
        have hlt : a < e := by omega
        have c1 : ¬ nI e ≤ nI a := nI_ge hlt (by omega)
        by_cases hh : hv M ar a e
        rotate_left
        · rw [ctL_bad c1 (hd_bad hB hr heL hlt hh)]
          left
          exact ⟨a, 1, rfl, by omega, by omega, fun k => pm_bad (by omega) (by omega) hh⟩
        obtain ⟨g1, g2, g3⟩ := hd_ok hB hr heL hlt hh
        have b1 := wk_q1b M ar a
        have b2 := wk_q2b M ar (wk_q1 M ar a)
        have b3 := wk_lnb hB ar (wk_q1 M ar a)
        have b4 : bt M ar a ≤ 255 := hB _
        have b5 : bt M ar (a + 1) ≤ 255 := hB _
        have bt1 : wk_t1 M ar a < 2 ^ 31 := by unfold wk_t1; split <;> omega
        have h4 := hh.2.2.2
        have hl30 : acc.length < 30 := by omega
        obtain ⟨k1, k2⟩ := tt_keep (t := wk_t1 M ar a) (s := wk_q2 M ar (wk_q1 M ar a)) (l := wk_ln M ar (wk_q1 M ar a)) (d := r.length) (o := o) hT hl30 ho hol
        have hol2 := ol_app (x := (wk_t1 M ar a, wk_q2 M ar (wk_q1 M ar a), wk_ln M ar (wk_q1 M ar a), r.length, o)) hol ho
        have hlen : (acc ++ [(wk_t1 M ar a, wk_q2 M ar (wk_q1 M ar a), wk_ln M ar (wk_q1 M ar a), r.length, o)]).length = acc.length + 1 := by rw [List.length_append]; rfl
        rw [ctL_ok c1 g1 g2 g3 (nI_m1 bt1) (nI_m1 (by omega)) (by rw [pk_sub (by omega)]; exact nI_le (by omega) (by omega)), nI_add, k2]
        unfold ct_B
        by_cases c5 : f_Tag_hasInner (nI (wk_t1 M ar a)) = 0
        · rw [if_pos c5]
          have hpm : ∀ k, pm M ar (k + 1) a ((e, o) :: r) acc = pm M ar k (wk_q2 M ar (wk_q1 M ar a) + wk_ln M ar (wk_q1 M ar a)) ((e, o) :: r) (acc ++ [(wk_t1 M ar a, wk_q2 M ar (wk_q1 M ar a), wk_ln M ar (wk_q1 M ar a), r.length, o)]) := fun k => pm_prim (by omega) (by omega) hh ((hi_ok hB).mp c5)
          rcases ih (wk_q2 M ar (wk_q1 M ar a) + wk_ln M ar (wk_q1 M ar a)) (acc ++ [(wk_t1 M ar a, wk_q2 M ar (wk_q1 M ar a), wk_ln M ar (wk_q1 M ar a), r.length, o)]) _ h4 (by omega) k1 (by rw [hlen]; omega) (fun k hk => by rw [hlen]; have := ho k hk; omega) hol2 with ⟨b, c, p1, p2, p3, p4⟩ | ⟨p1, acc', c, p2, p3, p4, p5, p6, p7⟩
          · left
            exact ⟨b, c + 1, p1, p2, by omega, fun k => by rw [← Nat.add_assoc, hpm]; exact p4 k⟩
          · right
            exact ⟨p1, acc', c + 1, p2, by omega, p4, p5, by rw [hlen] at p6; omega, fun k => by rw [← Nat.add_assoc, hpm]; exact p7 k⟩
        · rw [if_neg c5]
          have hpm : ∀ k, pm M ar (k + 1) a ((e, o) :: r) acc = pm M ar k (wk_q2 M ar (wk_q1 M ar a)) ((wk_q2 M ar (wk_q1 M ar a) + wk_ln M ar (wk_q1 M ar a), some acc.length) :: (e, o) :: r) (acc ++ [(wk_t1 M ar a, wk_q2 M ar (wk_q1 M ar a), wk_ln M ar (wk_q1 M ar a), r.length, o)]) := fun k => pm_con (by omega) (by omega) hh (fun z => c5 ((hi_ok hB).mpr z))
          have hF := ihd (by omega) (wk_q2 M ar (wk_q1 M ar a)) (wk_q2 M ar (wk_q1 M ar a) + wk_ln M ar (wk_q1 M ar a)) (some acc.length) ((e, o) :: r) (acc ++ [(wk_t1 M ar a, wk_q2 M ar (wk_q1 M ar a), wk_ln M ar (wk_q1 M ar a), r.length, o)]) _ (Nat.le_add_right _ _) (by omega) (by rw [List.length_cons]; omega) k1 (by rw [hlen]; omega) (fun k hk => by cases hk; rw [hlen]; omega) hol2
          rw [show ou_v (some acc.length) = nI acc.length from rfl] at hF
          generalize ct_F n f d (nI (wk_q2 M ar (wk_q1 M ar a))) (nI (wk_q2 M ar (wk_q1 M ar a) + wk_ln M ar (wk_q1 M ar a))) (nI acc.length) (kp_T T (nI (wk_t1 M ar a)) (nI (wk_q2 M ar (wk_q1 M ar a))) (nI (wk_ln M ar (wk_q1 M ar a))) (ou_v o)) = F at hF ⊢
          rcases hF with ⟨b, c, p1, p2, p3, p4⟩ | ⟨p1, acc', c, p2, p3, p4, p5, p6, p7⟩
          · rw [if_neg (by rw [p1]; exact nI_m1 p2)]
            left
            exact ⟨b, c + 1, p1, p2, by omega, fun k => by rw [← Nat.add_assoc, hpm]; exact p4 k⟩
          · rw [if_pos p1]
            rw [hlen] at p6
            have hstep : ∀ k, pm M ar (k + (c + 2)) a ((e, o) :: r) acc = pm M ar k (wk_q2 M ar (wk_q1 M ar a) + wk_ln M ar (wk_q1 M ar a)) ((e, o) :: r) acc' := fun k => by
              rw [show k + (c + 2) = ((k + 1) + c) + 1 by omega, hpm, p7, pm_pop rfl]
            rcases ih (wk_q2 M ar (wk_q1 M ar a) + wk_ln M ar (wk_q1 M ar a)) acc' F.2 h4 (by omega) p2 p4 (fun k hk => by have := ho k hk; omega) p5 with ⟨b, c', s1, s2, s3, s4⟩ | ⟨s1, acc2, c', s2, s3, s4, s5, s6, s7⟩
            · left
              exact ⟨b, c' + (c + 2), s1, s2, by omega, fun k => by rw [← Nat.add_assoc, hstep]; exact s4 k⟩
            · right
              exact ⟨s1, acc2, c' + (c + 2), s2, by omega, s4, s5, by omega, fun k => by rw [← Nat.add_assoc, hstep]; exact s7 k⟩
    exact inner 30 a acc T hae (by omega) hT h2 ho hol
/-- the class's tree is the machine -/
theorem ct_spec {M Z : Nat → Nat} {ar : Nat} {n : Int32} {f tg ss ln nn : Nat → Int32} (hB : ∀ j, M j ≤ 255) (hr : ro_I M ar (Z ar) n f) : (∃ b : Nat, b < 2 ^ 31 ∧ (ct_F n f 4 0 n (-1) (tg, ss, ln, nn, 0)).1 = nI b ∧ pm_r M Z ar = .inl b) ∨ ((ct_F n f 4 0 n (-1) (tg, ss, ln, nn, 0)).1 = -1 ∧ ∃ acc, tt_I (ct_F n f 4 0 n (-1) (tg, ss, ln, nn, 0)).2 acc ∧ pm_r M Z ar = .inr acc) := by
  have hL := hr.2.1
  have h := ct_sim hB hr 4 (Nat.le_refl _) 0 (Z ar) none [] [] (tg, ss, ln, nn, 0) (Nat.zero_le _) (Nat.le_refl _) rfl ⟨rfl, fun i a hi => by cases hi⟩ (Nat.le_refl _) (fun k hk => by cases hk) (fun x hx => by cases hx)
  rw [← hr.1] at h
  have h : ct_P M ar (ct_F n f 4 0 n (-1) (tg, ss, ln, nn, 0)) 0 (Z ar) none [] [] := h
  unfold pm_r
  rcases h with ⟨b, c, p1, p2, p3, p4⟩ | ⟨p1, acc', c, p2, p3, p4, p5, p6, p7⟩
  · left
    refine ⟨b, p2, p1, ?_⟩
    have := p4 (401 - c)
    rw [show 401 - c + c = 401 by omega] at this
    exact this
  · right
    refine ⟨p1, acc', p2, ?_⟩
    have := p7 (401 - c)
    rw [show 401 - c + c = 401 by omega, show 401 - c = (400 - c) + 1 by omega, pm_end rfl] at this
    exact this
