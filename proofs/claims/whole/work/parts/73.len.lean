theorem pm_len {M : Nat → Nat} {ar B : Nat} : ∀ (k p : Nat) (st : List (Nat × Option Nat)) (acc acc' : List ob_T), pm M ar k p st acc = .inr acc' → (∀ e ∈ st, e.1 ≤ B) → (∀ a ∈ acc, a.2.2.1 ≤ B) → ∀ a ∈ acc', a.2.2.1 ≤ B
  | 0, p, st, acc, acc', h, _, _ => by rw [pm] at h; cases h
  | k + 1, p, [], acc, acc', h, _, ha => by
    rw [pm] at h
    cases h
    exact ha
  | k + 1, p, (e, o) :: r, acc, acc', h, hs, ha => by
    by_cases c : p = e
    · cases r with
      | nil => rw [pm_end c] at h; cases h; exact ha
      | cons y r => rw [pm_pop c] at h; exact pm_len k p (y :: r) acc acc' h (fun q hq => hs q (List.mem_cons_of_mem _ hq)) ha
    · by_cases c4 : 4 ≤ r.length
      · rw [pm_deep c c4] at h; cases h
      · by_cases hh : hv M ar p e
        · have hB : e ≤ B := hs (e, o) (List.mem_cons_self ..)
          have hl : wk_q2 M ar (wk_q1 M ar p) + wk_ln M ar (wk_q1 M ar p) ≤ e := hh.2.2.2
          have ha' : ∀ a ∈ acc ++ [(wk_t1 M ar p, wk_q2 M ar (wk_q1 M ar p), wk_ln M ar (wk_q1 M ar p), r.length, o)], a.2.2.1 ≤ B := by
            intro a hm
            rcases List.mem_append.mp hm with q | q
            · exact ha a q
            · rw [List.mem_singleton.mp q]
              show wk_ln M ar (wk_q1 M ar p) ≤ B
              omega
          by_cases hc : (nI (bt M ar p) &&& 32) = 0
          · rw [pm_prim c c4 hh hc] at h
            exact pm_len k _ _ _ acc' h hs ha'
          · rw [pm_con c c4 hh hc] at h
            refine pm_len k _ _ _ acc' h (fun q hq => ?_) ha'
            rcases List.mem_cons.mp hq with z | z
            · rw [z]; show _ ≤ B; omega
            · exact hs q z
        · rw [pm_bad c c4 hh] at h; cases h
theorem cr_ln {M Z : Nat → Nat} {ar : Nat} {acc : List ob_T} {z n : Int32} {f tg ss ln nn : Nat → Int32} (h : cr_I M Z ar acc z n f tg ss ln nn) : ln_ok z ln := by
  intro o
  have hl := cr_len h
  have hz : z = nI acc.length := h.2.2.2.2.1
  have hb : ∀ a ∈ acc, a.2.2.1 ≤ 60 := pm_len (B := 60) 401 0 [(Z ar, none)] [] acc h.2.2.1 (fun e he => by rw [List.mem_singleton.mp he]; exact h.1) (fun a ha => absurd ha List.not_mem_nil)
  unfold f_Tree_lengthOf
  by_cases c : f_Tree_isObject z o = 0
  · rw [if_pos c]; decide
  · rw [if_neg c]
    unfold f_Tree_isObject at c
    by_cases c0 : o < 0
    · rw [if_pos c0] at c; exact absurd rfl c
    · rw [if_neg c0] at c
      obtain ⟨j, hj, rfl⟩ := nI_of c0
      by_cases c1 : z ≤ nI j
      · rw [if_pos c1] at c; exact absurd rfl c
      · rw [hz] at c1
        have hjl : j < acc.length := by
          rcases Nat.lt_or_ge j acc.length with q | q
          · exact q
          · exact absurd (nI_le q hj) c1
        have ha : acc[j]? = some acc[j] := List.getElem?_eq_getElem hjl
        have e := (h.2.2.2.2.2 j _ ha).2.2.1
        have e' : ln j = nI (acc[j]).2.2.1 := e
        have hb' := hb _ (List.getElem_mem hjl)
        rw [nI_clamp hj, e', nI_toInt (by omega)]
        omega
