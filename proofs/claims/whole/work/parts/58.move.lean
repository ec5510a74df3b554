def un (f : Nat → Nat) (k x : Nat) : Nat → Nat := fun j => if j = k then x else f j
theorem un_J (M : Nat → Nat) (k x : Nat) : upd (nJ M) k (nI x) = nJ (un M k x) := by
  funext j
  show (if j = k then nI x else nI (M j)) = nI (if j = k then x else M j)
  split <;> rfl
theorem un_at (f : Nat → Nat) (k x : Nat) : un f k x k = x := by unfold un; rw [if_pos rfl]
theorem un_ne (f : Nat → Nat) {k j : Nat} (x : Nat) (h : ¬ j = k) : un f k x j = f j := by unfold un; rw [if_neg h]
theorem eq_feed {Z : Nat → Nat} {x : Int32} (h60 : Z 4 ≤ 60) : f_PC_feed (nI (Z 4)) x = f_Mod_feed (nJ Z) x := by
  unfold f_PC_feed f_Mod_feed f_Row_add f_Row_add_length
  rw [in_within]
  by_cases c : f_PC_isWithin x 0 255 = 0
  · rw [if_pos c, if_pos c]
  · rw [if_neg c, if_neg c]
    have e : nJ Z 4 = nI (Z 4) := rfl
    rw [e]
    by_cases h : Z 4 = 60
    · rw [h, if_neg (show ¬ nI 60 < Int32.ofNat 60 by decide), if_pos rfl, if_pos (show nI 60 = 60 from rfl)]
    · have hl : nI (Z 4) < Int32.ofNat 60 := nI_lt (b := 60) (by omega) (by decide)
      rw [if_pos hl, if_neg (by decide), if_pos hl, if_neg (show ¬ nI (Z 4) = 60 from fun q => h ((nI_eq (b := 60) (by omega) (by decide)).mp q))]
      rfl
theorem w255 {x : Int32} (h : ¬ f_PC_isWithin x 0 255 = 0) : ∃ j : Nat, j ≤ 255 ∧ x = nI j := by
  unfold f_PC_isWithin at h
  by_cases c : x < 0
  · rw [if_pos c] at h; exact absurd rfl h
  · obtain ⟨j, hj, rfl⟩ := nI_of c
    rw [if_neg c] at h
    rcases Nat.lt_or_ge 255 j with q | q
    · rw [if_pos (show (255 : Int32) < nI j from nI_lt (a := 255) q hj)] at h
      exact absurd rfl h
    · exact ⟨j, q, rfl⟩
/-- the text after feed, on both sides; the cards stay -/
theorem mv_feed {M Z : Nat → Nat} {n : Int32} {f : Nat → Int32} (x : Int32) (hB : ∀ j, M j ≤ 255) (hr : ro_I M 4 (Z 4) n f) : ∃ M' Z' : Nat → Nat, f_Mod_feed_1 (nJ M) (nJ Z) x = nJ M' ∧ f_Mod_feed_2 (nJ Z) x = nJ Z' ∧ (∀ j, M' j ≤ 255) ∧ ro_I M' 4 (Z' 4) (f_PC_feed_length n x) (f_PC_feed_2 n f x) ∧ ∀ ar, ar ≤ 3 → Z' ar = Z ar ∧ ∀ i, i < 60 → bt M' ar i = bt M ar i := by
  obtain ⟨hn, h60, hf⟩ := hr
  unfold f_Mod_feed_1 f_Mod_feed_2 f_PC_feed_length f_PC_feed_2 f_Row_add_length f_Row_add_1
  rw [in_within]
  by_cases c : f_PC_isWithin x 0 255 = 0
  · simp only [if_pos c]
    exact ⟨M, Z, rfl, rfl, hB, ⟨hn, h60, hf⟩, fun ar _ => ⟨rfl, fun i _ => rfl⟩⟩
  · simp only [if_neg c]
    have e : nJ Z 4 = nI (Z 4) := rfl
    rw [e, hn]
    by_cases h : Z 4 = 60
    · have h1 : nI (Z 4) = 60 := by rw [h]; rfl
      have h2 : ¬ nI (Z 4) < Int32.ofNat 60 := by rw [h]; decide
      simp only [if_pos h1, if_neg h2]
      exact ⟨M, Z, rfl, rfl, hB, ⟨rfl, h60, hf⟩, fun ar _ => ⟨rfl, fun i _ => rfl⟩⟩
    · have hl : nI (Z 4) < Int32.ofNat 60 := nI_lt (b := 60) (by omega) (by decide)
      have hn6 : ¬ nI (Z 4) = 60 := fun q => h ((nI_eq (b := 60) (by omega) (by decide)).mp q)
      simp only [if_neg hn6, if_pos hl]
      obtain ⟨b, hb, rfl⟩ := w255 c
      have e1 : (240 : Int32) + nI (Z 4) = nI (240 + Z 4) := nI_add 240 (Z 4)
      rw [e1, nI_clamp (n := 240 + Z 4) (by omega), nI_clamp (n := Z 4) (by omega), nI_1, un_J, un_J]
      refine ⟨un M (240 + Z 4) b, un Z 4 (Z 4 + 1), rfl, rfl, ?_, ⟨by rw [un_at], by rw [un_at]; omega, ?_⟩, ?_⟩
      · intro j
        unfold un
        split
        · exact hb
        · exact hB j
      · intro j hj
        rw [un_at] at hj
        show (if j = Z 4 then nI b else f j) = nI (un M (240 + Z 4) b (60 * 4 + j))
        by_cases ej : j = Z 4
        · rw [if_pos ej, ej, un_at]
        · rw [if_neg ej, un_ne _ _ (by omega)]
          exact hf j (by omega)
      · intro ar har
        refine ⟨un_ne _ _ (by omega), fun i hi => ?_⟩
        exact un_ne _ _ (by omega)
theorem ro_agree {M Z M' Z' : Nat → Nat} {ar : Nat} {n : Int32} {f : Nat → Int32} (h : ro_I M ar (Z ar) n f) (hZ : Z' ar = Z ar) (hM : ∀ i, i < 60 → bt M' ar i = bt M ar i) : ro_I M' ar (Z' ar) n f := by
  rw [hZ]
  refine ⟨h.1, h.2.1, fun j hj => ?_⟩
  have := h.2.1
  rw [h.2.2 j hj, hM j (by omega)]
theorem ro_wipe {M Z : Nat → Nat} (f : Nat → Int32) : ro_I M 4 (un Z 4 0 4) 0 f := ⟨by rw [un_at]; rfl, by rw [un_at]; decide, fun j hj => by rw [un_at] at hj; omega⟩
theorem mv_make {M Z : Nat → Nat} {ar : Nat} {n : Int32} {f : Nat → Int32} (har : ar ≤ 3) (hB : ∀ j, M j ≤ 255) (hr : ro_I M 4 (Z 4) n f) : (∀ j, mk_c M ar (Z 4) j ≤ 255) ∧ ro_I (mk_c M ar (Z 4)) ar (mk_z Z ar ar) n f ∧ (∀ g, ro_I (mk_c M ar (Z 4)) 4 (mk_z Z ar 4) 0 g) ∧ ∀ a2, a2 ≤ 3 → ¬ a2 = ar → mk_z Z ar a2 = Z a2 ∧ ∀ i, i < 60 → bt (mk_c M ar (Z 4)) a2 i = bt M a2 i := by
  have h60 := hr.2.1
  have ez : mk_z Z ar ar = Z 4 := by unfold mk_z; rw [if_neg (by omega), if_pos rfl]
  refine ⟨fun j => ?_, ?_, fun g => ⟨rfl, Nat.zero_le _, fun j hj => absurd hj (Nat.not_lt_zero _)⟩, fun a2 h2 hne => ⟨?_, fun i hi => ?_⟩⟩
  · unfold mk_c
    split
    · exact hB _
    · exact hB _
  · rw [ez]
    refine ⟨hr.1, h60, fun j hj => ?_⟩
    rw [hr.2.2 j hj]
    unfold bt mk_c
    rw [if_pos (by omega)]
    congr 2
    omega
  · unfold mk_z
    rw [if_neg (by omega), if_neg hne]
  · unfold bt mk_c
    rw [if_neg (by omega)]
