theorem upd_self (f : Nat → Int32) (i : Nat) : upd f i (f i) = f := by
  funext j
  unfold upd
  by_cases c : j = i
  · rw [if_pos c, c]
  · rw [if_neg c]
theorem upd_upd (f : Nat → Int32) (i : Nat) (a b : Int32) : upd (upd f i a) i b = upd f i b := by
  funext j
  unfold upd
  by_cases c : j = i
  · rw [if_pos c, if_pos c]
  · rw [if_neg c, if_neg c, if_neg c]
theorem upd_at (f : Nat → Int32) (i : Nat) (a : Int32) : upd f i a i = a := by
  unfold upd
  rw [if_pos rfl]
theorem nb_one {M : Nat → Nat} {ar : Nat} {x : Nat × Nat × Nat} (no : Int32) (h : x.2.1 = 1) : nb_v M ar (some x) no = nI (bt M ar x.1) := by
  show nb_f M ar x.2.1 x.1 0 = _
  rw [h]
  show 256 * 0 + nI (bt M ar x.1) = _
  rw [show (256 : Int32) * 0 = 0 from rfl, Int32.zero_add]
theorem nb_two {M : Nat → Nat} {ar : Nat} {x : Nat × Nat × Nat} (no : Int32) (h : x.2.1 = 2) : nb_v M ar (some x) no = nI (256 * bt M ar x.1 + bt M ar (x.1 + 1)) := by
  show nb_f M ar x.2.1 x.1 0 = _
  rw [h]
  show 256 * (256 * 0 + nI (bt M ar x.1)) + nI (bt M ar (x.1 + 1)) = _
  rw [show (256 : Int32) * 0 = 0 from rfl, Int32.zero_add, ← nI_add, ← pk_mul]
  rfl
/-- an object that isn't there or has so many bytes -/
def sz_ok (acc : List ob_T) (t : Int32) (k : Nat) : Prop := ∀ x, fo_s acc t = some x → x.2.1 = k
theorem eq_pair {M Z : Nat → Nat} {ar : Nat} {acc : List ob_T} {z n : Int32} {f tg ss ln nn : Nat → Int32} (h : cr_I M Z ar acc z n f tg ss ln nn) {t : Int32} (hs : sz_ok acc t 2) : nb_v M ar (fo_s acc t) 0 = f_Tree_pairOf z n f ss ln (ix_v (ix_f tg t (Int32.toNatClampNeg z) 0)) := by
  cases c : fo_s acc t with
  | none => rw [cr_no h c, cr_pair_no h]; rfl
  | some x =>
    obtain ⟨j, h1, h2, h3, h4, h5, h6⟩ := cr_yes h c
    have h2' := hs x c
    rw [h1, cr_pair h h2 h3 h4 h6 (by omega), nb_two 0 h2']
theorem eq_byte {M Z : Nat → Nat} {ar : Nat} {acc : List ob_T} {z n : Int32} {f tg ss ln nn : Nat → Int32} (h : cr_I M Z ar acc z n f tg ss ln nn) {t : Int32} (hs : sz_ok acc t 1) : nb_v M ar (fo_s acc t) (-1) = f_Tree_byteOf z n f ss ln (ix_v (ix_f tg t (Int32.toNatClampNeg z) 0)) 0 := by
  cases c : fo_s acc t with
  | none => rw [cr_no h c, cr_byte_no h]; rfl
  | some x =>
    obtain ⟨j, h1, h2, h3, h4, h5, h6⟩ := cr_yes h c
    have h2' := hs x c
    have e := cr_byte h h2 h3 h4 h6 (i := 0) (by omega)
    rw [h1, show f_Tree_byteOf z n f ss ln (nI j) 0 = f_Tree_byteOf z n f ss ln (nI j) (nI 0) from rfl, e, nb_one (-1) h2']
    rfl
/-- the rules of the holder, on both sides -/
theorem ho_case {x li w : Int32} {g : Nat → Int32} : (if w = 0 then False else (if w = 1 then (if x < li then False else (if w = 2 then (if li < x then False else (if w = 3 then (if (g 3) = 0 then True else (False)) else (True))) else (if w = 3 then (if (g 3) = 0 then True else (False)) else (True)))) else (if w = 2 then (if li < x then False else (if w = 3 then (if (g 3) = 0 then True else (False)) else (True))) else (if w = 3 then (if (g 3) = 0 then True else (False)) else (True)))) : Prop) ↔ f_Pmt_isCase x g w li = 0 := by
  unfold f_Pmt_isCase f_Term_hasPad
  by_cases h0 : w = 0
  · rw [if_pos h0, if_pos h0]; exact ⟨fun q => q.elim, fun q => absurd q (by decide)⟩
  rw [if_neg h0, if_neg h0]
  by_cases h1 : w = 1
  · subst h1
    rw [if_pos rfl, if_pos rfl, if_neg (show ¬ (1 : Int32) = 2 by decide), if_neg (show ¬ (1 : Int32) = 3 by decide)]
    by_cases c : x < li
    · rw [if_pos c, if_neg (Int32.not_le.mpr c)]; exact ⟨fun q => q.elim, fun q => absurd q (by decide)⟩
    · rw [if_neg c, if_pos (Int32.not_lt.mp c)]; exact ⟨fun _ => rfl, fun _ => trivial⟩
  rw [if_neg h1, if_neg h1]
  by_cases h2 : w = 2
  · subst h2
    rw [if_pos rfl, if_pos rfl, if_neg (show ¬ (2 : Int32) = 3 by decide)]
    by_cases c : li < x
    · rw [if_pos c, if_neg (Int32.not_le.mpr c)]; exact ⟨fun q => q.elim, fun q => absurd q (by decide)⟩
    · rw [if_neg c, if_pos (Int32.not_lt.mp c)]; exact ⟨fun _ => rfl, fun _ => trivial⟩
  rw [if_neg h2, if_neg h2]
  by_cases h3 : w = 3
  · rw [if_pos h3, if_pos h3]
    by_cases c : g 3 = 0
    · rw [if_pos c, if_pos c]; exact ⟨fun _ => rfl, fun _ => trivial⟩
    · rw [if_neg c, if_neg c]; exact ⟨fun q => q.elim, fun q => absurd q (by decide)⟩
  · rw [if_neg h3, if_neg h3]; exact ⟨fun _ => rfl, fun _ => trivial⟩
theorem ny_ge {y : Int32} (h : 0 ≤ y) : ¬ y = -1 := fun q => by subst q; exact absurd h (by decide)
theorem pi_v {g pin tr8 : Nat → Int32} {ar : Nat} {y : Int32} (hy : y = -1 ∨ 0 ≤ y) : f_Mod_pin g pin tr8 ar y = f_Pmt_isPinRight y (pin ar) (tr8 ar) g := by
  unfold f_Mod_pin f_Pmt_isPinRight f_Term_hasPad f_Card_isBlocked f_Card_acceptsPin
  by_cases c : g 3 = 0
  · rw [if_pos c, if_pos c, if_pos rfl]
  rw [if_neg c, if_neg c, if_neg (show ¬ (1 : Int32) = 0 by decide)]
  rcases hy with h | h
  · subst h; rw [if_neg (by decide), if_pos rfl]
  · rw [if_pos h, if_neg (ny_ge h)]
    by_cases c2 : tr8 ar = 0
    · rw [if_pos c2, if_pos c2, if_neg (by decide)]
    · rw [if_neg c2, if_neg c2, if_pos rfl]
theorem pi_f {g tr8 : Nat → Int32} {ar : Nat} {fl y : Int32} (hy : y = -1 ∨ 0 ≤ y) : f_Mod_pin_flags fl g tr8 ar y = f_Pmt_isPinRight_flags y fl (tr8 ar) g := by
  unfold f_Mod_pin_flags f_Pmt_isPinRight_flags f_Term_hasPad f_Card_isBlocked
  by_cases c : g 3 = 0
  · rw [if_pos c, if_pos c, if_pos rfl]
  rw [if_neg c, if_neg c, if_neg (show ¬ (1 : Int32) = 0 by decide)]
  rcases hy with h | h
  · subst h; rw [if_neg (by decide), if_pos rfl]
  · rw [if_pos h, if_neg (ny_ge h)]
    by_cases c2 : tr8 ar = 0
    · rw [if_pos c2, if_pos c2, if_neg (by decide)]
    · rw [if_neg c2, if_neg c2, if_pos rfl]
theorem pi_t {g pin tr8 : Nat → Int32} {ar : Nat} {y : Int32} (hy : y = -1 ∨ 0 ≤ y) : f_Mod_pin_3 g pin tr8 ar y = upd tr8 ar (f_Pmt_isPinRight_tries y (pin ar) (tr8 ar) g) := by
  unfold f_Mod_pin_3 f_Pmt_isPinRight_tries f_Term_hasPad f_Card_isBlocked f_Card_acceptsPin_tries
  by_cases c : g 3 = 0
  · rw [if_pos c, if_pos c, if_pos rfl, upd_self]
  rw [if_neg c, if_neg c, if_neg (show ¬ (1 : Int32) = 0 by decide)]
  rcases hy with h | h
  · subst h; rw [if_neg (by decide), if_pos rfl, upd_self]
  · rw [if_pos h, if_neg (ny_ge h)]
    by_cases c2 : tr8 ar = 0
    · rw [if_pos c2, if_pos c2, if_neg (by decide), upd_self]
    · rw [if_neg c2, if_neg c2, if_pos rfl]
      by_cases c3 : y = pin ar
      · rw [if_pos c3, if_pos c3]
      · rw [if_neg c3, if_neg c3]
theorem co_191 : ∀ b : Nat, b < 256 → (nI b &&& 191) = (nI b &&& (-65)) := by decide +kernel
theorem co_le : ∀ b : Nat, b < 256 → ((nI b &&& 191) ≤ 1 ↔ ((nI b &&& 191) = 0 ∨ (nI b &&& 191) = 1)) := by decide +kernel

theorem ho_li {M : Nat → Nat} {ar a : Nat} : (nI (256 * bt M ar a + bt M ar (a + 1))) = nI ((256 * (bt M ar a)) + (bt M ar (a + 1))) := rfl
theorem hs_end {fl x y : Int32} {M : Nat → Nat} {ar p : Nat} {acc : List ob_T} {g pin trs tr8 : Nat → Int32} {fl8 : Int32} {o : Nat × Nat × Nat} (ho : fo_s acc 142 = some o) (c : o.1 + o.2.1 ≤ p) (hp : p < 2 ^ 31) : Mod_holder_s fl M ar acc g pin trs x y (p, fl8, tr8) = .inl (fl8 ||| 4, tr8) := by
  unfold Mod_holder_s
  rw [ho]
  dsimp only
  rw [if_pos (show nI (sn_f (some o) + sn_n (some o)) ≤ nI p from nI_le c hp)]
theorem hs_skip {fl x y : Int32} {M : Nat → Nat} {ar p : Nat} {acc : List ob_T} {g pin trs tr8 : Nat → Int32} {fl8 : Int32} {o : Nat × Nat × Nat} (ho : fo_s acc 142 = some o) (c : p < o.1 + o.2.1) (hp : o.1 + o.2.1 < 2 ^ 31) (hc : f_Pmt_isCase x g (nI (bt M ar (p + 1))) (nI (256 * bt M ar o.1 + bt M ar (o.1 + 1))) = 0) : Mod_holder_s fl M ar acc g pin trs x y (p, fl8, tr8) = .inr (p + 2, fl8, tr8) := by
  unfold Mod_holder_s
  rw [ho]
  dsimp only
  rw [show sn_f (some o) = o.1 from rfl, show sn_n (some o) = o.2.1 from rfl]
  rw [if_neg (show ¬ nI (o.1 + o.2.1) ≤ nI p from nI_ge c hp), if_pos (ho_case.mpr hc)]
theorem hs_rule {fl x y : Int32} {M : Nat → Nat} {ar p : Nat} {acc : List ob_T} {g pin trs tr8 : Nat → Int32} {fl8 : Int32} {o : Nat × Nat × Nat} (hB : ∀ j, M j ≤ 255) (hy : y = -1 ∨ 0 ≤ y) (ho : fo_s acc 142 = some o) (c : p < o.1 + o.2.1) (hp : o.1 + o.2.1 < 2 ^ 31) (hc : ¬ f_Pmt_isCase x g (nI (bt M ar (p + 1))) (nI (256 * bt M ar o.1 + bt M ar (o.1 + 1))) = 0) : Mod_holder_s fl M ar acc g pin trs x y (p, fl8, tr8) = if f_Pmt_isMet y (pin ar) (tr8 ar) g (nI (bt M ar p) &&& -65) = 0 then (if nI (bt M ar p) &&& 64 = 0 then .inl (f_Pmt_isMet_flags y fl8 (tr8 ar) g (nI (bt M ar p) &&& -65) ||| 4, upd tr8 ar (f_Pmt_isMet_tries y (pin ar) (tr8 ar) g (nI (bt M ar p) &&& -65))) else .inr (p + 2, f_Pmt_isMet_flags y fl8 (tr8 ar) g (nI (bt M ar p) &&& -65), upd tr8 ar (f_Pmt_isMet_tries y (pin ar) (tr8 ar) g (nI (bt M ar p) &&& -65)))) else .inl (f_Pmt_isMet_flags y fl8 (tr8 ar) g (nI (bt M ar p) &&& -65), upd tr8 ar (f_Pmt_isMet_tries y (pin ar) (tr8 ar) g (nI (bt M ar p) &&& -65))) := by
  have hb : bt M ar p ≤ 255 := hB _
  unfold Mod_holder_s
  rw [ho]
  dsimp only
  rw [show sn_f (some o) = o.1 from rfl, show sn_n (some o) = o.2.1 from rfl]
  rw [if_neg (show ¬ nI (o.1 + o.2.1) ≤ nI p from nI_ge c hp), if_neg (fun q => hc (ho_case.mp q)), ← co_191 _ (by omega)]
  have hle := co_le (bt M ar p) (by omega)
  generalize hk : (nI (bt M ar p) &&& 191) = k at hle ⊢
  unfold f_Pmt_isMet f_Pmt_isMet_flags f_Pmt_isMet_tries
  by_cases c31 : k = 31
  · subst c31
    rw [if_pos rfl, if_neg (show ¬ (31 : Int32) = 0 by decide), if_neg (show ¬ (31 : Int32) = 1 by decide), if_pos rfl, if_neg (show ¬ (1 : Int32) = 0 by decide), if_neg (show ¬ (31 : Int32) = 0 by decide), if_neg (show ¬ (31 : Int32) = 1 by decide), if_pos rfl, if_neg (show ¬ (31 : Int32) = 0 by decide), if_neg (show ¬ (31 : Int32) = 1 by decide), upd_self]
  rw [if_neg c31]
  by_cases c1 : k = 1
  · subst c1
    simp only [if_pos, if_neg (show ¬ (1 : Int32) = 0 by decide), if_pos (show (1 : Int32) ≤ 1 by decide), pi_v hy, pi_f hy, pi_t hy]
  rw [if_neg c1]
  by_cases c0 : k = 0
  · subst c0
    simp only [if_pos, if_pos (show (0 : Int32) ≤ 1 by decide), upd_self]
  · have hn : ¬ k ≤ 1 := fun q => (hle.mp q).elim c0 c1
    simp only [if_neg hn, if_neg c0, if_neg c1, if_neg c31, if_pos, upd_self]
