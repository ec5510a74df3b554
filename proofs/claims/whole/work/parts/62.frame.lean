section FR
variable {l : Launch} {D : va_G} {cl : List vw_C} {tys : List (ClassId × FieldType)} {NS : List Cond} {y : MethodName} {W : List Cond} {rm : Room} {mc ms ut ed : Nat} {av : List Value} {ws wc wr : va_W}
theorem fr_P {H : Heap} (hp : ws.Perm (wc ++ wr)) (h : va_P D cl ws H) : va_P D cl wc H := (pm_P hp h).sub (List.range wc.length) (gw_fm (th_C wc wr))
theorem fr_D {A : Nat → Prop} (hp : ws.Perm (wc ++ wr)) (h : va_D A ws) : va_D A wc := (pm_D hp h).sub (List.range wc.length) (th_nC _) (th_C wc wr)
theorem fr_A {sz : Nat} (hp : ws.Perm (wc ++ wr)) : ∀ q, va_A wc sz q → va_A ws sz q := by
  intro q h
  rcases h with ⟨k, e, hk⟩ | h
  · have hm : (q, e) ∈ ws := hp.mem_iff.mpr (List.mem_append_left _ (List.mem_of_getElem? hk))
    obtain ⟨j, hj⟩ := List.getElem?_of_mem hm
    exact Or.inl ⟨j, e, hj⟩
  · exact Or.inr h
theorem fr_join {post : Option Value → va_W → Prop} {s t : State} {v : Option Value} {w : va_W} (hp : ws.Perm (wc ++ wr)) (hPw : va_P D cl ws s.heap) (hDw : va_D (fun _ => True) ws) (q2 : post v w) (q3 : va_P D cl w t.heap) (q4 : va_D (va_A wc s.heap.size) w) (q5 : va_F (va_A wc s.heap.size) s t) : (∃ w1, post v w1 ∧ wr ++ w = wr ++ w1) ∧ va_P D cl (wr ++ w) t.heap ∧ va_D (va_A ws s.heap.size) (wr ++ w) ∧ va_F (va_A ws s.heap.size) s t := by
  have hj := va_join (A0 := va_A ws s.heap.size) (pm_P hp hPw) (pm_D hp (hDw.self (sz := s.heap.size))) (List.range wc.length) ((List.range wr.length).map (wc.length + ·)) (th_C wc wr) (th_R wc wr) (th_nR _ _) (th_d _ _) q5.2 (fr_A hp) q3 q4
  exact ⟨⟨w, q2, rfl⟩, hj.1, hj.2, q5.1, fun q hq hn => q5.2 q hq (fun z => hn (fr_A hp q z))⟩
/-- a contract over some of the cells is one over all -/
theorem fr_M {post : Option Value → va_W → Prop} (hp : ws.Perm (wc ++ wr)) (h : ∀ sz, Met l y W rm (gw_P D cl tys NS av wc sz) (gw_Q D cl (va_A wc sz) post) mc ms (va_A wc sz)) (sz : Nat) : Met l y W rm (gw_PZ ut ed D cl tys NS av ws sz) (gw_Q D cl (va_A ws sz) (fun v w => ∃ w1, post v w1 ∧ w = wr ++ w1)) mc ms (va_A ws sz) := by
  intro p e ha hc hk s m args below hf happ hP hK
  obtain ⟨e1, hsz, hPw, hKw, hDw, hX⟩ := hP
  subst hsz
  obtain ⟨n, o, h1, h2, h3, ⟨⟨v, w, q1, q2, q3, q4⟩, q5⟩, L, q6, q7⟩ := h s.heap.size p e ha hc hk s m args below hf happ ⟨e1, rfl, fr_P hp hPw, hKw, fr_D hp hDw⟩ hK
  obtain ⟨g1, g2, g3, g4⟩ := fr_join hp hPw hDw q2 q3 q4 q5
  exact ⟨n, o, h1, h2, h3, ⟨⟨v, wr ++ w, q1, g1, g2, g3⟩, g4⟩, L, q6, fun q hq => fr_A hp _ (q7 q hq)⟩
theorem fr_Z {post : Option Value → va_W → Prop} (hp : ws.Perm (wc ++ wr)) (h : ∀ sz, Met l y W rm (gw_PZ ut ed D cl tys NS av wc sz) (gw_Q D cl (va_A wc sz) post) mc ms (va_A wc sz)) (sz : Nat) : Met l y W rm (gw_PZ ut ed D cl tys NS av ws sz) (gw_Q D cl (va_A ws sz) (fun v w => ∃ w1, post v w1 ∧ w = wr ++ w1)) mc ms (va_A ws sz) := by
  intro p e ha hc hk s m args below hf happ hP hK
  obtain ⟨e1, hsz, hPw, hKw, hDw, hX⟩ := hP
  subst hsz
  obtain ⟨n, o, h1, h2, h3, ⟨⟨v, w, q1, q2, q3, q4⟩, q5⟩, L, q6, q7⟩ := h s.heap.size p e ha hc hk s m args below hf happ ⟨e1, rfl, fr_P hp hPw, hKw, fr_D hp hDw, hX.narrow (fr_A hp)⟩ hK
  obtain ⟨g1, g2, g3, g4⟩ := fr_join hp hPw hDw q2 q3 q4 q5
  exact ⟨n, o, h1, h2, h3, ⟨⟨v, wr ++ w, q1, g1, g2, g3⟩, g4⟩, L, q6, fun q hq => fr_A hp _ (q7 q hq)⟩
theorem fr_R {post : Option Value → Prop} (hp : ws.Perm (wc ++ wr)) (h : Met l y W rm (gw_PR D cl tys NS av wc) (gw_QR post) mc ms (fun _ => False)) (sz : Nat) : Met l y W rm (gw_PZ ut ed D cl tys NS av ws sz) (gw_Q D cl (va_A ws sz) (fun v w => post v ∧ w = ws)) mc ms (va_A ws sz) := by
  intro p e ha hc hk s m args below hf happ hP hK
  obtain ⟨e1, hsz, hPw, hKw, hDw, hX⟩ := hP
  subst hsz
  obtain ⟨n, o, h1, h2, h3, ⟨v, q1, q2, q3⟩, L, q6, q7⟩ := h p e ha hc hk s m args below hf happ ⟨e1, fr_P hp hPw, hKw, fr_D hp hDw⟩ hK
  exact ⟨n, o, h1, h2, h3, ⟨⟨v, ws, q1, ⟨q2, rfl⟩, by rw [q3]; exact hPw, hDw.self⟩, by rw [q3]; exact Nat.le_refl _, fun q _ _ => by rw [q3]⟩, L, q6, fun q hq => (q7 q hq).elim⟩
end FR
