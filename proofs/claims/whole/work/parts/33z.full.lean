/-! Calls whose world is all of the caller's. -/
theorem zput_rng : ∀ (w1 pre ws : va_W), ws.length = w1.length → zput (pre ++ ws) (List.range' pre.length w1.length) w1 = pre ++ w1 := by
  intro w1
  induction w1 with
  | nil =>
    intro pre ws h
    have : ws = [] := List.length_eq_zero_iff.mp h
    subst this
    rfl
  | cons q w1 ih =>
    intro pre ws h
    cases ws with
    | nil => cases h
    | cons a ws =>
      have e1 : (pre ++ a :: ws).set pre.length q = (pre ++ [q]) ++ ws := by
        rw [List.set_append_right _ _ (Nat.le_refl _), Nat.sub_self, List.append_assoc]
        rfl
      show zput ((pre ++ a :: ws).set pre.length q) (List.range' (pre.length + 1) w1.length) w1 = _
      rw [e1]
      have e2 := ih (pre ++ [q]) ws (Nat.succ.inj h)
      rw [List.length_append] at e2
      rw [show pre.length + 1 = pre.length + [q].length from rfl, e2, List.append_assoc]
      rfl
theorem zput_all {ws w1 : va_W} (h : ws.length = w1.length) : zput ws (List.range ws.length) w1 = w1 := by
  rw [h, List.range_eq_range']
  exact zput_rng w1 [] ws h
theorem zC_all (ws : va_W) : (List.range ws.length).map (fun i => ws[i]?) = ws.map some := by
  apply List.ext_getElem?
  intro k
  rw [List.getElem?_map, List.getElem?_map]
  by_cases h : k < ws.length
  · rw [List.getElem?_range h, List.getElem?_eq_getElem h]; exact congrArg some (List.getElem?_eq_getElem h)
  · rw [List.getElem?_eq_none (by rw [List.length_range]; omega), List.getElem?_eq_none (by omega)]; rfl
theorem znd28 : va_nd (List.range 28) = true := by decide +kernel
theorem znd18 : va_nd (List.range 18) = true := by decide +kernel
theorem znd_of {ws : va_W} {n : Nat} (h : ws.length = n) (h2 : va_nd (List.range n) = true) : va_nd (List.range ws.length) = true := by rw [h]; exact h2
section ZF
variable {l : Launch} {G : zG} {S S2 : zS} {wc : va_W} {post post2 : Option Value → va_W → Prop} {pc : Nat} {L : List (Option Value)} {st rest As : List Value} {ws : va_W}
theorem f_P {index n : Nat} {ad : Nat → Nat} {q0 : Nat} {v : Value} (hM : zSem l G S2 (.ref (ad q0) :: As) ws (zP v ws)) (hcode : zW S2 ∈ zT) (hlink : Cond.methodLink (zown S) index (zy S2) ∈ zT) (hin : Cond.instanceMethod (zy S2) ∈ zT) (hsel : Cond.selects (zy S2).cls (zy S2) (zy S2) ∈ zT) (hini : Cond.initialized (zy S2).cls ∈ zT) (hok : zOkY S S2 n) (hdg : decode (zcc S) pc = .ok (.invokevirtual index, 3)) (hnd : va_nd (List.range ws.length) = true) (hst : st = As.reverse ++ .ref (ad q0) :: rest) (hn : As.length = n) (hsum : (rest.map fun v => v.category).sum ≤ 8) {ci : Nat} {qc : vw_C} {fs : List Value} (hq0 : ws[q0]? = some (ad q0, .inr (ci, fs))) (hci : vwCl[ci]? = some qc) (hcl : qc.1 = (zy S2).cls)
    (kk : AV l G S wc post (pc + 3) L (v :: rest) ws) : AV l G S wc post pc L st ws :=
  cV_P hM hcode hlink hin hsel hini hok hdg (List.range ws.length) (zC_all ws) hnd hst hn hsum hq0 hci hcl kk
theorem f_V {index n : Nat} {ad : Nat → Nat} {q0 : Nat} {T : Type} {P : T → Prop} {v : T → Value} {g : T → va_W} (hM : zSem l G S2 (.ref (ad q0) :: As) ws (zV P v g)) (hcode : zW S2 ∈ zT) (hlink : Cond.methodLink (zown S) index (zy S2) ∈ zT) (hin : Cond.instanceMethod (zy S2) ∈ zT) (hsel : Cond.selects (zy S2).cls (zy S2) (zy S2) ∈ zT) (hini : Cond.initialized (zy S2).cls ∈ zT) (hok : zOkY S S2 n) (hdg : decode (zcc S) pc = .ok (.invokevirtual index, 3)) (hnd : va_nd (List.range ws.length) = true) (hst : st = As.reverse ++ .ref (ad q0) :: rest) (hn : As.length = n) (hsum : (rest.map fun v => v.category).sum ≤ 8) {ci : Nat} {qc : vw_C} {fs : List Value} (hq0 : ws[q0]? = some (ad q0, .inr (ci, fs))) (hci : vwCl[ci]? = some qc) (hcl : qc.1 = (zy S2).cls)
    (kk : ∀ u, P u → AV l G S wc post (pc + 3) L (v u :: rest) (g u)) : AV l G S wc post pc L st ws := by
  refine a_callV hM hcode hlink hin hsel hini hok hdg (List.range ws.length) (zC_all ws) hnd hst hn hsum hq0 hci hcl ?_
  rintro _ _ ⟨u_, hu_, rfl, rfl⟩ hf_
  have hlen : ws.length = (g u_).length := by
    have := congrArg List.length hf_
    simp only [List.length_map] at this
    omega
  rw [zput_all hlen]
  exact kk u_ hu_
theorem f_0 {index n : Nat} {ad : Nat → Nat} {q0 : Nat} {T : Type} {P : T → Prop} {g : T → va_W} (hM : zSem l G S2 (.ref (ad q0) :: As) ws (z0 P g)) (hcode : zW S2 ∈ zT) (hlink : Cond.methodLink (zown S) index (zy S2) ∈ zT) (hin : Cond.instanceMethod (zy S2) ∈ zT) (hsel : Cond.selects (zy S2).cls (zy S2) (zy S2) ∈ zT) (hini : Cond.initialized (zy S2).cls ∈ zT) (hok : zOkY S S2 n) (hdg : decode (zcc S) pc = .ok (.invokevirtual index, 3)) (hnd : va_nd (List.range ws.length) = true) (hst : st = As.reverse ++ .ref (ad q0) :: rest) (hn : As.length = n) (hsum : (rest.map fun v => v.category).sum ≤ 8) {ci : Nat} {qc : vw_C} {fs : List Value} (hq0 : ws[q0]? = some (ad q0, .inr (ci, fs))) (hci : vwCl[ci]? = some qc) (hcl : qc.1 = (zy S2).cls)
    (kk : ∀ u, P u → AV l G S wc post (pc + 3) L rest (g u)) : AV l G S wc post pc L st ws := by
  refine a_callV hM hcode hlink hin hsel hini hok hdg (List.range ws.length) (zC_all ws) hnd hst hn hsum hq0 hci hcl ?_
  rintro _ _ ⟨u_, hu_, rfl, rfl⟩ hf_
  have hlen : ws.length = (g u_).length := by
    have := congrArg List.length hf_
    simp only [List.length_map] at this
    omega
  rw [zput_all hlen]
  exact kk u_ hu_
end ZF
