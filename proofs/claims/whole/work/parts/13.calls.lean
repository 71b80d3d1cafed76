/-! Calls by the three forms of a contract's end: zP (a value, the world as it was), zV (a value and a world, by some u), z0 (no value). -/
def zP (v : Value) (w0 : va_W) : Option Value → va_W → Prop := fun r w => r = some v ∧ w = w0
def zV {T : Type} (P : T → Prop) (v : T → Value) (g : T → va_W) : Option Value → va_W → Prop := fun r w => ∃ u, P u ∧ r = some (v u) ∧ w = g u
def z0 {T : Type} (P : T → Prop) (g : T → va_W) : Option Value → va_W → Prop := fun r w => ∃ u, P u ∧ r = none ∧ w = g u
theorem zput_same : ∀ (isC : List Nat) (wc2 ws : va_W), isC.map (fun i => ws[i]?) = wc2.map some → zput ws isC wc2 = ws := by
  intro isC
  induction isC with
  | nil => intro wc2 ws _; cases wc2 <;> rfl
  | cons i isC ih =>
    intro wc2 ws h
    cases wc2 with
    | nil => rfl
    | cons q wc2 =>
      simp only [List.map_cons, List.cons.injEq] at h
      have h1 : ws.set i q = ws := by
        apply List.ext_getElem?
        intro k
        by_cases hk : i = k
        · subst hk
          rw [List.getElem?_set_self', h.1]
          rfl
        · rw [List.getElem?_set_ne hk]
      show zput (ws.set i q) isC wc2 = ws
      rw [h1]
      exact ih wc2 ws h.2
section ZK
variable {l : Launch} {G : zG} {S S2 : zS} {wc wc2 : va_W} {post post2 : Option Value → va_W → Prop} {pc : Nat} {L : List (Option Value)} {st rest As : List Value} {ws : va_W}

theorem cS_P {index n : Nat} {v : Value} (hM : zSem l G S2 As wc2 (zP v wc2)) (hcode : zW S2 ∈ zT) (hlink : Cond.methodLink (zown S) index (zy S2) ∈ zT) (hstat : Cond.static (zy S2) ∈ zT) (hini : Cond.initialized (zy S2).cls ∈ zT) (hok : zOkY S S2 n) (hdg : decode (zcc S) pc = .ok (.invokestatic index, 3)) (isC : List Nat) (hC : isC.map (fun i => ws[i]?) = wc2.map some) (hnd : va_nd isC = true) (hst : st = As.reverse ++ rest) (hn : As.length = n) (hsum : (rest.map fun v => v.category).sum ≤ 8) (kk : AV l G S wc post (pc + 3) L (v :: rest) (ws)) : AV l G S wc post (pc) L (st) (ws) := by
  refine a_callS hM hcode hlink hstat hini hok hdg isC hC hnd hst hn hsum ?_
  rintro _ _ ⟨rfl, rfl⟩ -
  rw [zput_same isC _ ws hC]
  exact kk
theorem cS_V {index n : Nat} {T : Type} {P : T → Prop} {v : T → Value} {g : T → va_W} (hM : zSem l G S2 As wc2 (zV P v g)) (hcode : zW S2 ∈ zT) (hlink : Cond.methodLink (zown S) index (zy S2) ∈ zT) (hstat : Cond.static (zy S2) ∈ zT) (hini : Cond.initialized (zy S2).cls ∈ zT) (hok : zOkY S S2 n) (hdg : decode (zcc S) pc = .ok (.invokestatic index, 3)) (isC : List Nat) (hC : isC.map (fun i => ws[i]?) = wc2.map some) (hnd : va_nd isC = true) (hst : st = As.reverse ++ rest) (hn : As.length = n) (hsum : (rest.map fun v => v.category).sum ≤ 8) (h : T → va_W) (hw : ∀ u, zput ws isC (g u) = h u) (kk : ∀ u, P u → AV l G S wc post (pc + 3) L (v u :: rest) (h u)) : AV l G S wc post (pc) L (st) (ws) := by
  refine a_callS hM hcode hlink hstat hini hok hdg isC hC hnd hst hn hsum ?_
  rintro _ _ ⟨u_, hu_, rfl, rfl⟩ -
  rw [hw u_]
  exact kk u_ hu_
theorem cS_0 {index n : Nat} {T : Type} {P : T → Prop} {g : T → va_W} (hM : zSem l G S2 As wc2 (z0 P g)) (hcode : zW S2 ∈ zT) (hlink : Cond.methodLink (zown S) index (zy S2) ∈ zT) (hstat : Cond.static (zy S2) ∈ zT) (hini : Cond.initialized (zy S2).cls ∈ zT) (hok : zOkY S S2 n) (hdg : decode (zcc S) pc = .ok (.invokestatic index, 3)) (isC : List Nat) (hC : isC.map (fun i => ws[i]?) = wc2.map some) (hnd : va_nd isC = true) (hst : st = As.reverse ++ rest) (hn : As.length = n) (hsum : (rest.map fun v => v.category).sum ≤ 8) (h : T → va_W) (hw : ∀ u, zput ws isC (g u) = h u) (kk : ∀ u, P u → AV l G S wc post (pc + 3) L (rest) (h u)) : AV l G S wc post (pc) L (st) (ws) := by
  refine a_callS hM hcode hlink hstat hini hok hdg isC hC hnd hst hn hsum ?_
  rintro _ _ ⟨u_, hu_, rfl, rfl⟩ -
  rw [hw u_]
  exact kk u_ hu_
theorem cV_P {index n : Nat} {ad : Nat → Nat} {q0 : Nat} {v : Value} (hM : zSem l G S2 (.ref (ad q0) :: As) wc2 (zP v wc2)) (hcode : zW S2 ∈ zT) (hlink : Cond.methodLink (zown S) index (zy S2) ∈ zT) (hin : Cond.instanceMethod (zy S2) ∈ zT) (hsel : Cond.selects (zy S2).cls (zy S2) (zy S2) ∈ zT) (hini : Cond.initialized (zy S2).cls ∈ zT) (hok : zOkY S S2 n) (hdg : decode (zcc S) pc = .ok (.invokevirtual index, 3)) (isC : List Nat) (hC : isC.map (fun i => ws[i]?) = wc2.map some) (hnd : va_nd isC = true) (hst : st = As.reverse ++ .ref (ad q0) :: rest) (hn : As.length = n) (hsum : (rest.map fun v => v.category).sum ≤ 8) {ci : Nat} {qc : vw_C} {fs : List Value} (hq0 : ws[q0]? = some (ad q0, .inr (ci, fs))) (hci : vwCl[ci]? = some qc) (hcl : qc.1 = (zy S2).cls) (kk : AV l G S wc post (pc + 3) L (v :: rest) (ws)) : AV l G S wc post (pc) L (st) (ws) := by
  refine a_callV hM hcode hlink hin hsel hini hok hdg isC hC hnd hst hn hsum hq0 hci hcl ?_
  rintro _ _ ⟨rfl, rfl⟩ -
  rw [zput_same isC _ ws hC]
  exact kk
theorem cV_V {index n : Nat} {ad : Nat → Nat} {q0 : Nat} {T : Type} {P : T → Prop} {v : T → Value} {g : T → va_W} (hM : zSem l G S2 (.ref (ad q0) :: As) wc2 (zV P v g)) (hcode : zW S2 ∈ zT) (hlink : Cond.methodLink (zown S) index (zy S2) ∈ zT) (hin : Cond.instanceMethod (zy S2) ∈ zT) (hsel : Cond.selects (zy S2).cls (zy S2) (zy S2) ∈ zT) (hini : Cond.initialized (zy S2).cls ∈ zT) (hok : zOkY S S2 n) (hdg : decode (zcc S) pc = .ok (.invokevirtual index, 3)) (isC : List Nat) (hC : isC.map (fun i => ws[i]?) = wc2.map some) (hnd : va_nd isC = true) (hst : st = As.reverse ++ .ref (ad q0) :: rest) (hn : As.length = n) (hsum : (rest.map fun v => v.category).sum ≤ 8) {ci : Nat} {qc : vw_C} {fs : List Value} (hq0 : ws[q0]? = some (ad q0, .inr (ci, fs))) (hci : vwCl[ci]? = some qc) (hcl : qc.1 = (zy S2).cls) (h : T → va_W) (hw : ∀ u, zput ws isC (g u) = h u) (kk : ∀ u, P u → AV l G S wc post (pc + 3) L (v u :: rest) (h u)) : AV l G S wc post (pc) L (st) (ws) := by
  refine a_callV hM hcode hlink hin hsel hini hok hdg isC hC hnd hst hn hsum hq0 hci hcl ?_
  rintro _ _ ⟨u_, hu_, rfl, rfl⟩ -
  rw [hw u_]
  exact kk u_ hu_
theorem cV_0 {index n : Nat} {ad : Nat → Nat} {q0 : Nat} {T : Type} {P : T → Prop} {g : T → va_W} (hM : zSem l G S2 (.ref (ad q0) :: As) wc2 (z0 P g)) (hcode : zW S2 ∈ zT) (hlink : Cond.methodLink (zown S) index (zy S2) ∈ zT) (hin : Cond.instanceMethod (zy S2) ∈ zT) (hsel : Cond.selects (zy S2).cls (zy S2) (zy S2) ∈ zT) (hini : Cond.initialized (zy S2).cls ∈ zT) (hok : zOkY S S2 n) (hdg : decode (zcc S) pc = .ok (.invokevirtual index, 3)) (isC : List Nat) (hC : isC.map (fun i => ws[i]?) = wc2.map some) (hnd : va_nd isC = true) (hst : st = As.reverse ++ .ref (ad q0) :: rest) (hn : As.length = n) (hsum : (rest.map fun v => v.category).sum ≤ 8) {ci : Nat} {qc : vw_C} {fs : List Value} (hq0 : ws[q0]? = some (ad q0, .inr (ci, fs))) (hci : vwCl[ci]? = some qc) (hcl : qc.1 = (zy S2).cls) (h : T → va_W) (hw : ∀ u, zput ws isC (g u) = h u) (kk : ∀ u, P u → AV l G S wc post (pc + 3) L (rest) (h u)) : AV l G S wc post (pc) L (st) (ws) := by
  refine a_callV hM hcode hlink hin hsel hini hok hdg isC hC hnd hst hn hsum hq0 hci hcl ?_
  rintro _ _ ⟨u_, hu_, rfl, rfl⟩ -
  rw [hw u_]
  exact kk u_ hu_
theorem cSN_P {index n : Nat} {host : String} {v : Value} (hM : zSem l G S2 As wc2 (zP v wc2)) (hcode : zW S2 ∈ zT) (hlink : Cond.methodLinkNest (zown S) index (zy S2) host ∈ zNest) (hstat : Cond.static (zy S2) ∈ zT) (hini : Cond.initialized (zy S2).cls ∈ zT) (hok : zOkY S S2 n) (hdg : decode (zcc S) pc = .ok (.invokestatic index, 3)) (isC : List Nat) (hC : isC.map (fun i => ws[i]?) = wc2.map some) (hnd : va_nd isC = true) (hst : st = As.reverse ++ rest) (hn : As.length = n) (hsum : (rest.map fun v => v.category).sum ≤ 8) (kk : AV l G S wc post (pc + 3) L (v :: rest) (ws)) : AV l G S wc post (pc) L (st) (ws) := by
  refine a_callSN hM hcode hlink hstat hini hok hdg isC hC hnd hst hn hsum ?_
  rintro _ _ ⟨rfl, rfl⟩ -
  rw [zput_same isC _ ws hC]
  exact kk
theorem cSN_V {index n : Nat} {host : String} {T : Type} {P : T → Prop} {v : T → Value} {g : T → va_W} (hM : zSem l G S2 As wc2 (zV P v g)) (hcode : zW S2 ∈ zT) (hlink : Cond.methodLinkNest (zown S) index (zy S2) host ∈ zNest) (hstat : Cond.static (zy S2) ∈ zT) (hini : Cond.initialized (zy S2).cls ∈ zT) (hok : zOkY S S2 n) (hdg : decode (zcc S) pc = .ok (.invokestatic index, 3)) (isC : List Nat) (hC : isC.map (fun i => ws[i]?) = wc2.map some) (hnd : va_nd isC = true) (hst : st = As.reverse ++ rest) (hn : As.length = n) (hsum : (rest.map fun v => v.category).sum ≤ 8) (h : T → va_W) (hw : ∀ u, zput ws isC (g u) = h u) (kk : ∀ u, P u → AV l G S wc post (pc + 3) L (v u :: rest) (h u)) : AV l G S wc post (pc) L (st) (ws) := by
  refine a_callSN hM hcode hlink hstat hini hok hdg isC hC hnd hst hn hsum ?_
  rintro _ _ ⟨u_, hu_, rfl, rfl⟩ -
  rw [hw u_]
  exact kk u_ hu_
theorem cSN_0 {index n : Nat} {host : String} {T : Type} {P : T → Prop} {g : T → va_W} (hM : zSem l G S2 As wc2 (z0 P g)) (hcode : zW S2 ∈ zT) (hlink : Cond.methodLinkNest (zown S) index (zy S2) host ∈ zNest) (hstat : Cond.static (zy S2) ∈ zT) (hini : Cond.initialized (zy S2).cls ∈ zT) (hok : zOkY S S2 n) (hdg : decode (zcc S) pc = .ok (.invokestatic index, 3)) (isC : List Nat) (hC : isC.map (fun i => ws[i]?) = wc2.map some) (hnd : va_nd isC = true) (hst : st = As.reverse ++ rest) (hn : As.length = n) (hsum : (rest.map fun v => v.category).sum ≤ 8) (h : T → va_W) (hw : ∀ u, zput ws isC (g u) = h u) (kk : ∀ u, P u → AV l G S wc post (pc + 3) L (rest) (h u)) : AV l G S wc post (pc) L (st) (ws) := by
  refine a_callSN hM hcode hlink hstat hini hok hdg isC hC hnd hst hn hsum ?_
  rintro _ _ ⟨u_, hu_, rfl, rfl⟩ -
  rw [hw u_]
  exact kk u_ hu_
end ZK
theorem kn_X5_init : (zy sX5_init).cls ≠ "java/lang/invoke/MethodHandle" ∧ (zy sX5_init).cls ≠ "java/lang/invoke/VarHandle" ∧ (parseMethodDescriptor (zy sX5_init).desc).map (fun d => d.parameters.length) = some 0 := by decide +kernel
theorem kn_X2_init : (zy sX2_init).cls ≠ "java/lang/invoke/MethodHandle" ∧ (zy sX2_init).cls ≠ "java/lang/invoke/VarHandle" ∧ (parseMethodDescriptor (zy sX2_init).desc).map (fun d => d.parameters.length) = some 0 := by decide +kernel
theorem kn_X4_init : (zy sX4_init).cls ≠ "java/lang/invoke/MethodHandle" ∧ (zy sX4_init).cls ≠ "java/lang/invoke/VarHandle" ∧ (parseMethodDescriptor (zy sX4_init).desc).map (fun d => d.parameters.length) = some 0 := by decide +kernel
theorem kn_X0_init : (zy sX0_init).cls ≠ "java/lang/invoke/MethodHandle" ∧ (zy sX0_init).cls ≠ "java/lang/invoke/VarHandle" ∧ (parseMethodDescriptor (zy sX0_init).desc).map (fun d => d.parameters.length) = some 0 := by decide +kernel
theorem kn_X1_init : (zy sX1_init).cls ≠ "java/lang/invoke/MethodHandle" ∧ (zy sX1_init).cls ≠ "java/lang/invoke/VarHandle" ∧ (parseMethodDescriptor (zy sX1_init).desc).map (fun d => d.parameters.length) = some 0 := by decide +kernel
theorem kn_X3_init : (zy sX3_init).cls ≠ "java/lang/invoke/MethodHandle" ∧ (zy sX3_init).cls ≠ "java/lang/invoke/VarHandle" ∧ (parseMethodDescriptor (zy sX3_init).desc).map (fun d => d.parameters.length) = some 0 := by decide +kernel
theorem kn_X5_stage : (zy sX5_stage).cls ≠ "java/lang/invoke/MethodHandle" ∧ (zy sX5_stage).cls ≠ "java/lang/invoke/VarHandle" ∧ (parseMethodDescriptor (zy sX5_stage).desc).map (fun d => d.parameters.length) = some 2 := by decide +kernel
theorem kn_X5_outside : (zy sX5_outside).cls ≠ "java/lang/invoke/MethodHandle" ∧ (zy sX5_outside).cls ≠ "java/lang/invoke/VarHandle" ∧ (parseMethodDescriptor (zy sX5_outside).desc).map (fun d => d.parameters.length) = some 3 := by decide +kernel
theorem kn_X5_length : (zy sX5_length).cls ≠ "java/lang/invoke/MethodHandle" ∧ (zy sX5_length).cls ≠ "java/lang/invoke/VarHandle" ∧ (parseMethodDescriptor (zy sX5_length).desc).map (fun d => d.parameters.length) = some 1 := by decide +kernel
theorem kn_X5_fresh : (zy sX5_fresh).cls ≠ "java/lang/invoke/MethodHandle" ∧ (zy sX5_fresh).cls ≠ "java/lang/invoke/VarHandle" ∧ (parseMethodDescriptor (zy sX5_fresh).desc).map (fun d => d.parameters.length) = some 2 := by decide +kernel
theorem kn_X5_placeOf : (zy sX5_placeOf).cls ≠ "java/lang/invoke/MethodHandle" ∧ (zy sX5_placeOf).cls ≠ "java/lang/invoke/VarHandle" ∧ (parseMethodDescriptor (zy sX5_placeOf).desc).map (fun d => d.parameters.length) = some 1 := by decide +kernel
theorem kn_X4_renew : (zy sX4_renew).cls ≠ "java/lang/invoke/MethodHandle" ∧ (zy sX4_renew).cls ≠ "java/lang/invoke/VarHandle" ∧ (parseMethodDescriptor (zy sX4_renew).desc).map (fun d => d.parameters.length) = some 2 := by decide +kernel
theorem kn_X5_told : (zy sX5_told).cls ≠ "java/lang/invoke/MethodHandle" ∧ (zy sX5_told).cls ≠ "java/lang/invoke/VarHandle" ∧ (parseMethodDescriptor (zy sX5_told).desc).map (fun d => d.parameters.length) = some 2 := by decide +kernel
theorem kn_X4_passAt : (zy sX4_passAt).cls ≠ "java/lang/invoke/MethodHandle" ∧ (zy sX4_passAt).cls ≠ "java/lang/invoke/VarHandle" ∧ (parseMethodDescriptor (zy sX4_passAt).desc).map (fun d => d.parameters.length) = some 1 := by decide +kernel
theorem kn_X4_leakAt : (zy sX4_leakAt).cls ≠ "java/lang/invoke/MethodHandle" ∧ (zy sX4_leakAt).cls ≠ "java/lang/invoke/VarHandle" ∧ (parseMethodDescriptor (zy sX4_leakAt).desc).map (fun d => d.parameters.length) = some 1 := by decide +kernel
theorem kn_X5_isOf : (zy sX5_isOf).cls ≠ "java/lang/invoke/MethodHandle" ∧ (zy sX5_isOf).cls ≠ "java/lang/invoke/VarHandle" ∧ (parseMethodDescriptor (zy sX5_isOf).desc).map (fun d => d.parameters.length) = some 2 := by decide +kernel
theorem kn_X4_isUnder : (zy sX4_isUnder).cls ≠ "java/lang/invoke/MethodHandle" ∧ (zy sX4_isUnder).cls ≠ "java/lang/invoke/VarHandle" ∧ (parseMethodDescriptor (zy sX4_isUnder).desc).map (fun d => d.parameters.length) = some 2 := by decide +kernel
theorem kn_X5_feed : (zy sX5_feed).cls ≠ "java/lang/invoke/MethodHandle" ∧ (zy sX5_feed).cls ≠ "java/lang/invoke/VarHandle" ∧ (parseMethodDescriptor (zy sX5_feed).desc).map (fun d => d.parameters.length) = some 3 := by decide +kernel
theorem kn_X5_change : (zy sX5_change).cls ≠ "java/lang/invoke/MethodHandle" ∧ (zy sX5_change).cls ≠ "java/lang/invoke/VarHandle" ∧ (parseMethodDescriptor (zy sX5_change).desc).map (fun d => d.parameters.length) = some 2 := by decide +kernel
theorem kn_X4_exchange : (zy sX4_exchange).cls ≠ "java/lang/invoke/MethodHandle" ∧ (zy sX4_exchange).cls ≠ "java/lang/invoke/VarHandle" ∧ (parseMethodDescriptor (zy sX4_exchange).desc).map (fun d => d.parameters.length) = some 2 := by decide +kernel
theorem kn_X5_flow : (zy sX5_flow).cls ≠ "java/lang/invoke/MethodHandle" ∧ (zy sX5_flow).cls ≠ "java/lang/invoke/VarHandle" ∧ (parseMethodDescriptor (zy sX5_flow).desc).map (fun d => d.parameters.length) = some 2 := by decide +kernel
theorem kn_X2_holdsSkin : (zy sX2_holdsSkin).cls ≠ "java/lang/invoke/MethodHandle" ∧ (zy sX2_holdsSkin).cls ≠ "java/lang/invoke/VarHandle" ∧ (parseMethodDescriptor (zy sX2_holdsSkin).desc).map (fun d => d.parameters.length) = some 1 := by decide +kernel
theorem kn_X2_vesselsIn : (zy sX2_vesselsIn).cls ≠ "java/lang/invoke/MethodHandle" ∧ (zy sX2_vesselsIn).cls ≠ "java/lang/invoke/VarHandle" ∧ (parseMethodDescriptor (zy sX2_vesselsIn).desc).map (fun d => d.parameters.length) = some 1 := by decide +kernel
theorem kn_X5_letFlow : (zy sX5_letFlow).cls ≠ "java/lang/invoke/MethodHandle" ∧ (zy sX5_letFlow).cls ≠ "java/lang/invoke/VarHandle" ∧ (parseMethodDescriptor (zy sX5_letFlow).desc).map (fun d => d.parameters.length) = some 0 := by decide +kernel
theorem kn_X0_take : (zy sX0_take).cls ≠ "java/lang/invoke/MethodHandle" ∧ (zy sX0_take).cls ≠ "java/lang/invoke/VarHandle" ∧ (parseMethodDescriptor (zy sX0_take).desc).map (fun d => d.parameters.length) = some 1 := by decide +kernel
theorem kn_X0_run : (zy sX0_run).cls ≠ "java/lang/invoke/MethodHandle" ∧ (zy sX0_run).cls ≠ "java/lang/invoke/VarHandle" ∧ (parseMethodDescriptor (zy sX0_run).desc).map (fun d => d.parameters.length) = some 4 := by decide +kernel
theorem kn_X0_runStage : (zy sX0_runStage).cls ≠ "java/lang/invoke/MethodHandle" ∧ (zy sX0_runStage).cls ≠ "java/lang/invoke/VarHandle" ∧ (parseMethodDescriptor (zy sX0_runStage).desc).map (fun d => d.parameters.length) = some 3 := by decide +kernel
theorem kn_X0_saltOf : (zy sX0_saltOf).cls ≠ "java/lang/invoke/MethodHandle" ∧ (zy sX0_saltOf).cls ≠ "java/lang/invoke/VarHandle" ∧ (parseMethodDescriptor (zy sX0_saltOf).desc).map (fun d => d.parameters.length) = some 2 := by decide +kernel
theorem kn_X0_runVessel : (zy sX0_runVessel).cls ≠ "java/lang/invoke/MethodHandle" ∧ (zy sX0_runVessel).cls ≠ "java/lang/invoke/VarHandle" ∧ (parseMethodDescriptor (zy sX0_runVessel).desc).map (fun d => d.parameters.length) = some 4 := by decide +kernel
theorem kn_J9_max_f86c9 : (zy sJ9_max_f86c9).cls ≠ "java/lang/invoke/MethodHandle" ∧ (zy sJ9_max_f86c9).cls ≠ "java/lang/invoke/VarHandle" ∧ (parseMethodDescriptor (zy sJ9_max_f86c9).desc).map (fun d => d.parameters.length) = some 2 := by decide +kernel
theorem kn_J9_min_f86c9 : (zy sJ9_min_f86c9).cls ≠ "java/lang/invoke/MethodHandle" ∧ (zy sJ9_min_f86c9).cls ≠ "java/lang/invoke/VarHandle" ∧ (parseMethodDescriptor (zy sJ9_min_f86c9).desc).map (fun d => d.parameters.length) = some 2 := by decide +kernel
theorem kn_X5_sweet : (zy sX5_sweet).cls ≠ "java/lang/invoke/MethodHandle" ∧ (zy sX5_sweet).cls ≠ "java/lang/invoke/VarHandle" ∧ (parseMethodDescriptor (zy sX5_sweet).desc).map (fun d => d.parameters.length) = some 1 := by decide +kernel
theorem kn_X5_brine : (zy sX5_brine).cls ≠ "java/lang/invoke/MethodHandle" ∧ (zy sX5_brine).cls ≠ "java/lang/invoke/VarHandle" ∧ (parseMethodDescriptor (zy sX5_brine).desc).map (fun d => d.parameters.length) = some 1 := by decide +kernel
theorem kn_X5_power : (zy sX5_power).cls ≠ "java/lang/invoke/MethodHandle" ∧ (zy sX5_power).cls ≠ "java/lang/invoke/VarHandle" ∧ (parseMethodDescriptor (zy sX5_power).desc).map (fun d => d.parameters.length) = some 0 := by decide +kernel
theorem kn_X5_powerAt : (zy sX5_powerAt).cls ≠ "java/lang/invoke/MethodHandle" ∧ (zy sX5_powerAt).cls ≠ "java/lang/invoke/VarHandle" ∧ (parseMethodDescriptor (zy sX5_powerAt).desc).map (fun d => d.parameters.length) = some 1 := by decide +kernel
theorem kn_X5_failure : (zy sX5_failure).cls ≠ "java/lang/invoke/MethodHandle" ∧ (zy sX5_failure).cls ≠ "java/lang/invoke/VarHandle" ∧ (parseMethodDescriptor (zy sX5_failure).desc).map (fun d => d.parameters.length) = some 0 := by decide +kernel
theorem kn_X0_firstFailure : (zy sX0_firstFailure).cls ≠ "java/lang/invoke/MethodHandle" ∧ (zy sX0_firstFailure).cls ≠ "java/lang/invoke/VarHandle" ∧ (parseMethodDescriptor (zy sX0_firstFailure).desc).map (fun d => d.parameters.length) = some 3 := by decide +kernel
theorem kn_X5_numberOf : (zy sX5_numberOf).cls ≠ "java/lang/invoke/MethodHandle" ∧ (zy sX5_numberOf).cls ≠ "java/lang/invoke/VarHandle" ∧ (parseMethodDescriptor (zy sX5_numberOf).desc).map (fun d => d.parameters.length) = some 1 := by decide +kernel
theorem kn_X5_rule : (zy sX5_rule).cls ≠ "java/lang/invoke/MethodHandle" ∧ (zy sX5_rule).cls ≠ "java/lang/invoke/VarHandle" ∧ (parseMethodDescriptor (zy sX5_rule).desc).map (fun d => d.parameters.length) = some 2 := by decide +kernel
theorem kn_X5_days : (zy sX5_days).cls ≠ "java/lang/invoke/MethodHandle" ∧ (zy sX5_days).cls ≠ "java/lang/invoke/VarHandle" ∧ (parseMethodDescriptor (zy sX5_days).desc).map (fun d => d.parameters.length) = some 1 := by decide +kernel
theorem kn_X5_passDay : (zy sX5_passDay).cls ≠ "java/lang/invoke/MethodHandle" ∧ (zy sX5_passDay).cls ≠ "java/lang/invoke/VarHandle" ∧ (parseMethodDescriptor (zy sX5_passDay).desc).map (fun d => d.parameters.length) = some 0 := by decide +kernel
theorem kn_J9_max_7cf53 : (zy sJ9_max_7cf53).cls ≠ "java/lang/invoke/MethodHandle" ∧ (zy sJ9_max_7cf53).cls ≠ "java/lang/invoke/VarHandle" ∧ (parseMethodDescriptor (zy sJ9_max_7cf53).desc).map (fun d => d.parameters.length) = some 2 := by decide +kernel
theorem kn_X4_soil : (zy sX4_soil).cls ≠ "java/lang/invoke/MethodHandle" ∧ (zy sX4_soil).cls ≠ "java/lang/invoke/VarHandle" ∧ (parseMethodDescriptor (zy sX4_soil).desc).map (fun d => d.parameters.length) = some 2 := by decide +kernel
theorem kn_X4_wash : (zy sX4_wash).cls ≠ "java/lang/invoke/MethodHandle" ∧ (zy sX4_wash).cls ≠ "java/lang/invoke/VarHandle" ∧ (parseMethodDescriptor (zy sX4_wash).desc).map (fun d => d.parameters.length) = some 1 := by decide +kernel
theorem kn_X5_foul : (zy sX5_foul).cls ≠ "java/lang/invoke/MethodHandle" ∧ (zy sX5_foul).cls ≠ "java/lang/invoke/VarHandle" ∧ (parseMethodDescriptor (zy sX5_foul).desc).map (fun d => d.parameters.length) = some 1 := by decide +kernel
theorem kn_X5_swap : (zy sX5_swap).cls ≠ "java/lang/invoke/MethodHandle" ∧ (zy sX5_swap).cls ≠ "java/lang/invoke/VarHandle" ∧ (parseMethodDescriptor (zy sX5_swap).desc).map (fun d => d.parameters.length) = some 0 := by decide +kernel
theorem kn_X5_isPair : (zy sX5_isPair).cls ≠ "java/lang/invoke/MethodHandle" ∧ (zy sX5_isPair).cls ≠ "java/lang/invoke/VarHandle" ∧ (parseMethodDescriptor (zy sX5_isPair).desc).map (fun d => d.parameters.length) = some 2 := by decide +kernel
theorem kn_X0_areAlike : (zy sX0_areAlike).cls ≠ "java/lang/invoke/MethodHandle" ∧ (zy sX0_areAlike).cls ≠ "java/lang/invoke/VarHandle" ∧ (parseMethodDescriptor (zy sX0_areAlike).desc).map (fun d => d.parameters.length) = some 2 := by decide +kernel
theorem kn_X5_sweetWaterIfChanged : (zy sX5_sweetWaterIfChanged).cls ≠ "java/lang/invoke/MethodHandle" ∧ (zy sX5_sweetWaterIfChanged).cls ≠ "java/lang/invoke/VarHandle" ∧ (parseMethodDescriptor (zy sX5_sweetWaterIfChanged).desc).map (fun d => d.parameters.length) = some 2 := by decide +kernel
theorem kn_X0_exchange : (zy sX0_exchange).cls ≠ "java/lang/invoke/MethodHandle" ∧ (zy sX0_exchange).cls ≠ "java/lang/invoke/VarHandle" ∧ (parseMethodDescriptor (zy sX0_exchange).desc).map (fun d => d.parameters.length) = some 2 := by decide +kernel
theorem kn_X5_array : (zy sX5_array).cls ≠ "java/lang/invoke/MethodHandle" ∧ (zy sX5_array).cls ≠ "java/lang/invoke/VarHandle" ∧ (parseMethodDescriptor (zy sX5_array).desc).map (fun d => d.parameters.length) = some 2 := by decide +kernel
theorem kn_X2_become : (zy sX2_become).cls ≠ "java/lang/invoke/MethodHandle" ∧ (zy sX2_become).cls ≠ "java/lang/invoke/VarHandle" ∧ (parseMethodDescriptor (zy sX2_become).desc).map (fun d => d.parameters.length) = some 1 := by decide +kernel
theorem kn_X5_suits : (zy sX5_suits).cls ≠ "java/lang/invoke/MethodHandle" ∧ (zy sX5_suits).cls ≠ "java/lang/invoke/VarHandle" ∧ (parseMethodDescriptor (zy sX5_suits).desc).map (fun d => d.parameters.length) = some 2 := by decide +kernel
theorem kn_X2_digits : (zy sX2_digits).cls ≠ "java/lang/invoke/MethodHandle" ∧ (zy sX2_digits).cls ≠ "java/lang/invoke/VarHandle" ∧ (parseMethodDescriptor (zy sX2_digits).desc).map (fun d => d.parameters.length) = some 0 := by decide +kernel
theorem kn_X5_hour : (zy sX5_hour).cls ≠ "java/lang/invoke/MethodHandle" ∧ (zy sX5_hour).cls ≠ "java/lang/invoke/VarHandle" ∧ (parseMethodDescriptor (zy sX5_hour).desc).map (fun d => d.parameters.length) = some 3 := by decide +kernel
theorem kn_X1_mostOf : (zy sX1_mostOf).cls ≠ "java/lang/invoke/MethodHandle" ∧ (zy sX1_mostOf).cls ≠ "java/lang/invoke/VarHandle" ∧ (parseMethodDescriptor (zy sX1_mostOf).desc).map (fun d => d.parameters.length) = some 1 := by decide +kernel
theorem kn_X1_rowOf : (zy sX1_rowOf).cls ≠ "java/lang/invoke/MethodHandle" ∧ (zy sX1_rowOf).cls ≠ "java/lang/invoke/VarHandle" ∧ (parseMethodDescriptor (zy sX1_rowOf).desc).map (fun d => d.parameters.length) = some 1 := by decide +kernel
theorem kn_X5_lay : (zy sX5_lay).cls ≠ "java/lang/invoke/MethodHandle" ∧ (zy sX5_lay).cls ≠ "java/lang/invoke/VarHandle" ∧ (parseMethodDescriptor (zy sX5_lay).desc).map (fun d => d.parameters.length) = some 2 := by decide +kernel
theorem kn_X3_isMissing : (zy sX3_isMissing).cls ≠ "java/lang/invoke/MethodHandle" ∧ (zy sX3_isMissing).cls ≠ "java/lang/invoke/VarHandle" ∧ (parseMethodDescriptor (zy sX3_isMissing).desc).map (fun d => d.parameters.length) = some 0 := by decide +kernel
theorem kn_X3_has : (zy sX3_has).cls ≠ "java/lang/invoke/MethodHandle" ∧ (zy sX3_has).cls ≠ "java/lang/invoke/VarHandle" ∧ (parseMethodDescriptor (zy sX3_has).desc).map (fun d => d.parameters.length) = some 1 := by decide +kernel
theorem kn_J9_min_7cf53 : (zy sJ9_min_7cf53).cls ≠ "java/lang/invoke/MethodHandle" ∧ (zy sJ9_min_7cf53).cls ≠ "java/lang/invoke/VarHandle" ∧ (parseMethodDescriptor (zy sJ9_min_7cf53).desc).map (fun d => d.parameters.length) = some 2 := by decide +kernel
theorem kn_X5_plan : (zy sX5_plan).cls ≠ "java/lang/invoke/MethodHandle" ∧ (zy sX5_plan).cls ≠ "java/lang/invoke/VarHandle" ∧ (parseMethodDescriptor (zy sX5_plan).desc).map (fun d => d.parameters.length) = some 1 := by decide +kernel
theorem kn_X1_best : (zy sX1_best).cls ≠ "java/lang/invoke/MethodHandle" ∧ (zy sX1_best).cls ≠ "java/lang/invoke/VarHandle" ∧ (parseMethodDescriptor (zy sX1_best).desc).map (fun d => d.parameters.length) = some 3 := by decide +kernel
theorem kn_J7_fill_53178 : (zy sJ7_fill_53178).cls ≠ "java/lang/invoke/MethodHandle" ∧ (zy sJ7_fill_53178).cls ≠ "java/lang/invoke/VarHandle" ∧ (parseMethodDescriptor (zy sJ7_fill_53178).desc).map (fun d => d.parameters.length) = some 2 := by decide +kernel
theorem kn_X1_behind : (zy sX1_behind).cls ≠ "java/lang/invoke/MethodHandle" ∧ (zy sX1_behind).cls ≠ "java/lang/invoke/VarHandle" ∧ (parseMethodDescriptor (zy sX1_behind).desc).map (fun d => d.parameters.length) = some 3 := by decide +kernel
theorem kn_X1_laterAt : (zy sX1_laterAt).cls ≠ "java/lang/invoke/MethodHandle" ∧ (zy sX1_laterAt).cls ≠ "java/lang/invoke/VarHandle" ∧ (parseMethodDescriptor (zy sX1_laterAt).desc).map (fun d => d.parameters.length) = some 1 := by decide +kernel
theorem kn_X1_isPlan : (zy sX1_isPlan).cls ≠ "java/lang/invoke/MethodHandle" ∧ (zy sX1_isPlan).cls ≠ "java/lang/invoke/VarHandle" ∧ (parseMethodDescriptor (zy sX1_isPlan).desc).map (fun d => d.parameters.length) = some 1 := by decide +kernel
theorem kn_X1_costOf : (zy sX1_costOf).cls ≠ "java/lang/invoke/MethodHandle" ∧ (zy sX1_costOf).cls ≠ "java/lang/invoke/VarHandle" ∧ (parseMethodDescriptor (zy sX1_costOf).desc).map (fun d => d.parameters.length) = some 1 := by decide +kernel
theorem kn_X5_runs : (zy sX5_runs).cls ≠ "java/lang/invoke/MethodHandle" ∧ (zy sX5_runs).cls ≠ "java/lang/invoke/VarHandle" ∧ (parseMethodDescriptor (zy sX5_runs).desc).map (fun d => d.parameters.length) = some 1 := by decide +kernel
theorem kn_X1_bitsOf : (zy sX1_bitsOf).cls ≠ "java/lang/invoke/MethodHandle" ∧ (zy sX1_bitsOf).cls ≠ "java/lang/invoke/VarHandle" ∧ (parseMethodDescriptor (zy sX1_bitsOf).desc).map (fun d => d.parameters.length) = some 1 := by decide +kernel
theorem kn_X1_runsAt : (zy sX1_runsAt).cls ≠ "java/lang/invoke/MethodHandle" ∧ (zy sX1_runsAt).cls ≠ "java/lang/invoke/VarHandle" ∧ (parseMethodDescriptor (zy sX1_runsAt).desc).map (fun d => d.parameters.length) = some 2 := by decide +kernel
theorem kn_X5_tank : (zy sX5_tank).cls ≠ "java/lang/invoke/MethodHandle" ∧ (zy sX5_tank).cls ≠ "java/lang/invoke/VarHandle" ∧ (parseMethodDescriptor (zy sX5_tank).desc).map (fun d => d.parameters.length) = some 2 := by decide +kernel
theorem kn_X5_joint : (zy sX5_joint).cls ≠ "java/lang/invoke/MethodHandle" ∧ (zy sX5_joint).cls ≠ "java/lang/invoke/VarHandle" ∧ (parseMethodDescriptor (zy sX5_joint).desc).map (fun d => d.parameters.length) = some 3 := by decide +kernel
theorem kn_X5_sheet : (zy sX5_sheet).cls ≠ "java/lang/invoke/MethodHandle" ∧ (zy sX5_sheet).cls ≠ "java/lang/invoke/VarHandle" ∧ (parseMethodDescriptor (zy sX5_sheet).desc).map (fun d => d.parameters.length) = some 2 := by decide +kernel
theorem kn_X3_begin : (zy sX3_begin).cls ≠ "java/lang/invoke/MethodHandle" ∧ (zy sX3_begin).cls ≠ "java/lang/invoke/VarHandle" ∧ (parseMethodDescriptor (zy sX3_begin).desc).map (fun d => d.parameters.length) = some 1 := by decide +kernel
theorem kn_J7_fill_fb410 : (zy sJ7_fill_fb410).cls ≠ "java/lang/invoke/MethodHandle" ∧ (zy sJ7_fill_fb410).cls ≠ "java/lang/invoke/VarHandle" ∧ (parseMethodDescriptor (zy sJ7_fill_fb410).desc).map (fun d => d.parameters.length) = some 2 := by decide +kernel
theorem kn_X5_mark : (zy sX5_mark).cls ≠ "java/lang/invoke/MethodHandle" ∧ (zy sX5_mark).cls ≠ "java/lang/invoke/VarHandle" ∧ (parseMethodDescriptor (zy sX5_mark).desc).map (fun d => d.parameters.length) = some 3 := by decide +kernel
theorem kn_X5_copy : (zy sX5_copy).cls ≠ "java/lang/invoke/MethodHandle" ∧ (zy sX5_copy).cls ≠ "java/lang/invoke/VarHandle" ∧ (parseMethodDescriptor (zy sX5_copy).desc).map (fun d => d.parameters.length) = some 5 := by decide +kernel
theorem kn_X3_hasRun : (zy sX3_hasRun).cls ≠ "java/lang/invoke/MethodHandle" ∧ (zy sX3_hasRun).cls ≠ "java/lang/invoke/VarHandle" ∧ (parseMethodDescriptor (zy sX3_hasRun).desc).map (fun d => d.parameters.length) = some 2 := by decide +kernel
theorem kn_X5_count : (zy sX5_count).cls ≠ "java/lang/invoke/MethodHandle" ∧ (zy sX5_count).cls ≠ "java/lang/invoke/VarHandle" ∧ (parseMethodDescriptor (zy sX5_count).desc).map (fun d => d.parameters.length) = some 1 := by decide +kernel
theorem kn_X2_standing : (zy sX2_standing).cls ≠ "java/lang/invoke/MethodHandle" ∧ (zy sX2_standing).cls ≠ "java/lang/invoke/VarHandle" ∧ (parseMethodDescriptor (zy sX2_standing).desc).map (fun d => d.parameters.length) = some 0 := by decide +kernel
theorem kn_X6_init : (zy sX6_init).cls ≠ "java/lang/invoke/MethodHandle" ∧ (zy sX6_init).cls ≠ "java/lang/invoke/VarHandle" ∧ (parseMethodDescriptor (zy sX6_init).desc).map (fun d => d.parameters.length) = some 0 := by decide +kernel
theorem kn_X6_stage : (zy sX6_stage).cls ≠ "java/lang/invoke/MethodHandle" ∧ (zy sX6_stage).cls ≠ "java/lang/invoke/VarHandle" ∧ (parseMethodDescriptor (zy sX6_stage).desc).map (fun d => d.parameters.length) = some 2 := by decide +kernel
theorem kn_X6_isIn : (zy sX6_isIn).cls ≠ "java/lang/invoke/MethodHandle" ∧ (zy sX6_isIn).cls ≠ "java/lang/invoke/VarHandle" ∧ (parseMethodDescriptor (zy sX6_isIn).desc).map (fun d => d.parameters.length) = some 3 := by decide +kernel
theorem kn_X6_length : (zy sX6_length).cls ≠ "java/lang/invoke/MethodHandle" ∧ (zy sX6_length).cls ≠ "java/lang/invoke/VarHandle" ∧ (parseMethodDescriptor (zy sX6_length).desc).map (fun d => d.parameters.length) = some 1 := by decide +kernel
theorem kn_X6_fresh : (zy sX6_fresh).cls ≠ "java/lang/invoke/MethodHandle" ∧ (zy sX6_fresh).cls ≠ "java/lang/invoke/VarHandle" ∧ (parseMethodDescriptor (zy sX6_fresh).desc).map (fun d => d.parameters.length) = some 2 := by decide +kernel
theorem kn_X6_placeOf : (zy sX6_placeOf).cls ≠ "java/lang/invoke/MethodHandle" ∧ (zy sX6_placeOf).cls ≠ "java/lang/invoke/VarHandle" ∧ (parseMethodDescriptor (zy sX6_placeOf).desc).map (fun d => d.parameters.length) = some 1 := by decide +kernel
theorem kn_X6_told : (zy sX6_told).cls ≠ "java/lang/invoke/MethodHandle" ∧ (zy sX6_told).cls ≠ "java/lang/invoke/VarHandle" ∧ (parseMethodDescriptor (zy sX6_told).desc).map (fun d => d.parameters.length) = some 2 := by decide +kernel
theorem kn_X6_pass : (zy sX6_pass).cls ≠ "java/lang/invoke/MethodHandle" ∧ (zy sX6_pass).cls ≠ "java/lang/invoke/VarHandle" ∧ (parseMethodDescriptor (zy sX6_pass).desc).map (fun d => d.parameters.length) = some 1 := by decide +kernel
theorem kn_X6_leak : (zy sX6_leak).cls ≠ "java/lang/invoke/MethodHandle" ∧ (zy sX6_leak).cls ≠ "java/lang/invoke/VarHandle" ∧ (parseMethodDescriptor (zy sX6_leak).desc).map (fun d => d.parameters.length) = some 1 := by decide +kernel
theorem kn_X6_isOf : (zy sX6_isOf).cls ≠ "java/lang/invoke/MethodHandle" ∧ (zy sX6_isOf).cls ≠ "java/lang/invoke/VarHandle" ∧ (parseMethodDescriptor (zy sX6_isOf).desc).map (fun d => d.parameters.length) = some 2 := by decide +kernel
theorem kn_X6_feed : (zy sX6_feed).cls ≠ "java/lang/invoke/MethodHandle" ∧ (zy sX6_feed).cls ≠ "java/lang/invoke/VarHandle" ∧ (parseMethodDescriptor (zy sX6_feed).desc).map (fun d => d.parameters.length) = some 3 := by decide +kernel
theorem kn_X6_change : (zy sX6_change).cls ≠ "java/lang/invoke/MethodHandle" ∧ (zy sX6_change).cls ≠ "java/lang/invoke/VarHandle" ∧ (parseMethodDescriptor (zy sX6_change).desc).map (fun d => d.parameters.length) = some 2 := by decide +kernel
theorem kn_X6_exchange : (zy sX6_exchange).cls ≠ "java/lang/invoke/MethodHandle" ∧ (zy sX6_exchange).cls ≠ "java/lang/invoke/VarHandle" ∧ (parseMethodDescriptor (zy sX6_exchange).desc).map (fun d => d.parameters.length) = some 2 := by decide +kernel
theorem kn_X6_flow : (zy sX6_flow).cls ≠ "java/lang/invoke/MethodHandle" ∧ (zy sX6_flow).cls ≠ "java/lang/invoke/VarHandle" ∧ (parseMethodDescriptor (zy sX6_flow).desc).map (fun d => d.parameters.length) = some 2 := by decide +kernel
theorem kn_X6_isThere : (zy sX6_isThere).cls ≠ "java/lang/invoke/MethodHandle" ∧ (zy sX6_isThere).cls ≠ "java/lang/invoke/VarHandle" ∧ (parseMethodDescriptor (zy sX6_isThere).desc).map (fun d => d.parameters.length) = some 1 := by decide +kernel
theorem kn_X6_isStage : (zy sX6_isStage).cls ≠ "java/lang/invoke/MethodHandle" ∧ (zy sX6_isStage).cls ≠ "java/lang/invoke/VarHandle" ∧ (parseMethodDescriptor (zy sX6_isStage).desc).map (fun d => d.parameters.length) = some 1 := by decide +kernel
theorem kn_X6_flowNow : (zy sX6_flowNow).cls ≠ "java/lang/invoke/MethodHandle" ∧ (zy sX6_flowNow).cls ≠ "java/lang/invoke/VarHandle" ∧ (parseMethodDescriptor (zy sX6_flowNow).desc).map (fun d => d.parameters.length) = some 0 := by decide +kernel
theorem kn_X6_flowAt : (zy sX6_flowAt).cls ≠ "java/lang/invoke/MethodHandle" ∧ (zy sX6_flowAt).cls ≠ "java/lang/invoke/VarHandle" ∧ (parseMethodDescriptor (zy sX6_flowAt).desc).map (fun d => d.parameters.length) = some 1 := by decide +kernel
theorem kn_X6_saltOf : (zy sX6_saltOf).cls ≠ "java/lang/invoke/MethodHandle" ∧ (zy sX6_saltOf).cls ≠ "java/lang/invoke/VarHandle" ∧ (parseMethodDescriptor (zy sX6_saltOf).desc).map (fun d => d.parameters.length) = some 2 := by decide +kernel
theorem kn_X6_vessel : (zy sX6_vessel).cls ≠ "java/lang/invoke/MethodHandle" ∧ (zy sX6_vessel).cls ≠ "java/lang/invoke/VarHandle" ∧ (parseMethodDescriptor (zy sX6_vessel).desc).map (fun d => d.parameters.length) = some 5 := by decide +kernel
theorem kn_X6_skin : (zy sX6_skin).cls ≠ "java/lang/invoke/MethodHandle" ∧ (zy sX6_skin).cls ≠ "java/lang/invoke/VarHandle" ∧ (parseMethodDescriptor (zy sX6_skin).desc).map (fun d => d.parameters.length) = some 4 := by decide +kernel
theorem kn_X6_sweet : (zy sX6_sweet).cls ≠ "java/lang/invoke/MethodHandle" ∧ (zy sX6_sweet).cls ≠ "java/lang/invoke/VarHandle" ∧ (parseMethodDescriptor (zy sX6_sweet).desc).map (fun d => d.parameters.length) = some 1 := by decide +kernel
theorem kn_X6_brine : (zy sX6_brine).cls ≠ "java/lang/invoke/MethodHandle" ∧ (zy sX6_brine).cls ≠ "java/lang/invoke/VarHandle" ∧ (parseMethodDescriptor (zy sX6_brine).desc).map (fun d => d.parameters.length) = some 1 := by decide +kernel
theorem kn_X6_power : (zy sX6_power).cls ≠ "java/lang/invoke/MethodHandle" ∧ (zy sX6_power).cls ≠ "java/lang/invoke/VarHandle" ∧ (parseMethodDescriptor (zy sX6_power).desc).map (fun d => d.parameters.length) = some 0 := by decide +kernel
theorem kn_X6_powerAt : (zy sX6_powerAt).cls ≠ "java/lang/invoke/MethodHandle" ∧ (zy sX6_powerAt).cls ≠ "java/lang/invoke/VarHandle" ∧ (parseMethodDescriptor (zy sX6_powerAt).desc).map (fun d => d.parameters.length) = some 1 := by decide +kernel
theorem kn_X6_failure : (zy sX6_failure).cls ≠ "java/lang/invoke/MethodHandle" ∧ (zy sX6_failure).cls ≠ "java/lang/invoke/VarHandle" ∧ (parseMethodDescriptor (zy sX6_failure).desc).map (fun d => d.parameters.length) = some 0 := by decide +kernel
theorem kn_X6_failing : (zy sX6_failing).cls ≠ "java/lang/invoke/MethodHandle" ∧ (zy sX6_failing).cls ≠ "java/lang/invoke/VarHandle" ∧ (parseMethodDescriptor (zy sX6_failing).desc).map (fun d => d.parameters.length) = some 0 := by decide +kernel
theorem kn_X6_skinAt : (zy sX6_skinAt).cls ≠ "java/lang/invoke/MethodHandle" ∧ (zy sX6_skinAt).cls ≠ "java/lang/invoke/VarHandle" ∧ (parseMethodDescriptor (zy sX6_skinAt).desc).map (fun d => d.parameters.length) = some 1 := by decide +kernel
theorem kn_X6_rule : (zy sX6_rule).cls ≠ "java/lang/invoke/MethodHandle" ∧ (zy sX6_rule).cls ≠ "java/lang/invoke/VarHandle" ∧ (parseMethodDescriptor (zy sX6_rule).desc).map (fun d => d.parameters.length) = some 2 := by decide +kernel
theorem kn_X6_days : (zy sX6_days).cls ≠ "java/lang/invoke/MethodHandle" ∧ (zy sX6_days).cls ≠ "java/lang/invoke/VarHandle" ∧ (parseMethodDescriptor (zy sX6_days).desc).map (fun d => d.parameters.length) = some 1 := by decide +kernel
theorem kn_X6_day : (zy sX6_day).cls ≠ "java/lang/invoke/MethodHandle" ∧ (zy sX6_day).cls ≠ "java/lang/invoke/VarHandle" ∧ (parseMethodDescriptor (zy sX6_day).desc).map (fun d => d.parameters.length) = some 0 := by decide +kernel
theorem kn_X6_foul : (zy sX6_foul).cls ≠ "java/lang/invoke/MethodHandle" ∧ (zy sX6_foul).cls ≠ "java/lang/invoke/VarHandle" ∧ (parseMethodDescriptor (zy sX6_foul).desc).map (fun d => d.parameters.length) = some 1 := by decide +kernel
theorem kn_X6_swap : (zy sX6_swap).cls ≠ "java/lang/invoke/MethodHandle" ∧ (zy sX6_swap).cls ≠ "java/lang/invoke/VarHandle" ∧ (parseMethodDescriptor (zy sX6_swap).desc).map (fun d => d.parameters.length) = some 0 := by decide +kernel
theorem kn_X6_array : (zy sX6_array).cls ≠ "java/lang/invoke/MethodHandle" ∧ (zy sX6_array).cls ≠ "java/lang/invoke/VarHandle" ∧ (parseMethodDescriptor (zy sX6_array).desc).map (fun d => d.parameters.length) = some 2 := by decide +kernel
theorem kn_X6_hour : (zy sX6_hour).cls ≠ "java/lang/invoke/MethodHandle" ∧ (zy sX6_hour).cls ≠ "java/lang/invoke/VarHandle" ∧ (parseMethodDescriptor (zy sX6_hour).desc).map (fun d => d.parameters.length) = some 3 := by decide +kernel
theorem kn_X6_lay : (zy sX6_lay).cls ≠ "java/lang/invoke/MethodHandle" ∧ (zy sX6_lay).cls ≠ "java/lang/invoke/VarHandle" ∧ (parseMethodDescriptor (zy sX6_lay).desc).map (fun d => d.parameters.length) = some 2 := by decide +kernel
theorem kn_X6_isSheet : (zy sX6_isSheet).cls ≠ "java/lang/invoke/MethodHandle" ∧ (zy sX6_isSheet).cls ≠ "java/lang/invoke/VarHandle" ∧ (parseMethodDescriptor (zy sX6_isSheet).desc).map (fun d => d.parameters.length) = some 1 := by decide +kernel
theorem kn_X6_plan : (zy sX6_plan).cls ≠ "java/lang/invoke/MethodHandle" ∧ (zy sX6_plan).cls ≠ "java/lang/invoke/VarHandle" ∧ (parseMethodDescriptor (zy sX6_plan).desc).map (fun d => d.parameters.length) = some 1 := by decide +kernel
theorem kn_X6_isContent : (zy sX6_isContent).cls ≠ "java/lang/invoke/MethodHandle" ∧ (zy sX6_isContent).cls ≠ "java/lang/invoke/VarHandle" ∧ (parseMethodDescriptor (zy sX6_isContent).desc).map (fun d => d.parameters.length) = some 1 := by decide +kernel
theorem kn_X6_findPlan : (zy sX6_findPlan).cls ≠ "java/lang/invoke/MethodHandle" ∧ (zy sX6_findPlan).cls ≠ "java/lang/invoke/VarHandle" ∧ (parseMethodDescriptor (zy sX6_findPlan).desc).map (fun d => d.parameters.length) = some 0 := by decide +kernel
theorem kn_X6_costFrom : (zy sX6_costFrom).cls ≠ "java/lang/invoke/MethodHandle" ∧ (zy sX6_costFrom).cls ≠ "java/lang/invoke/VarHandle" ∧ (parseMethodDescriptor (zy sX6_costFrom).desc).map (fun d => d.parameters.length) = some 3 := by decide +kernel
theorem kn_X6_behind : (zy sX6_behind).cls ≠ "java/lang/invoke/MethodHandle" ∧ (zy sX6_behind).cls ≠ "java/lang/invoke/VarHandle" ∧ (parseMethodDescriptor (zy sX6_behind).desc).map (fun d => d.parameters.length) = some 3 := by decide +kernel
theorem kn_X6_runs : (zy sX6_runs).cls ≠ "java/lang/invoke/MethodHandle" ∧ (zy sX6_runs).cls ≠ "java/lang/invoke/VarHandle" ∧ (parseMethodDescriptor (zy sX6_runs).desc).map (fun d => d.parameters.length) = some 1 := by decide +kernel
theorem kn_X6_go : (zy sX6_go).cls ≠ "java/lang/invoke/MethodHandle" ∧ (zy sX6_go).cls ≠ "java/lang/invoke/VarHandle" ∧ (parseMethodDescriptor (zy sX6_go).desc).map (fun d => d.parameters.length) = some 1 := by decide +kernel
theorem kn_X6_tank : (zy sX6_tank).cls ≠ "java/lang/invoke/MethodHandle" ∧ (zy sX6_tank).cls ≠ "java/lang/invoke/VarHandle" ∧ (parseMethodDescriptor (zy sX6_tank).desc).map (fun d => d.parameters.length) = some 2 := by decide +kernel
theorem kn_X6_joint : (zy sX6_joint).cls ≠ "java/lang/invoke/MethodHandle" ∧ (zy sX6_joint).cls ≠ "java/lang/invoke/VarHandle" ∧ (parseMethodDescriptor (zy sX6_joint).desc).map (fun d => d.parameters.length) = some 3 := by decide +kernel
theorem kn_X6_sheet : (zy sX6_sheet).cls ≠ "java/lang/invoke/MethodHandle" ∧ (zy sX6_sheet).cls ≠ "java/lang/invoke/VarHandle" ∧ (parseMethodDescriptor (zy sX6_sheet).desc).map (fun d => d.parameters.length) = some 2 := by decide +kernel
theorem kn_X6_mark : (zy sX6_mark).cls ≠ "java/lang/invoke/MethodHandle" ∧ (zy sX6_mark).cls ≠ "java/lang/invoke/VarHandle" ∧ (parseMethodDescriptor (zy sX6_mark).desc).map (fun d => d.parameters.length) = some 3 := by decide +kernel
theorem kn_X6_copy : (zy sX6_copy).cls ≠ "java/lang/invoke/MethodHandle" ∧ (zy sX6_copy).cls ≠ "java/lang/invoke/VarHandle" ∧ (parseMethodDescriptor (zy sX6_copy).desc).map (fun d => d.parameters.length) = some 5 := by decide +kernel
theorem kn_X6_count : (zy sX6_count).cls ≠ "java/lang/invoke/MethodHandle" ∧ (zy sX6_count).cls ≠ "java/lang/invoke/VarHandle" ∧ (parseMethodDescriptor (zy sX6_count).desc).map (fun d => d.parameters.length) = some 1 := by decide +kernel
/-- an index that is in a row -/
theorem zin {i : Int32} {n : Nat} (h1 : 0 ≤ i.toInt) (h2 : i.toInt < n) : vp_in i n := by
  rintro (h | h)
  · have := Int32.lt_iff_toInt_lt.mp h
    simp at this
    omega
  · have : n ≤ i.toInt.toNat := h
    omega
theorem zinN {k n : Nat} (h : k < n) (h2 : n < 2 ^ 31) : vp_in (nI k) n := nI_in h h2
def zpk (ad : Nat → Nat) (ps : List Nat) : Nat → Nat := fun k => ad (ps.getD k 0)
