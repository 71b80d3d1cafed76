/-! The constructors. -/
theorem arrV_cg {cI : ClassId} {N : Nat} {f g : Nat → Value} (h : ∀ j, j < N → f j = g j) : arrV cI N f = arrV cI N g := by
  unfold arrV
  congr 2
  funext j
  exact h j.val j.isLt
theorem vp_cg_i {cA : ClassId} {N : Nat} {f g : Nat → Int32} (h : ∀ j, j < N → f j = g j) : vp_cell cA (N, .inl f) = vp_cell cA (N, .inl g) := by
  rw [vp_cell_i, vp_cell_i]
  exact arrV_cg (fun j hj => by rw [h j hj])
theorem vp_cg_q {cA : ClassId} {N : Nat} {f g : Nat → Option Nat} (h : ∀ j, j < N → f j = g j) : vp_cell cA (N, .inr (.inr (.inr (.inr f)))) = vp_cell cA (N, .inr (.inr (.inr (.inr g)))) := by
  rw [vp_cell_q, vp_cell_q]
  exact arrV_cg (fun j hj => by rw [h j hj])
section ZN2
variable {l : Launch} {G : zG} {S : zS} {wc : va_W} {post : va_W → Prop} {mc ms h0 k n pc : Nat} {st : List Value} {ws : va_W}
theorem n_to {ws2 : va_W} (h : AN l G S wc post mc ms h0 k n pc st ws2) (e : ws2 = ws) : AN l G S wc post mc ms h0 k n pc st ws := e ▸ h
theorem n_arr (q0 : Nat) {a : Nat} {cA : ClassId} {x y : vp_A} (he : ws[q0]? = some (a, .inl (cA, x))) (hc : vp_cell cA x = vp_cell cA y) (kk : AN l G S wc post mc ms h0 k n pc st (ws.set q0 (a, .inl (cA, y)))) : AN l G S wc post mc ms h0 k n pc st ws := by
  intro p e s m args below meth c C hi H locs ls hP hD hS hl
  refine kk p e s m args below meth c C hi H locs ls (fun k q hq => ?_) (hD.set he) hS hl
  by_cases h : q0 = k
  · subst h
    rw [List.getElem?_set_self', he] at hq
    have hq2 : (a, Sum.inl (cA, y)) = q := Option.some.inj hq
    rw [← hq2]
    show H[a]? = some (vp_cell cA y)
    rw [← hc]
    exact hP q0 _ he
  · rw [List.getElem?_set_ne h] at hq
    exact hP k q hq
end ZN2
/-- the plant at its beginning -/
def zσ0 : zσ := (fun k => ([3, 1000, 3000, 60, 0] : List Nat).getD k 0, fun r k => if r = 0 then (if k = 0 then 1 else 0) else if r = 3 then ([0, 9999, 0, 100, 0, 100, 10] : List Nat).getD k 0 else 0, fun _ => -1, fun _ _ => 0)
set_option maxRecDepth 100000 in
set_option maxHeartbeats 4000000 in
theorem i_X2 (l : Launch) (G : zG) (h0 : Nat) : zInit l G sX2_init h0 [(h0, .inr (2, [.null, .int 0]))] (fun w => ∃ q0 : Nat, w = [(h0, .inr (2, [.ref q0, .int 3])), (q0, .inl (zcI G, 3, .inl (upd (upd (upd (fun _ => 0) 0 1) 1 0) 2 0)))]) 1 3 := by
  refine nEnter (by decide) rfl rfl (by decide) ?_
  refine n_aload (pc := 0) dX2_init_0 ?_
  refine n_obj kobj_X2 (pc := 1) dX2_init_1 (Nat.le_of_ble_eq_true rfl) (Nat.le_of_ble_eq_true rfl) ?_
  refine n_aload (pc := 4) dX2_init_4 ?_
  refine n_iconst (v := 3) (pc := 5) dX2_init_5 (by decide +kernel) ?_
  refine n_newI (N := 3) (pc := 6) dX2_init_6 (by decide +kernel) (by decide +kernel) (by decide) (by decide) (by decide) (fun q0 => ?_)
  refine n_to (ws2 := [(h0, .inr (2, [.null, .int 0])), (q0, .inl (zcI G, 3, .inl (fun _ => 0)))]) ?_ rfl
  refine n_dup (pc := 8) dX2_init_8 rfl ?_
  refine n_iconst (v := 0) (pc := 9) dX2_init_9 (by decide +kernel) ?_
  refine n_iconst (v := 1) (pc := 10) dX2_init_10 (by decide +kernel) ?_
  refine n_iast (q0 := 1) (j := 0) (pc := 11) dX2_init_11 rfl (by unfold vp_in; decide +kernel) (by decide +kernel) ?_
  refine n_dup (pc := 12) dX2_init_12 rfl ?_
  refine n_iconst (v := 1) (pc := 13) dX2_init_13 (by decide +kernel) ?_
  refine n_iconst (v := 0) (pc := 14) dX2_init_14 (by decide +kernel) ?_
  refine n_iast (q0 := 1) (j := 1) (pc := 15) dX2_init_15 rfl (by unfold vp_in; decide +kernel) (by decide +kernel) ?_
  refine n_dup (pc := 16) dX2_init_16 rfl ?_
  refine n_iconst (v := 2) (pc := 17) dX2_init_17 (by decide +kernel) ?_
  refine n_iconst (v := 0) (pc := 18) dX2_init_18 (by decide +kernel) ?_
  refine n_iast (q0 := 1) (j := 2) (pc := 19) dX2_init_19 rfl (by unfold vp_in; decide +kernel) (by decide +kernel) ?_
  refine n_put (q0 := 0) (ci := 2) (j := 0) rfl win_X2 tyX2_ok nmX2 (by decide) (pc := 20) dX2_init_20 kf_X2_11 (Or.inr ⟨rfl, rfl⟩) rfl rfl rfl rfl (Nat.le_of_ble_eq_true rfl) ?_
  refine n_aload (pc := 23) dX2_init_23 ?_
  refine n_iconst (v := 3) (pc := 24) dX2_init_24 (by decide +kernel) ?_
  refine n_put (q0 := 0) (ci := 2) (j := 1) rfl win_X2 tyX2_ok nmX2 (by decide) (pc := 25) dX2_init_25 kf_X2_15 (Or.inl rfl) rfl rfl rfl rfl (Nat.le_of_ble_eq_true rfl) ?_
  exact n_ret (pc := 28) dX2_init_28 rfl rfl rfl ⟨q0, rfl⟩
set_option maxRecDepth 100000 in
set_option maxHeartbeats 4000000 in
theorem i_X4 (l : Launch) (G : zG) (h0 : Nat) : zInit l G sX4_init h0 [(h0, .inr (4, [.null, .null]))] (fun w => ∃ q0 q1 : Nat, w = [(h0, .inr (4, [.ref q0, .ref q1])), (q0, .inl (zcI G, 72, .inl (fun _ => 0))), (q1, .inl (zcI G, 72, .inl (fun _ => 0)))]) 2 144 := by
  refine nEnter (by decide) rfl rfl (by decide) ?_
  refine n_aload (pc := 0) dX4_init_0 ?_
  refine n_obj kobj_X4 (pc := 1) dX4_init_1 (Nat.le_of_ble_eq_true rfl) (Nat.le_of_ble_eq_true rfl) ?_
  refine n_aload (pc := 4) dX4_init_4 ?_
  refine n_bipush (v := 72) (pc := 5) dX4_init_5 (by decide +kernel) ?_
  refine n_newI (N := 72) (pc := 7) dX4_init_7 (by decide +kernel) (by decide +kernel) (by decide) (by decide) (by decide) (fun q0 => ?_)
  refine n_to (ws2 := [(h0, .inr (4, [.null, .null])), (q0, .inl (zcI G, 72, .inl (fun _ => 0)))]) ?_ rfl
  refine n_put (q0 := 0) (ci := 4) (j := 0) rfl win_X4 tyX4_ok nmX4 (by decide) (pc := 9) dX4_init_9 kf_X4_9 (Or.inr ⟨rfl, rfl⟩) rfl rfl rfl rfl (Nat.le_of_ble_eq_true rfl) ?_
  refine n_aload (pc := 12) dX4_init_12 ?_
  refine n_bipush (v := 72) (pc := 13) dX4_init_13 (by decide +kernel) ?_
  refine n_newI (N := 72) (pc := 15) dX4_init_15 (by decide +kernel) (by decide +kernel) (by decide) (by decide) (by decide) (fun q1 => ?_)
  refine n_to (ws2 := [(h0, .inr (4, [.ref q0, .null])), (q0, .inl (zcI G, 72, .inl (fun _ => 0))), (q1, .inl (zcI G, 72, .inl (fun _ => 0)))]) ?_ rfl
  refine n_put (q0 := 0) (ci := 4) (j := 1) rfl win_X4 tyX4_ok nmX4 (by decide) (pc := 17) dX4_init_17 kf_X4_15 (Or.inr ⟨rfl, rfl⟩) rfl rfl rfl rfl (Nat.le_of_ble_eq_true rfl) ?_
  exact n_ret (pc := 20) dX4_init_20 rfl rfl rfl ⟨q0, q1, rfl⟩
set_option maxRecDepth 100000 in
set_option maxHeartbeats 4000000 in
theorem i_X0 (l : Launch) (G : zG) (h0 : Nat) : zInit l G sX0_init h0 [(h0, .inr (0, [.null, .null, .null, .null, .null, .null, .null, .null, .long 0, .long 0, .long 0, .long 0, .long 0]))] (fun w => ∃ q0 q1 q2 q3 q4 q5 q6 q7 : Nat, w = [(h0, .inr (0, [.ref q0, .ref q1, .ref q2, .ref q3, .ref q4, .ref q5, .ref q6, .ref q7, .long 0, .long 0, .long 0, .long 0, .long 0])), (q0, .inl (zcI G, 72, .inl (fun _ => 0))), (q1, .inl (zcI G, 72, .inl (fun _ => 0))), (q2, .inl (zcJ G, 72, .inr (.inl (fun _ => 0)))), (q3, .inl (zcJ G, 72, .inr (.inl (fun _ => 0)))), (q4, .inl (zcJ G, 72, .inr (.inl (fun _ => 0)))), (q5, .inl (zcJ G, 72, .inr (.inl (fun _ => 0)))), (q6, .inl (zcJ G, 72, .inr (.inl (fun _ => 0)))), (q7, .inl (zcJ G, 72, .inr (.inl (fun _ => 0))))]) 8 576 := by
  refine nEnter (by decide) rfl rfl (by decide) ?_
  refine n_aload (pc := 0) dX0_init_0 ?_
  refine n_obj kobj_X0 (pc := 1) dX0_init_1 (Nat.le_of_ble_eq_true rfl) (Nat.le_of_ble_eq_true rfl) ?_
  refine n_aload (pc := 4) dX0_init_4 ?_
  refine n_bipush (v := 72) (pc := 5) dX0_init_5 (by decide +kernel) ?_
  refine n_newI (N := 72) (pc := 7) dX0_init_7 (by decide +kernel) (by decide +kernel) (by decide) (by decide) (by decide) (fun q0 => ?_)
  refine n_to (ws2 := [(h0, .inr (0, [.null, .null, .null, .null, .null, .null, .null, .null, .long 0, .long 0, .long 0, .long 0, .long 0])), (q0, .inl (zcI G, 72, .inl (fun _ => 0)))]) ?_ rfl
  refine n_put (q0 := 0) (ci := 0) (j := 0) rfl win_X0 tyX0_ok nmX0 (by decide) (pc := 9) dX0_init_9 kf_X0_9 (Or.inr ⟨rfl, rfl⟩) rfl rfl rfl rfl (Nat.le_of_ble_eq_true rfl) ?_
  refine n_aload (pc := 12) dX0_init_12 ?_
  refine n_bipush (v := 72) (pc := 13) dX0_init_13 (by decide +kernel) ?_
  refine n_newI (N := 72) (pc := 15) dX0_init_15 (by decide +kernel) (by decide +kernel) (by decide) (by decide) (by decide) (fun q1 => ?_)
  refine n_to (ws2 := [(h0, .inr (0, [.ref q0, .null, .null, .null, .null, .null, .null, .null, .long 0, .long 0, .long 0, .long 0, .long 0])), (q0, .inl (zcI G, 72, .inl (fun _ => 0))), (q1, .inl (zcI G, 72, .inl (fun _ => 0)))]) ?_ rfl
  refine n_put (q0 := 0) (ci := 0) (j := 1) rfl win_X0 tyX0_ok nmX0 (by decide) (pc := 17) dX0_init_17 kf_X0_15 (Or.inr ⟨rfl, rfl⟩) rfl rfl rfl rfl (Nat.le_of_ble_eq_true rfl) ?_
  refine n_aload (pc := 20) dX0_init_20 ?_
  refine n_bipush (v := 72) (pc := 21) dX0_init_21 (by decide +kernel) ?_
  refine n_newJ (N := 72) (pc := 23) dX0_init_23 (by decide +kernel) (by decide +kernel) (by decide) (by decide) (by decide) (fun q2 => ?_)
  refine n_to (ws2 := [(h0, .inr (0, [.ref q0, .ref q1, .null, .null, .null, .null, .null, .null, .long 0, .long 0, .long 0, .long 0, .long 0])), (q0, .inl (zcI G, 72, .inl (fun _ => 0))), (q1, .inl (zcI G, 72, .inl (fun _ => 0))), (q2, .inl (zcJ G, 72, .inr (.inl (fun _ => 0))))]) ?_ rfl
  refine n_put (q0 := 0) (ci := 0) (j := 2) rfl win_X0 tyX0_ok nmX0 (by decide) (pc := 25) dX0_init_25 kf_X0_18 (Or.inr ⟨rfl, rfl⟩) rfl rfl rfl rfl (Nat.le_of_ble_eq_true rfl) ?_
  refine n_aload (pc := 28) dX0_init_28 ?_
  refine n_bipush (v := 72) (pc := 29) dX0_init_29 (by decide +kernel) ?_
  refine n_newJ (N := 72) (pc := 31) dX0_init_31 (by decide +kernel) (by decide +kernel) (by decide) (by decide) (by decide) (fun q3 => ?_)
  refine n_to (ws2 := [(h0, .inr (0, [.ref q0, .ref q1, .ref q2, .null, .null, .null, .null, .null, .long 0, .long 0, .long 0, .long 0, .long 0])), (q0, .inl (zcI G, 72, .inl (fun _ => 0))), (q1, .inl (zcI G, 72, .inl (fun _ => 0))), (q2, .inl (zcJ G, 72, .inr (.inl (fun _ => 0)))), (q3, .inl (zcJ G, 72, .inr (.inl (fun _ => 0))))]) ?_ rfl
  refine n_put (q0 := 0) (ci := 0) (j := 3) rfl win_X0 tyX0_ok nmX0 (by decide) (pc := 33) dX0_init_33 kf_X0_22 (Or.inr ⟨rfl, rfl⟩) rfl rfl rfl rfl (Nat.le_of_ble_eq_true rfl) ?_
  refine n_aload (pc := 36) dX0_init_36 ?_
  refine n_bipush (v := 72) (pc := 37) dX0_init_37 (by decide +kernel) ?_
  refine n_newJ (N := 72) (pc := 39) dX0_init_39 (by decide +kernel) (by decide +kernel) (by decide) (by decide) (by decide) (fun q4 => ?_)
  refine n_to (ws2 := [(h0, .inr (0, [.ref q0, .ref q1, .ref q2, .ref q3, .null, .null, .null, .null, .long 0, .long 0, .long 0, .long 0, .long 0])), (q0, .inl (zcI G, 72, .inl (fun _ => 0))), (q1, .inl (zcI G, 72, .inl (fun _ => 0))), (q2, .inl (zcJ G, 72, .inr (.inl (fun _ => 0)))), (q3, .inl (zcJ G, 72, .inr (.inl (fun _ => 0)))), (q4, .inl (zcJ G, 72, .inr (.inl (fun _ => 0))))]) ?_ rfl
  refine n_put (q0 := 0) (ci := 0) (j := 4) rfl win_X0 tyX0_ok nmX0 (by decide) (pc := 41) dX0_init_41 kf_X0_25 (Or.inr ⟨rfl, rfl⟩) rfl rfl rfl rfl (Nat.le_of_ble_eq_true rfl) ?_
  refine n_aload (pc := 44) dX0_init_44 ?_
  refine n_bipush (v := 72) (pc := 45) dX0_init_45 (by decide +kernel) ?_
  refine n_newJ (N := 72) (pc := 47) dX0_init_47 (by decide +kernel) (by decide +kernel) (by decide) (by decide) (by decide) (fun q5 => ?_)
  refine n_to (ws2 := [(h0, .inr (0, [.ref q0, .ref q1, .ref q2, .ref q3, .ref q4, .null, .null, .null, .long 0, .long 0, .long 0, .long 0, .long 0])), (q0, .inl (zcI G, 72, .inl (fun _ => 0))), (q1, .inl (zcI G, 72, .inl (fun _ => 0))), (q2, .inl (zcJ G, 72, .inr (.inl (fun _ => 0)))), (q3, .inl (zcJ G, 72, .inr (.inl (fun _ => 0)))), (q4, .inl (zcJ G, 72, .inr (.inl (fun _ => 0)))), (q5, .inl (zcJ G, 72, .inr (.inl (fun _ => 0))))]) ?_ rfl
  refine n_put (q0 := 0) (ci := 0) (j := 5) rfl win_X0 tyX0_ok nmX0 (by decide) (pc := 49) dX0_init_49 kf_X0_28 (Or.inr ⟨rfl, rfl⟩) rfl rfl rfl rfl (Nat.le_of_ble_eq_true rfl) ?_
  refine n_aload (pc := 52) dX0_init_52 ?_
  refine n_bipush (v := 72) (pc := 53) dX0_init_53 (by decide +kernel) ?_
  refine n_newJ (N := 72) (pc := 55) dX0_init_55 (by decide +kernel) (by decide +kernel) (by decide) (by decide) (by decide) (fun q6 => ?_)
  refine n_to (ws2 := [(h0, .inr (0, [.ref q0, .ref q1, .ref q2, .ref q3, .ref q4, .ref q5, .null, .null, .long 0, .long 0, .long 0, .long 0, .long 0])), (q0, .inl (zcI G, 72, .inl (fun _ => 0))), (q1, .inl (zcI G, 72, .inl (fun _ => 0))), (q2, .inl (zcJ G, 72, .inr (.inl (fun _ => 0)))), (q3, .inl (zcJ G, 72, .inr (.inl (fun _ => 0)))), (q4, .inl (zcJ G, 72, .inr (.inl (fun _ => 0)))), (q5, .inl (zcJ G, 72, .inr (.inl (fun _ => 0)))), (q6, .inl (zcJ G, 72, .inr (.inl (fun _ => 0))))]) ?_ rfl
  refine n_put (q0 := 0) (ci := 0) (j := 6) rfl win_X0 tyX0_ok nmX0 (by decide) (pc := 57) dX0_init_57 kf_X0_31 (Or.inr ⟨rfl, rfl⟩) rfl rfl rfl rfl (Nat.le_of_ble_eq_true rfl) ?_
  refine n_aload (pc := 60) dX0_init_60 ?_
  refine n_bipush (v := 72) (pc := 61) dX0_init_61 (by decide +kernel) ?_
  refine n_newJ (N := 72) (pc := 63) dX0_init_63 (by decide +kernel) (by decide +kernel) (by decide) (by decide) (by decide) (fun q7 => ?_)
  refine n_to (ws2 := [(h0, .inr (0, [.ref q0, .ref q1, .ref q2, .ref q3, .ref q4, .ref q5, .ref q6, .null, .long 0, .long 0, .long 0, .long 0, .long 0])), (q0, .inl (zcI G, 72, .inl (fun _ => 0))), (q1, .inl (zcI G, 72, .inl (fun _ => 0))), (q2, .inl (zcJ G, 72, .inr (.inl (fun _ => 0)))), (q3, .inl (zcJ G, 72, .inr (.inl (fun _ => 0)))), (q4, .inl (zcJ G, 72, .inr (.inl (fun _ => 0)))), (q5, .inl (zcJ G, 72, .inr (.inl (fun _ => 0)))), (q6, .inl (zcJ G, 72, .inr (.inl (fun _ => 0)))), (q7, .inl (zcJ G, 72, .inr (.inl (fun _ => 0))))]) ?_ rfl
  refine n_put (q0 := 0) (ci := 0) (j := 7) rfl win_X0 tyX0_ok nmX0 (by decide) (pc := 65) dX0_init_65 kf_X0_34 (Or.inr ⟨rfl, rfl⟩) rfl rfl rfl rfl (Nat.le_of_ble_eq_true rfl) ?_
  refine n_aload (pc := 68) dX0_init_68 ?_
  refine n_lconst (v := 0) (pc := 69) dX0_init_69 (by decide) ?_
  refine n_put (q0 := 0) (ci := 0) (j := 8) rfl win_X0 tyX0_ok nmX0 (by decide) (pc := 70) dX0_init_70 kf_X0_37 (Or.inl rfl) rfl rfl rfl rfl (Nat.le_of_ble_eq_true rfl) ?_
  refine n_aload (pc := 73) dX0_init_73 ?_
  refine n_lconst (v := 0) (pc := 74) dX0_init_74 (by decide) ?_
  refine n_put (q0 := 0) (ci := 0) (j := 9) rfl win_X0 tyX0_ok nmX0 (by decide) (pc := 75) dX0_init_75 kf_X0_41 (Or.inl rfl) rfl rfl rfl rfl (Nat.le_of_ble_eq_true rfl) ?_
  refine n_aload (pc := 78) dX0_init_78 ?_
  refine n_lconst (v := 0) (pc := 79) dX0_init_79 (by decide) ?_
  refine n_put (q0 := 0) (ci := 0) (j := 10) rfl win_X0 tyX0_ok nmX0 (by decide) (pc := 80) dX0_init_80 kf_X0_44 (Or.inl rfl) rfl rfl rfl rfl (Nat.le_of_ble_eq_true rfl) ?_
  refine n_aload (pc := 83) dX0_init_83 ?_
  refine n_lconst (v := 0) (pc := 84) dX0_init_84 (by decide) ?_
  refine n_put (q0 := 0) (ci := 0) (j := 11) rfl win_X0 tyX0_ok nmX0 (by decide) (pc := 85) dX0_init_85 kf_X0_47 (Or.inl rfl) rfl rfl rfl rfl (Nat.le_of_ble_eq_true rfl) ?_
  refine n_aload (pc := 88) dX0_init_88 ?_
  refine n_lconst (v := 0) (pc := 89) dX0_init_89 (by decide) ?_
  refine n_put (q0 := 0) (ci := 0) (j := 12) rfl win_X0 tyX0_ok nmX0 (by decide) (pc := 90) dX0_init_90 kf_X0_50 (Or.inl rfl) rfl rfl rfl rfl (Nat.le_of_ble_eq_true rfl) ?_
  exact n_ret (pc := 93) dX0_init_93 rfl rfl rfl ⟨q0, q1, q2, q3, q4, q5, q6, q7, rfl⟩
set_option maxRecDepth 100000 in
set_option maxHeartbeats 4000000 in
theorem i_X1 (l : Launch) (G : zG) (h0 : Nat) : zInit l G sX1_init h0 [(h0, .inr (1, [.null, .null, .null, .null]))] (fun w => ∃ q0 q1 q2 q3 : Nat, w = [(h0, .inr (1, [.ref q0, .ref q1, .ref q2, .ref q3])), (q0, .inl (zcI G, 12, .inl (fun _ => 0))), (q1, .inl (zcI G, 12, .inl (fun _ => 0))), (q2, .inl (zcI G, 201, .inl (fun _ => 0))), (q3, .inl (zcI G, 201, .inl (fun _ => 0)))]) 4 426 := by
  refine nEnter (by decide) rfl rfl (by decide) ?_
  refine n_aload (pc := 0) dX1_init_0 ?_
  refine n_obj kobj_X1 (pc := 1) dX1_init_1 (Nat.le_of_ble_eq_true rfl) (Nat.le_of_ble_eq_true rfl) ?_
  refine n_aload (pc := 4) dX1_init_4 ?_
  refine n_bipush (v := 12) (pc := 5) dX1_init_5 (by decide +kernel) ?_
  refine n_newI (N := 12) (pc := 7) dX1_init_7 (by decide +kernel) (by decide +kernel) (by decide) (by decide) (by decide) (fun q0 => ?_)
  refine n_to (ws2 := [(h0, .inr (1, [.null, .null, .null, .null])), (q0, .inl (zcI G, 12, .inl (fun _ => 0)))]) ?_ rfl
  refine n_put (q0 := 0) (ci := 1) (j := 0) rfl win_X1 tyX1_ok nmX1 (by decide) (pc := 9) dX1_init_9 kf_X1_9 (Or.inr ⟨rfl, rfl⟩) rfl rfl rfl rfl (Nat.le_of_ble_eq_true rfl) ?_
  refine n_aload (pc := 12) dX1_init_12 ?_
  refine n_bipush (v := 12) (pc := 13) dX1_init_13 (by decide +kernel) ?_
  refine n_newI (N := 12) (pc := 15) dX1_init_15 (by decide +kernel) (by decide +kernel) (by decide) (by decide) (by decide) (fun q1 => ?_)
  refine n_to (ws2 := [(h0, .inr (1, [.ref q0, .null, .null, .null])), (q0, .inl (zcI G, 12, .inl (fun _ => 0))), (q1, .inl (zcI G, 12, .inl (fun _ => 0)))]) ?_ rfl
  refine n_put (q0 := 0) (ci := 1) (j := 1) rfl win_X1 tyX1_ok nmX1 (by decide) (pc := 17) dX1_init_17 kf_X1_13 (Or.inr ⟨rfl, rfl⟩) rfl rfl rfl rfl (Nat.le_of_ble_eq_true rfl) ?_
  refine n_aload (pc := 20) dX1_init_20 ?_
  refine n_sipush (v := 201) (pc := 21) dX1_init_21 (by decide +kernel) ?_
  refine n_newI (N := 201) (pc := 24) dX1_init_24 (by decide +kernel) (by decide +kernel) (by decide) (by decide) (by decide) (fun q2 => ?_)
  refine n_to (ws2 := [(h0, .inr (1, [.ref q0, .ref q1, .null, .null])), (q0, .inl (zcI G, 12, .inl (fun _ => 0))), (q1, .inl (zcI G, 12, .inl (fun _ => 0))), (q2, .inl (zcI G, 201, .inl (fun _ => 0)))]) ?_ rfl
  refine n_put (q0 := 0) (ci := 1) (j := 2) rfl win_X1 tyX1_ok nmX1 (by decide) (pc := 26) dX1_init_26 kf_X1_16 (Or.inr ⟨rfl, rfl⟩) rfl rfl rfl rfl (Nat.le_of_ble_eq_true rfl) ?_
  refine n_aload (pc := 29) dX1_init_29 ?_
  refine n_sipush (v := 201) (pc := 30) dX1_init_30 (by decide +kernel) ?_
  refine n_newI (N := 201) (pc := 33) dX1_init_33 (by decide +kernel) (by decide +kernel) (by decide) (by decide) (by decide) (fun q3 => ?_)
  refine n_to (ws2 := [(h0, .inr (1, [.ref q0, .ref q1, .ref q2, .null])), (q0, .inl (zcI G, 12, .inl (fun _ => 0))), (q1, .inl (zcI G, 12, .inl (fun _ => 0))), (q2, .inl (zcI G, 201, .inl (fun _ => 0))), (q3, .inl (zcI G, 201, .inl (fun _ => 0)))]) ?_ rfl
  refine n_put (q0 := 0) (ci := 1) (j := 3) rfl win_X1 tyX1_ok nmX1 (by decide) (pc := 35) dX1_init_35 kf_X1_19 (Or.inr ⟨rfl, rfl⟩) rfl rfl rfl rfl (Nat.le_of_ble_eq_true rfl) ?_
  exact n_ret (pc := 38) dX1_init_38 rfl rfl rfl ⟨q0, q1, q2, q3, rfl⟩
set_option maxRecDepth 100000 in
set_option maxHeartbeats 4000000 in
theorem i_X3 (l : Launch) (G : zG) (h0 : Nat) : zInit l G sX3_init h0 [(h0, .inr (3, [.null, .int 0]))] (fun w => ∃ q0 : Nat, w = [(h0, .inr (3, [.ref q0, .int (-1)])), (q0, .inl (zcS G, 24, .inl (fun _ => 0)))]) 1 24 := by
  refine nEnter (by decide) rfl rfl (by decide) ?_
  refine n_aload (pc := 0) dX3_init_0 ?_
  refine n_obj kobj_X3 (pc := 1) dX3_init_1 (Nat.le_of_ble_eq_true rfl) (Nat.le_of_ble_eq_true rfl) ?_
  refine n_aload (pc := 4) dX3_init_4 ?_
  refine n_bipush (v := 24) (pc := 5) dX3_init_5 (by decide +kernel) ?_
  refine n_newS (N := 24) (pc := 7) dX3_init_7 (by decide +kernel) (by decide +kernel) (by decide) (by decide) (by decide) (fun q0 => ?_)
  refine n_to (ws2 := [(h0, .inr (3, [.null, .int 0])), (q0, .inl (zcS G, 24, .inl (fun _ => 0)))]) ?_ rfl
  refine n_put (q0 := 0) (ci := 3) (j := 0) rfl win_X3 tyX3_ok nmX3 (by decide) (pc := 9) dX3_init_9 kf_X3_9 (Or.inr ⟨rfl, rfl⟩) rfl rfl rfl rfl (Nat.le_of_ble_eq_true rfl) ?_
  refine n_aload (pc := 12) dX3_init_12 ?_
  refine n_iconst (v := -1) (pc := 13) dX3_init_13 (by decide +kernel) ?_
  refine n_put (q0 := 0) (ci := 3) (j := 1) rfl win_X3 tyX3_ok nmX3 (by decide) (pc := 14) dX3_init_14 kf_X3_13 (Or.inl rfl) rfl rfl rfl rfl (Nat.le_of_ble_eq_true rfl) ?_
  exact n_ret (pc := 17) dX3_init_17 rfl rfl rfl ⟨q0, rfl⟩
set_option maxRecDepth 100000 in
set_option maxHeartbeats 4000000 in
theorem i_X5 (l : Launch) (G : zG) (h0 : Nat) : zInit l G sX5_init h0 [(h0, .inr (5, [.null, .null, .null, .null, .null, .null, .null, .int 0, .int 0, .int 0, .int 0]))] (fun w => ∃ (ad : Nat → Nat) (x : zX), ad 0 = h0 ∧ w = wP G ad zσ0 x) 27 1236 := by
  refine nEnter (by decide) rfl rfl (by decide) ?_
  refine n_aload (pc := 0) dX5_init_0 ?_
  refine n_obj kobj_X5 (pc := 1) dX5_init_1 (Nat.le_of_ble_eq_true rfl) (Nat.le_of_ble_eq_true rfl) ?_
  refine n_aload (pc := 4) dX5_init_4 ?_
  refine n_bipush (v := 7) (pc := 5) dX5_init_5 (by decide +kernel) ?_
  refine n_newI (N := 7) (pc := 7) dX5_init_7 (by decide +kernel) (by decide +kernel) (by decide) (by decide) (by decide) (fun q0 => ?_)
  refine n_to (ws2 := [(h0, .inr (5, [.null, .null, .null, .null, .null, .null, .null, .int 0, .int 0, .int 0, .int 0])), (q0, .inl (zcI G, 7, .inl (fun _ => 0)))]) ?_ rfl
  refine n_dup (pc := 9) dX5_init_9 rfl ?_
  refine n_iconst (v := 0) (pc := 10) dX5_init_10 (by decide +kernel) ?_
  refine n_iconst (v := 0) (pc := 11) dX5_init_11 (by decide +kernel) ?_
  refine n_iast (q0 := 1) (j := 0) (pc := 12) dX5_init_12 rfl (by unfold vp_in; decide +kernel) (by decide +kernel) ?_
  refine n_dup (pc := 13) dX5_init_13 rfl ?_
  refine n_iconst (v := 1) (pc := 14) dX5_init_14 (by decide +kernel) ?_
  refine n_sipush (v := 9999) (pc := 15) dX5_init_15 (by decide +kernel) ?_
  refine n_iast (q0 := 1) (j := 1) (pc := 18) dX5_init_18 rfl (by unfold vp_in; decide +kernel) (by decide +kernel) ?_
  refine n_dup (pc := 19) dX5_init_19 rfl ?_
  refine n_iconst (v := 2) (pc := 20) dX5_init_20 (by decide +kernel) ?_
  refine n_iconst (v := 0) (pc := 21) dX5_init_21 (by decide +kernel) ?_
  refine n_iast (q0 := 1) (j := 2) (pc := 22) dX5_init_22 rfl (by unfold vp_in; decide +kernel) (by decide +kernel) ?_
  refine n_dup (pc := 23) dX5_init_23 rfl ?_
  refine n_iconst (v := 3) (pc := 24) dX5_init_24 (by decide +kernel) ?_
  refine n_bipush (v := 100) (pc := 25) dX5_init_25 (by decide +kernel) ?_
  refine n_iast (q0 := 1) (j := 3) (pc := 27) dX5_init_27 rfl (by unfold vp_in; decide +kernel) (by decide +kernel) ?_
  refine n_dup (pc := 28) dX5_init_28 rfl ?_
  refine n_iconst (v := 4) (pc := 29) dX5_init_29 (by decide +kernel) ?_
  refine n_iconst (v := 0) (pc := 30) dX5_init_30 (by decide +kernel) ?_
  refine n_iast (q0 := 1) (j := 4) (pc := 31) dX5_init_31 rfl (by unfold vp_in; decide +kernel) (by decide +kernel) ?_
  refine n_dup (pc := 32) dX5_init_32 rfl ?_
  refine n_iconst (v := 5) (pc := 33) dX5_init_33 (by decide +kernel) ?_
  refine n_bipush (v := 100) (pc := 34) dX5_init_34 (by decide +kernel) ?_
  refine n_iast (q0 := 1) (j := 5) (pc := 36) dX5_init_36 rfl (by unfold vp_in; decide +kernel) (by decide +kernel) ?_
  refine n_dup (pc := 37) dX5_init_37 rfl ?_
  refine n_bipush (v := 6) (pc := 38) dX5_init_38 (by decide +kernel) ?_
  refine n_bipush (v := 10) (pc := 40) dX5_init_40 (by decide +kernel) ?_
  refine n_iast (q0 := 1) (j := 6) (pc := 42) dX5_init_42 rfl (by unfold vp_in; decide +kernel) (by decide +kernel) ?_
  refine n_put (q0 := 0) (ci := 5) (j := 0) rfl win_X5 tyX5_ok nmX5 (by decide) (pc := 43) dX5_init_43 kf_X5_9 (Or.inr ⟨rfl, rfl⟩) rfl rfl rfl rfl (Nat.le_of_ble_eq_true rfl) ?_
  refine n_aload (pc := 46) dX5_init_46 ?_
  refine n_new (ci := 2) (fs := [.null, .int 0]) (pc := 47) dX5_init_47 kcl_X5_13 kinst_X2 kini_X2 win_X2 tyX2_ok rfl (by decide +kernel) (by decide) (by decide) (fun q1 => ?_)
  refine n_dup (pc := 50) dX5_init_50 rfl ?_
  refine n_callN (wr := [(h0, .inr (5, [.ref q0, .null, .null, .null, .null, .null, .null, .int 0, .int 0, .int 0, .int 0])), (q0, .inl (zcI G, 7, .inl (upd (upd (upd (upd (upd (upd (upd (fun _ => 0) 0 0) 1 9999) 2 0) 3 100) 4 0) 5 100) 6 10)))]) (i_X2 l G q1) kc_X2_init rfl km_X5_15 ki_X2_init kini_X2 rfl ⟨⟨by decide +kernel, by decide +kernel, by decide +kernel⟩, by decide, by decide⟩ (pc := 51) dX5_init_51 (znd_of (n := 2) rfl (by decide +kernel)) (Nat.le_of_ble_eq_true rfl) (by decide) (by decide) (fun w1_ hw_ => ?_)
  obtain ⟨q2, rfl⟩ := hw_
  refine n_to (ws2 := [(h0, .inr (5, [.ref q0, .null, .null, .null, .null, .null, .null, .int 0, .int 0, .int 0, .int 0])), (q0, .inl (zcI G, 7, .inl (upd (upd (upd (upd (upd (upd (upd (fun _ => 0) 0 0) 1 9999) 2 0) 3 100) 4 0) 5 100) 6 10))), (q1, .inr (2, [.ref q2, .int 3])), (q2, .inl (zcI G, 3, .inl (upd (upd (upd (fun _ => 0) 0 1) 1 0) 2 0)))]) ?_ rfl
  refine n_put (q0 := 0) (ci := 5) (j := 1) rfl win_X5 tyX5_ok nmX5 (by decide) (pc := 54) dX5_init_54 kf_X5_16 (Or.inr ⟨rfl, rfl⟩) rfl rfl rfl rfl (Nat.le_of_ble_eq_true rfl) ?_
  refine n_aload (pc := 57) dX5_init_57 ?_
  refine n_new (ci := 2) (fs := [.null, .int 0]) (pc := 58) dX5_init_58 kcl_X5_13 kinst_X2 kini_X2 win_X2 tyX2_ok rfl (by decide +kernel) (by decide) (by decide) (fun q3 => ?_)
  refine n_dup (pc := 61) dX5_init_61 rfl ?_
  refine n_callN (wr := [(h0, .inr (5, [.ref q0, .ref q1, .null, .null, .null, .null, .null, .int 0, .int 0, .int 0, .int 0])), (q0, .inl (zcI G, 7, .inl (upd (upd (upd (upd (upd (upd (upd (fun _ => 0) 0 0) 1 9999) 2 0) 3 100) 4 0) 5 100) 6 10))), (q1, .inr (2, [.ref q2, .int 3])), (q2, .inl (zcI G, 3, .inl (upd (upd (upd (fun _ => 0) 0 1) 1 0) 2 0)))]) (i_X2 l G q3) kc_X2_init rfl km_X5_15 ki_X2_init kini_X2 rfl ⟨⟨by decide +kernel, by decide +kernel, by decide +kernel⟩, by decide, by decide⟩ (pc := 62) dX5_init_62 (znd_of (n := 4) rfl (by decide +kernel)) (Nat.le_of_ble_eq_true rfl) (by decide) (by decide) (fun w1_ hw_ => ?_)
  obtain ⟨q4, rfl⟩ := hw_
  refine n_to (ws2 := [(h0, .inr (5, [.ref q0, .ref q1, .null, .null, .null, .null, .null, .int 0, .int 0, .int 0, .int 0])), (q0, .inl (zcI G, 7, .inl (upd (upd (upd (upd (upd (upd (upd (fun _ => 0) 0 0) 1 9999) 2 0) 3 100) 4 0) 5 100) 6 10))), (q1, .inr (2, [.ref q2, .int 3])), (q2, .inl (zcI G, 3, .inl (upd (upd (upd (fun _ => 0) 0 1) 1 0) 2 0))), (q3, .inr (2, [.ref q4, .int 3])), (q4, .inl (zcI G, 3, .inl (upd (upd (upd (fun _ => 0) 0 1) 1 0) 2 0)))]) ?_ rfl
  refine n_put (q0 := 0) (ci := 5) (j := 2) rfl win_X5 tyX5_ok nmX5 (by decide) (pc := 65) dX5_init_65 kf_X5_20 (Or.inr ⟨rfl, rfl⟩) rfl rfl rfl rfl (Nat.le_of_ble_eq_true rfl) ?_
  refine n_aload (pc := 68) dX5_init_68 ?_
  refine n_new (ci := 4) (fs := [.null, .null]) (pc := 69) dX5_init_69 kcl_X5_23 kinst_X4 kini_X4 win_X4 tyX4_ok rfl (by decide +kernel) (by decide) (by decide) (fun q5 => ?_)
  refine n_dup (pc := 72) dX5_init_72 rfl ?_
  refine n_callN (wr := [(h0, .inr (5, [.ref q0, .ref q1, .ref q3, .null, .null, .null, .null, .int 0, .int 0, .int 0, .int 0])), (q0, .inl (zcI G, 7, .inl (upd (upd (upd (upd (upd (upd (upd (fun _ => 0) 0 0) 1 9999) 2 0) 3 100) 4 0) 5 100) 6 10))), (q1, .inr (2, [.ref q2, .int 3])), (q2, .inl (zcI G, 3, .inl (upd (upd (upd (fun _ => 0) 0 1) 1 0) 2 0))), (q3, .inr (2, [.ref q4, .int 3])), (q4, .inl (zcI G, 3, .inl (upd (upd (upd (fun _ => 0) 0 1) 1 0) 2 0)))]) (i_X4 l G q5) kc_X4_init rfl km_X5_25 ki_X4_init kini_X4 rfl ⟨⟨by decide +kernel, by decide +kernel, by decide +kernel⟩, by decide, by decide⟩ (pc := 73) dX5_init_73 (znd_of (n := 6) rfl (by decide +kernel)) (Nat.le_of_ble_eq_true rfl) (by decide) (by decide) (fun w1_ hw_ => ?_)
  obtain ⟨q6, q7, rfl⟩ := hw_
  refine n_to (ws2 := [(h0, .inr (5, [.ref q0, .ref q1, .ref q3, .null, .null, .null, .null, .int 0, .int 0, .int 0, .int 0])), (q0, .inl (zcI G, 7, .inl (upd (upd (upd (upd (upd (upd (upd (fun _ => 0) 0 0) 1 9999) 2 0) 3 100) 4 0) 5 100) 6 10))), (q1, .inr (2, [.ref q2, .int 3])), (q2, .inl (zcI G, 3, .inl (upd (upd (upd (fun _ => 0) 0 1) 1 0) 2 0))), (q3, .inr (2, [.ref q4, .int 3])), (q4, .inl (zcI G, 3, .inl (upd (upd (upd (fun _ => 0) 0 1) 1 0) 2 0))), (q5, .inr (4, [.ref q6, .ref q7])), (q6, .inl (zcI G, 72, .inl (fun _ => 0))), (q7, .inl (zcI G, 72, .inl (fun _ => 0)))]) ?_ rfl
  refine n_put (q0 := 0) (ci := 5) (j := 3) rfl win_X5 tyX5_ok nmX5 (by decide) (pc := 76) dX5_init_76 kf_X5_26 (Or.inr ⟨rfl, rfl⟩) rfl rfl rfl rfl (Nat.le_of_ble_eq_true rfl) ?_
  refine n_aload (pc := 79) dX5_init_79 ?_
  refine n_new (ci := 0) (fs := [.null, .null, .null, .null, .null, .null, .null, .null, .long 0, .long 0, .long 0, .long 0, .long 0]) (pc := 80) dX5_init_80 kcl_X5_30 kinst_X0 kini_X0 win_X0 tyX0_ok rfl (by decide +kernel) (by decide) (by decide) (fun q8 => ?_)
  refine n_dup (pc := 83) dX5_init_83 rfl ?_
  refine n_callN (wr := [(h0, .inr (5, [.ref q0, .ref q1, .ref q3, .ref q5, .null, .null, .null, .int 0, .int 0, .int 0, .int 0])), (q0, .inl (zcI G, 7, .inl (upd (upd (upd (upd (upd (upd (upd (fun _ => 0) 0 0) 1 9999) 2 0) 3 100) 4 0) 5 100) 6 10))), (q1, .inr (2, [.ref q2, .int 3])), (q2, .inl (zcI G, 3, .inl (upd (upd (upd (fun _ => 0) 0 1) 1 0) 2 0))), (q3, .inr (2, [.ref q4, .int 3])), (q4, .inl (zcI G, 3, .inl (upd (upd (upd (fun _ => 0) 0 1) 1 0) 2 0))), (q5, .inr (4, [.ref q6, .ref q7])), (q6, .inl (zcI G, 72, .inl (fun _ => 0))), (q7, .inl (zcI G, 72, .inl (fun _ => 0)))]) (i_X0 l G q8) kc_X0_init rfl km_X5_32 ki_X0_init kini_X0 rfl ⟨⟨by decide +kernel, by decide +kernel, by decide +kernel⟩, by decide, by decide⟩ (pc := 84) dX5_init_84 (znd_of (n := 9) rfl (by decide +kernel)) (Nat.le_of_ble_eq_true rfl) (by decide) (by decide) (fun w1_ hw_ => ?_)
  obtain ⟨q9, q10, q11, q12, q13, q14, q15, q16, rfl⟩ := hw_
  refine n_to (ws2 := [(h0, .inr (5, [.ref q0, .ref q1, .ref q3, .ref q5, .null, .null, .null, .int 0, .int 0, .int 0, .int 0])), (q0, .inl (zcI G, 7, .inl (upd (upd (upd (upd (upd (upd (upd (fun _ => 0) 0 0) 1 9999) 2 0) 3 100) 4 0) 5 100) 6 10))), (q1, .inr (2, [.ref q2, .int 3])), (q2, .inl (zcI G, 3, .inl (upd (upd (upd (fun _ => 0) 0 1) 1 0) 2 0))), (q3, .inr (2, [.ref q4, .int 3])), (q4, .inl (zcI G, 3, .inl (upd (upd (upd (fun _ => 0) 0 1) 1 0) 2 0))), (q5, .inr (4, [.ref q6, .ref q7])), (q6, .inl (zcI G, 72, .inl (fun _ => 0))), (q7, .inl (zcI G, 72, .inl (fun _ => 0))), (q8, .inr (0, [.ref q9, .ref q10, .ref q11, .ref q12, .ref q13, .ref q14, .ref q15, .ref q16, .long 0, .long 0, .long 0, .long 0, .long 0])), (q9, .inl (zcI G, 72, .inl (fun _ => 0))), (q10, .inl (zcI G, 72, .inl (fun _ => 0))), (q11, .inl (zcJ G, 72, .inr (.inl (fun _ => 0)))), (q12, .inl (zcJ G, 72, .inr (.inl (fun _ => 0)))), (q13, .inl (zcJ G, 72, .inr (.inl (fun _ => 0)))), (q14, .inl (zcJ G, 72, .inr (.inl (fun _ => 0)))), (q15, .inl (zcJ G, 72, .inr (.inl (fun _ => 0)))), (q16, .inl (zcJ G, 72, .inr (.inl (fun _ => 0))))]) ?_ rfl
  refine n_put (q0 := 0) (ci := 5) (j := 4) rfl win_X5 tyX5_ok nmX5 (by decide) (pc := 87) dX5_init_87 kf_X5_33 (Or.inr ⟨rfl, rfl⟩) rfl rfl rfl rfl (Nat.le_of_ble_eq_true rfl) ?_
  refine n_aload (pc := 90) dX5_init_90 ?_
  refine n_new (ci := 1) (fs := [.null, .null, .null, .null]) (pc := 91) dX5_init_91 kcl_X5_37 kinst_X1 kini_X1 win_X1 tyX1_ok rfl (by decide +kernel) (by decide) (by decide) (fun q17 => ?_)
  refine n_dup (pc := 94) dX5_init_94 rfl ?_
  refine n_callN (wr := [(h0, .inr (5, [.ref q0, .ref q1, .ref q3, .ref q5, .ref q8, .null, .null, .int 0, .int 0, .int 0, .int 0])), (q0, .inl (zcI G, 7, .inl (upd (upd (upd (upd (upd (upd (upd (fun _ => 0) 0 0) 1 9999) 2 0) 3 100) 4 0) 5 100) 6 10))), (q1, .inr (2, [.ref q2, .int 3])), (q2, .inl (zcI G, 3, .inl (upd (upd (upd (fun _ => 0) 0 1) 1 0) 2 0))), (q3, .inr (2, [.ref q4, .int 3])), (q4, .inl (zcI G, 3, .inl (upd (upd (upd (fun _ => 0) 0 1) 1 0) 2 0))), (q5, .inr (4, [.ref q6, .ref q7])), (q6, .inl (zcI G, 72, .inl (fun _ => 0))), (q7, .inl (zcI G, 72, .inl (fun _ => 0))), (q8, .inr (0, [.ref q9, .ref q10, .ref q11, .ref q12, .ref q13, .ref q14, .ref q15, .ref q16, .long 0, .long 0, .long 0, .long 0, .long 0])), (q9, .inl (zcI G, 72, .inl (fun _ => 0))), (q10, .inl (zcI G, 72, .inl (fun _ => 0))), (q11, .inl (zcJ G, 72, .inr (.inl (fun _ => 0)))), (q12, .inl (zcJ G, 72, .inr (.inl (fun _ => 0)))), (q13, .inl (zcJ G, 72, .inr (.inl (fun _ => 0)))), (q14, .inl (zcJ G, 72, .inr (.inl (fun _ => 0)))), (q15, .inl (zcJ G, 72, .inr (.inl (fun _ => 0)))), (q16, .inl (zcJ G, 72, .inr (.inl (fun _ => 0))))]) (i_X1 l G q17) kc_X1_init rfl km_X5_39 ki_X1_init kini_X1 rfl ⟨⟨by decide +kernel, by decide +kernel, by decide +kernel⟩, by decide, by decide⟩ (pc := 95) dX5_init_95 (znd_of (n := 18) rfl (by decide +kernel)) (Nat.le_of_ble_eq_true rfl) (by decide) (by decide) (fun w1_ hw_ => ?_)
  obtain ⟨q18, q19, q20, q21, rfl⟩ := hw_
  refine n_to (ws2 := [(h0, .inr (5, [.ref q0, .ref q1, .ref q3, .ref q5, .ref q8, .null, .null, .int 0, .int 0, .int 0, .int 0])), (q0, .inl (zcI G, 7, .inl (upd (upd (upd (upd (upd (upd (upd (fun _ => 0) 0 0) 1 9999) 2 0) 3 100) 4 0) 5 100) 6 10))), (q1, .inr (2, [.ref q2, .int 3])), (q2, .inl (zcI G, 3, .inl (upd (upd (upd (fun _ => 0) 0 1) 1 0) 2 0))), (q3, .inr (2, [.ref q4, .int 3])), (q4, .inl (zcI G, 3, .inl (upd (upd (upd (fun _ => 0) 0 1) 1 0) 2 0))), (q5, .inr (4, [.ref q6, .ref q7])), (q6, .inl (zcI G, 72, .inl (fun _ => 0))), (q7, .inl (zcI G, 72, .inl (fun _ => 0))), (q8, .inr (0, [.ref q9, .ref q10, .ref q11, .ref q12, .ref q13, .ref q14, .ref q15, .ref q16, .long 0, .long 0, .long 0, .long 0, .long 0])), (q9, .inl (zcI G, 72, .inl (fun _ => 0))), (q10, .inl (zcI G, 72, .inl (fun _ => 0))), (q11, .inl (zcJ G, 72, .inr (.inl (fun _ => 0)))), (q12, .inl (zcJ G, 72, .inr (.inl (fun _ => 0)))), (q13, .inl (zcJ G, 72, .inr (.inl (fun _ => 0)))), (q14, .inl (zcJ G, 72, .inr (.inl (fun _ => 0)))), (q15, .inl (zcJ G, 72, .inr (.inl (fun _ => 0)))), (q16, .inl (zcJ G, 72, .inr (.inl (fun _ => 0)))), (q17, .inr (1, [.ref q18, .ref q19, .ref q20, .ref q21])), (q18, .inl (zcI G, 12, .inl (fun _ => 0))), (q19, .inl (zcI G, 12, .inl (fun _ => 0))), (q20, .inl (zcI G, 201, .inl (fun _ => 0))), (q21, .inl (zcI G, 201, .inl (fun _ => 0)))]) ?_ rfl
  refine n_put (q0 := 0) (ci := 5) (j := 5) rfl win_X5 tyX5_ok nmX5 (by decide) (pc := 98) dX5_init_98 kf_X5_40 (Or.inr ⟨rfl, rfl⟩) rfl rfl rfl rfl (Nat.le_of_ble_eq_true rfl) ?_
  refine n_aload (pc := 101) dX5_init_101 ?_
  refine n_iconst (v := 2) (pc := 102) dX5_init_102 (by decide +kernel) ?_
  refine n_newq (N := 2) (pc := 103) dX5_init_103 kcl_X5_44 (by decide +kernel) (by decide +kernel) (by decide) (by decide) (by decide) (fun q22 => ?_)
  refine n_to (ws2 := [(h0, .inr (5, [.ref q0, .ref q1, .ref q3, .ref q5, .ref q8, .ref q17, .null, .int 0, .int 0, .int 0, .int 0])), (q0, .inl (zcI G, 7, .inl (upd (upd (upd (upd (upd (upd (upd (fun _ => 0) 0 0) 1 9999) 2 0) 3 100) 4 0) 5 100) 6 10))), (q1, .inr (2, [.ref q2, .int 3])), (q2, .inl (zcI G, 3, .inl (upd (upd (upd (fun _ => 0) 0 1) 1 0) 2 0))), (q3, .inr (2, [.ref q4, .int 3])), (q4, .inl (zcI G, 3, .inl (upd (upd (upd (fun _ => 0) 0 1) 1 0) 2 0))), (q5, .inr (4, [.ref q6, .ref q7])), (q6, .inl (zcI G, 72, .inl (fun _ => 0))), (q7, .inl (zcI G, 72, .inl (fun _ => 0))), (q8, .inr (0, [.ref q9, .ref q10, .ref q11, .ref q12, .ref q13, .ref q14, .ref q15, .ref q16, .long 0, .long 0, .long 0, .long 0, .long 0])), (q9, .inl (zcI G, 72, .inl (fun _ => 0))), (q10, .inl (zcI G, 72, .inl (fun _ => 0))), (q11, .inl (zcJ G, 72, .inr (.inl (fun _ => 0)))), (q12, .inl (zcJ G, 72, .inr (.inl (fun _ => 0)))), (q13, .inl (zcJ G, 72, .inr (.inl (fun _ => 0)))), (q14, .inl (zcJ G, 72, .inr (.inl (fun _ => 0)))), (q15, .inl (zcJ G, 72, .inr (.inl (fun _ => 0)))), (q16, .inl (zcJ G, 72, .inr (.inl (fun _ => 0)))), (q17, .inr (1, [.ref q18, .ref q19, .ref q20, .ref q21])), (q18, .inl (zcI G, 12, .inl (fun _ => 0))), (q19, .inl (zcI G, 12, .inl (fun _ => 0))), (q20, .inl (zcI G, 201, .inl (fun _ => 0))), (q21, .inl (zcI G, 201, .inl (fun _ => 0))), (q22, .inl (zcO G, 2, .inr (.inr (.inr (.inr (fun _ => none))))))]) ?_ rfl
  refine n_dup (pc := 106) dX5_init_106 rfl ?_
  refine n_iconst (v := 0) (pc := 107) dX5_init_107 (by decide +kernel) ?_
  refine n_new (ci := 3) (fs := [.null, .int 0]) (pc := 108) dX5_init_108 kcl_X5_44 kinst_X3 kini_X3 win_X3 tyX3_ok rfl (by decide +kernel) (by decide) (by decide) (fun q23 => ?_)
  refine n_dup (pc := 111) dX5_init_111 rfl ?_
  refine n_callN (wr := [(h0, .inr (5, [.ref q0, .ref q1, .ref q3, .ref q5, .ref q8, .ref q17, .null, .int 0, .int 0, .int 0, .int 0])), (q0, .inl (zcI G, 7, .inl (upd (upd (upd (upd (upd (upd (upd (fun _ => 0) 0 0) 1 9999) 2 0) 3 100) 4 0) 5 100) 6 10))), (q1, .inr (2, [.ref q2, .int 3])), (q2, .inl (zcI G, 3, .inl (upd (upd (upd (fun _ => 0) 0 1) 1 0) 2 0))), (q3, .inr (2, [.ref q4, .int 3])), (q4, .inl (zcI G, 3, .inl (upd (upd (upd (fun _ => 0) 0 1) 1 0) 2 0))), (q5, .inr (4, [.ref q6, .ref q7])), (q6, .inl (zcI G, 72, .inl (fun _ => 0))), (q7, .inl (zcI G, 72, .inl (fun _ => 0))), (q8, .inr (0, [.ref q9, .ref q10, .ref q11, .ref q12, .ref q13, .ref q14, .ref q15, .ref q16, .long 0, .long 0, .long 0, .long 0, .long 0])), (q9, .inl (zcI G, 72, .inl (fun _ => 0))), (q10, .inl (zcI G, 72, .inl (fun _ => 0))), (q11, .inl (zcJ G, 72, .inr (.inl (fun _ => 0)))), (q12, .inl (zcJ G, 72, .inr (.inl (fun _ => 0)))), (q13, .inl (zcJ G, 72, .inr (.inl (fun _ => 0)))), (q14, .inl (zcJ G, 72, .inr (.inl (fun _ => 0)))), (q15, .inl (zcJ G, 72, .inr (.inl (fun _ => 0)))), (q16, .inl (zcJ G, 72, .inr (.inl (fun _ => 0)))), (q17, .inr (1, [.ref q18, .ref q19, .ref q20, .ref q21])), (q18, .inl (zcI G, 12, .inl (fun _ => 0))), (q19, .inl (zcI G, 12, .inl (fun _ => 0))), (q20, .inl (zcI G, 201, .inl (fun _ => 0))), (q21, .inl (zcI G, 201, .inl (fun _ => 0))), (q22, .inl (zcO G, 2, .inr (.inr (.inr (.inr (fun _ => none))))))]) (i_X3 l G q23) kc_X3_init rfl km_X5_46 ki_X3_init kini_X3 rfl ⟨⟨by decide +kernel, by decide +kernel, by decide +kernel⟩, by decide, by decide⟩ (pc := 112) dX5_init_112 (znd_of (n := 24) rfl (by decide +kernel)) (Nat.le_of_ble_eq_true rfl) (by decide) (by decide) (fun w1_ hw_ => ?_)
  obtain ⟨q24, rfl⟩ := hw_
  refine n_to (ws2 := [(h0, .inr (5, [.ref q0, .ref q1, .ref q3, .ref q5, .ref q8, .ref q17, .null, .int 0, .int 0, .int 0, .int 0])), (q0, .inl (zcI G, 7, .inl (upd (upd (upd (upd (upd (upd (upd (fun _ => 0) 0 0) 1 9999) 2 0) 3 100) 4 0) 5 100) 6 10))), (q1, .inr (2, [.ref q2, .int 3])), (q2, .inl (zcI G, 3, .inl (upd (upd (upd (fun _ => 0) 0 1) 1 0) 2 0))), (q3, .inr (2, [.ref q4, .int 3])), (q4, .inl (zcI G, 3, .inl (upd (upd (upd (fun _ => 0) 0 1) 1 0) 2 0))), (q5, .inr (4, [.ref q6, .ref q7])), (q6, .inl (zcI G, 72, .inl (fun _ => 0))), (q7, .inl (zcI G, 72, .inl (fun _ => 0))), (q8, .inr (0, [.ref q9, .ref q10, .ref q11, .ref q12, .ref q13, .ref q14, .ref q15, .ref q16, .long 0, .long 0, .long 0, .long 0, .long 0])), (q9, .inl (zcI G, 72, .inl (fun _ => 0))), (q10, .inl (zcI G, 72, .inl (fun _ => 0))), (q11, .inl (zcJ G, 72, .inr (.inl (fun _ => 0)))), (q12, .inl (zcJ G, 72, .inr (.inl (fun _ => 0)))), (q13, .inl (zcJ G, 72, .inr (.inl (fun _ => 0)))), (q14, .inl (zcJ G, 72, .inr (.inl (fun _ => 0)))), (q15, .inl (zcJ G, 72, .inr (.inl (fun _ => 0)))), (q16, .inl (zcJ G, 72, .inr (.inl (fun _ => 0)))), (q17, .inr (1, [.ref q18, .ref q19, .ref q20, .ref q21])), (q18, .inl (zcI G, 12, .inl (fun _ => 0))), (q19, .inl (zcI G, 12, .inl (fun _ => 0))), (q20, .inl (zcI G, 201, .inl (fun _ => 0))), (q21, .inl (zcI G, 201, .inl (fun _ => 0))), (q22, .inl (zcO G, 2, .inr (.inr (.inr (.inr (fun _ => none)))))), (q23, .inr (3, [.ref q24, .int (-1)])), (q24, .inl (zcS G, 24, .inl (fun _ => 0)))]) ?_ rfl
  refine n_astq (q0 := 23) (qk := 24) (j := 0) (pc := 115) dX5_init_115 rfl rfl (by unfold vp_in; decide +kernel) (by decide +kernel) ?_
  refine n_dup (pc := 116) dX5_init_116 rfl ?_
  refine n_iconst (v := 1) (pc := 117) dX5_init_117 (by decide +kernel) ?_
  refine n_new (ci := 3) (fs := [.null, .int 0]) (pc := 118) dX5_init_118 kcl_X5_44 kinst_X3 kini_X3 win_X3 tyX3_ok rfl (by decide +kernel) (by decide) (by decide) (fun q25 => ?_)
  refine n_dup (pc := 121) dX5_init_121 rfl ?_
  refine n_callN (wr := [(h0, .inr (5, [.ref q0, .ref q1, .ref q3, .ref q5, .ref q8, .ref q17, .null, .int 0, .int 0, .int 0, .int 0])), (q0, .inl (zcI G, 7, .inl (upd (upd (upd (upd (upd (upd (upd (fun _ => 0) 0 0) 1 9999) 2 0) 3 100) 4 0) 5 100) 6 10))), (q1, .inr (2, [.ref q2, .int 3])), (q2, .inl (zcI G, 3, .inl (upd (upd (upd (fun _ => 0) 0 1) 1 0) 2 0))), (q3, .inr (2, [.ref q4, .int 3])), (q4, .inl (zcI G, 3, .inl (upd (upd (upd (fun _ => 0) 0 1) 1 0) 2 0))), (q5, .inr (4, [.ref q6, .ref q7])), (q6, .inl (zcI G, 72, .inl (fun _ => 0))), (q7, .inl (zcI G, 72, .inl (fun _ => 0))), (q8, .inr (0, [.ref q9, .ref q10, .ref q11, .ref q12, .ref q13, .ref q14, .ref q15, .ref q16, .long 0, .long 0, .long 0, .long 0, .long 0])), (q9, .inl (zcI G, 72, .inl (fun _ => 0))), (q10, .inl (zcI G, 72, .inl (fun _ => 0))), (q11, .inl (zcJ G, 72, .inr (.inl (fun _ => 0)))), (q12, .inl (zcJ G, 72, .inr (.inl (fun _ => 0)))), (q13, .inl (zcJ G, 72, .inr (.inl (fun _ => 0)))), (q14, .inl (zcJ G, 72, .inr (.inl (fun _ => 0)))), (q15, .inl (zcJ G, 72, .inr (.inl (fun _ => 0)))), (q16, .inl (zcJ G, 72, .inr (.inl (fun _ => 0)))), (q17, .inr (1, [.ref q18, .ref q19, .ref q20, .ref q21])), (q18, .inl (zcI G, 12, .inl (fun _ => 0))), (q19, .inl (zcI G, 12, .inl (fun _ => 0))), (q20, .inl (zcI G, 201, .inl (fun _ => 0))), (q21, .inl (zcI G, 201, .inl (fun _ => 0))), (q22, .inl (zcO G, 2, .inr (.inr (.inr (.inr (va_up (fun _ => none) 0 (some q23))))))), (q23, .inr (3, [.ref q24, .int (-1)])), (q24, .inl (zcS G, 24, .inl (fun _ => 0)))]) (i_X3 l G q25) kc_X3_init rfl km_X5_46 ki_X3_init kini_X3 rfl ⟨⟨by decide +kernel, by decide +kernel, by decide +kernel⟩, by decide, by decide⟩ (pc := 122) dX5_init_122 (znd_of (n := 26) rfl (by decide +kernel)) (Nat.le_of_ble_eq_true rfl) (by decide) (by decide) (fun w1_ hw_ => ?_)
  obtain ⟨q26, rfl⟩ := hw_
  refine n_to (ws2 := [(h0, .inr (5, [.ref q0, .ref q1, .ref q3, .ref q5, .ref q8, .ref q17, .null, .int 0, .int 0, .int 0, .int 0])), (q0, .inl (zcI G, 7, .inl (upd (upd (upd (upd (upd (upd (upd (fun _ => 0) 0 0) 1 9999) 2 0) 3 100) 4 0) 5 100) 6 10))), (q1, .inr (2, [.ref q2, .int 3])), (q2, .inl (zcI G, 3, .inl (upd (upd (upd (fun _ => 0) 0 1) 1 0) 2 0))), (q3, .inr (2, [.ref q4, .int 3])), (q4, .inl (zcI G, 3, .inl (upd (upd (upd (fun _ => 0) 0 1) 1 0) 2 0))), (q5, .inr (4, [.ref q6, .ref q7])), (q6, .inl (zcI G, 72, .inl (fun _ => 0))), (q7, .inl (zcI G, 72, .inl (fun _ => 0))), (q8, .inr (0, [.ref q9, .ref q10, .ref q11, .ref q12, .ref q13, .ref q14, .ref q15, .ref q16, .long 0, .long 0, .long 0, .long 0, .long 0])), (q9, .inl (zcI G, 72, .inl (fun _ => 0))), (q10, .inl (zcI G, 72, .inl (fun _ => 0))), (q11, .inl (zcJ G, 72, .inr (.inl (fun _ => 0)))), (q12, .inl (zcJ G, 72, .inr (.inl (fun _ => 0)))), (q13, .inl (zcJ G, 72, .inr (.inl (fun _ => 0)))), (q14, .inl (zcJ G, 72, .inr (.inl (fun _ => 0)))), (q15, .inl (zcJ G, 72, .inr (.inl (fun _ => 0)))), (q16, .inl (zcJ G, 72, .inr (.inl (fun _ => 0)))), (q17, .inr (1, [.ref q18, .ref q19, .ref q20, .ref q21])), (q18, .inl (zcI G, 12, .inl (fun _ => 0))), (q19, .inl (zcI G, 12, .inl (fun _ => 0))), (q20, .inl (zcI G, 201, .inl (fun _ => 0))), (q21, .inl (zcI G, 201, .inl (fun _ => 0))), (q22, .inl (zcO G, 2, .inr (.inr (.inr (.inr (va_up (fun _ => none) 0 (some q23))))))), (q23, .inr (3, [.ref q24, .int (-1)])), (q24, .inl (zcS G, 24, .inl (fun _ => 0))), (q25, .inr (3, [.ref q26, .int (-1)])), (q26, .inl (zcS G, 24, .inl (fun _ => 0)))]) ?_ rfl
  refine n_astq (q0 := 23) (qk := 26) (j := 1) (pc := 125) dX5_init_125 rfl rfl (by unfold vp_in; decide +kernel) (by decide +kernel) ?_
  refine n_put (q0 := 0) (ci := 5) (j := 6) rfl win_X5 tyX5_ok nmX5 (by decide) (pc := 126) dX5_init_126 kf_X5_47 (Or.inr ⟨rfl, rfl⟩) rfl rfl rfl rfl (Nat.le_of_ble_eq_true rfl) ?_
  refine n_aload (pc := 129) dX5_init_129 ?_
  refine n_sipush (v := 1000) (pc := 130) dX5_init_130 (by decide +kernel) ?_
  refine n_put (q0 := 0) (ci := 5) (j := 7) rfl win_X5 tyX5_ok nmX5 (by decide) (pc := 133) dX5_init_133 kf_X5_51 (Or.inl rfl) rfl rfl rfl rfl (Nat.le_of_ble_eq_true rfl) ?_
  refine n_aload (pc := 136) dX5_init_136 ?_
  refine n_sipush (v := 3000) (pc := 137) dX5_init_137 (by decide +kernel) ?_
  refine n_put (q0 := 0) (ci := 5) (j := 8) rfl win_X5 tyX5_ok nmX5 (by decide) (pc := 140) dX5_init_140 kf_X5_55 (Or.inl rfl) rfl rfl rfl rfl (Nat.le_of_ble_eq_true rfl) ?_
  refine n_aload (pc := 143) dX5_init_143 ?_
  refine n_bipush (v := 60) (pc := 144) dX5_init_144 (by decide +kernel) ?_
  refine n_put (q0 := 0) (ci := 5) (j := 9) rfl win_X5 tyX5_ok nmX5 (by decide) (pc := 146) dX5_init_146 kf_X5_58 (Or.inl rfl) rfl rfl rfl rfl (Nat.le_of_ble_eq_true rfl) ?_
  refine n_aload (pc := 149) dX5_init_149 ?_
  refine n_iconst (v := 0) (pc := 150) dX5_init_150 (by decide +kernel) ?_
  refine n_put (q0 := 0) (ci := 5) (j := 10) rfl win_X5 tyX5_ok nmX5 (by decide) (pc := 151) dX5_init_151 kf_X5_61 (Or.inl rfl) rfl rfl rfl rfl (Nat.le_of_ble_eq_true rfl) ?_
  refine n_arr 1 (y := (7, .inl (fun k => nI (zσ0.2.1 3 k)))) rfl (vp_cg_i (fun j_ hj_ => ?_)) ?_
  · rcases (show j_ = 0 ∨ j_ = 1 ∨ j_ = 2 ∨ j_ = 3 ∨ j_ = 4 ∨ j_ = 5 ∨ j_ = 6 by omega) with rfl | rfl | rfl | rfl | rfl | rfl | rfl <;> first | rfl | decide +kernel
  refine n_arr 3 (y := (3, .inl (fun k => nI (zσ0.2.1 0 k)))) rfl (vp_cg_i (fun j_ hj_ => ?_)) ?_
  · rcases (show j_ = 0 ∨ j_ = 1 ∨ j_ = 2 by omega) with rfl | rfl | rfl <;> first | rfl | decide +kernel
  refine n_arr 23 (y := (2, .inr (.inr (.inr (.inr (fun k => some ((fun k => ([h0, q0, q1, q2, q3, q4, q5, q6, q7, q8, q9, q10, q11, q12, q13, q14, q15, q16, q17, q18, q19, q20, q21, q22, q23, q24, q25, q26] : List Nat).getD k 0) (24 + 2 * k)))))))) rfl (vp_cg_q (fun j_ hj_ => ?_)) ?_
  · rcases (show j_ = 0 ∨ j_ = 1 by omega) with rfl | rfl <;> first | rfl | decide +kernel
  refine n_to (ws2 := wP G (fun k => ([h0, q0, q1, q2, q3, q4, q5, q6, q7, q8, q9, q10, q11, q12, q13, q14, q15, q16, q17, q18, q19, q20, q21, q22, q23, q24, q25, q26] : List Nat).getD k 0) zσ0 (3, upd (upd (upd (fun _ => 0) 0 1) 1 0) 2 0, fun _ => 0, fun _ => 0, fun _ _ => 0, fun _ => 0, fun _ => 0, fun _ => 0)) ?_ rfl
  exact n_ret (pc := 154) dX5_init_154 rfl rfl rfl ⟨(fun k => ([h0, q0, q1, q2, q3, q4, q5, q6, q7, q8, q9, q10, q11, q12, q13, q14, q15, q16, q17, q18, q19, q20, q21, q22, q23, q24, q25, q26] : List Nat).getD k 0), (3, upd (upd (upd (fun _ => 0) 0 1) 1 0) 2 0, fun _ => 0, fun _ => 0, fun _ _ => 0, fun _ => 0, fun _ => 0, fun _ => 0), rfl, rfl⟩
set_option maxRecDepth 100000 in
set_option maxHeartbeats 4000000 in
theorem i_X6 (l : Launch) (G : zG) (h0 : Nat) : zInit l G sX6_init h0 [(h0, .inr (6, [.null, .int 0, .null, .null, .int 0, .int 0, .int 0, .null, .int 0, .null, .null, .null, .null, .null, .null, .null, .null, .null, .long 0, .long 0, .long 0, .long 0, .long 0, .null, .null, .null, .null]))] (fun w => ∃ (ad : Nat → Nat) (y : zY), ad 0 = h0 ∧ w = wM G ad zσ0 y) 17 3240 := by
  refine nEnter (by decide) rfl rfl (by decide) ?_
  refine n_aload (pc := 0) dX6_init_0 ?_
  refine n_obj kobj_X6 (pc := 1) dX6_init_1 (Nat.le_of_ble_eq_true rfl) (Nat.le_of_ble_eq_true rfl) ?_
  refine n_aload (pc := 4) dX6_init_4 ?_
  refine n_iconst (v := 3) (pc := 5) dX6_init_5 (by decide +kernel) ?_
  refine n_newI (N := 3) (pc := 6) dX6_init_6 (by decide +kernel) (by decide +kernel) (by decide) (by decide) (by decide) (fun q0 => ?_)
  refine n_to (ws2 := [(h0, .inr (6, [.null, .int 0, .null, .null, .int 0, .int 0, .int 0, .null, .int 0, .null, .null, .null, .null, .null, .null, .null, .null, .null, .long 0, .long 0, .long 0, .long 0, .long 0, .null, .null, .null, .null])), (q0, .inl (zcI G, 3, .inl (fun _ => 0)))]) ?_ rfl
  refine n_put (q0 := 0) (ci := 6) (j := 0) rfl win_X6 tyX6_ok nmX6 (by decide) (pc := 8) dX6_init_8 kf_X6_7 (Or.inr ⟨rfl, rfl⟩) rfl rfl rfl rfl (Nat.le_of_ble_eq_true rfl) ?_
  refine n_aload (pc := 11) dX6_init_11 ?_
  refine n_iconst (v := 3) (pc := 12) dX6_init_12 (by decide +kernel) ?_
  refine n_put (q0 := 0) (ci := 6) (j := 1) rfl win_X6 tyX6_ok nmX6 (by decide) (pc := 13) dX6_init_13 kf_X6_13 (Or.inl rfl) rfl rfl rfl rfl (Nat.le_of_ble_eq_true rfl) ?_
  refine n_aload (pc := 16) dX6_init_16 ?_
  refine n_bipush (v := 72) (pc := 17) dX6_init_17 (by decide +kernel) ?_
  refine n_newI (N := 72) (pc := 19) dX6_init_19 (by decide +kernel) (by decide +kernel) (by decide) (by decide) (by decide) (fun q1 => ?_)
  refine n_to (ws2 := [(h0, .inr (6, [.ref q0, .int 3, .null, .null, .int 0, .int 0, .int 0, .null, .int 0, .null, .null, .null, .null, .null, .null, .null, .null, .null, .long 0, .long 0, .long 0, .long 0, .long 0, .null, .null, .null, .null])), (q0, .inl (zcI G, 3, .inl (fun _ => 0))), (q1, .inl (zcI G, 72, .inl (fun _ => 0)))]) ?_ rfl
  refine n_put (q0 := 0) (ci := 6) (j := 2) rfl win_X6 tyX6_ok nmX6 (by decide) (pc := 21) dX6_init_21 kf_X6_17 (Or.inr ⟨rfl, rfl⟩) rfl rfl rfl rfl (Nat.le_of_ble_eq_true rfl) ?_
  refine n_aload (pc := 24) dX6_init_24 ?_
  refine n_bipush (v := 72) (pc := 25) dX6_init_25 (by decide +kernel) ?_
  refine n_newI (N := 72) (pc := 27) dX6_init_27 (by decide +kernel) (by decide +kernel) (by decide) (by decide) (by decide) (fun q2 => ?_)
  refine n_to (ws2 := [(h0, .inr (6, [.ref q0, .int 3, .ref q1, .null, .int 0, .int 0, .int 0, .null, .int 0, .null, .null, .null, .null, .null, .null, .null, .null, .null, .long 0, .long 0, .long 0, .long 0, .long 0, .null, .null, .null, .null])), (q0, .inl (zcI G, 3, .inl (fun _ => 0))), (q1, .inl (zcI G, 72, .inl (fun _ => 0))), (q2, .inl (zcI G, 72, .inl (fun _ => 0)))]) ?_ rfl
  refine n_put (q0 := 0) (ci := 6) (j := 3) rfl win_X6 tyX6_ok nmX6 (by decide) (pc := 29) dX6_init_29 kf_X6_20 (Or.inr ⟨rfl, rfl⟩) rfl rfl rfl rfl (Nat.le_of_ble_eq_true rfl) ?_
  refine n_aload (pc := 32) dX6_init_32 ?_
  refine n_sipush (v := 1000) (pc := 33) dX6_init_33 (by decide +kernel) ?_
  refine n_put (q0 := 0) (ci := 6) (j := 4) rfl win_X6 tyX6_ok nmX6 (by decide) (pc := 36) dX6_init_36 kf_X6_23 (Or.inl rfl) rfl rfl rfl rfl (Nat.le_of_ble_eq_true rfl) ?_
  refine n_aload (pc := 39) dX6_init_39 ?_
  refine n_sipush (v := 3000) (pc := 40) dX6_init_40 (by decide +kernel) ?_
  refine n_put (q0 := 0) (ci := 6) (j := 5) rfl win_X6 tyX6_ok nmX6 (by decide) (pc := 43) dX6_init_43 kf_X6_26 (Or.inl rfl) rfl rfl rfl rfl (Nat.le_of_ble_eq_true rfl) ?_
  refine n_aload (pc := 46) dX6_init_46 ?_
  refine n_bipush (v := 60) (pc := 47) dX6_init_47 (by decide +kernel) ?_
  refine n_put (q0 := 0) (ci := 6) (j := 6) rfl win_X6 tyX6_ok nmX6 (by decide) (pc := 49) dX6_init_49 kf_X6_29 (Or.inl rfl) rfl rfl rfl rfl (Nat.le_of_ble_eq_true rfl) ?_
  refine n_aload (pc := 52) dX6_init_52 ?_
  refine n_bipush (v := 7) (pc := 53) dX6_init_53 (by decide +kernel) ?_
  refine n_newI (N := 7) (pc := 55) dX6_init_55 (by decide +kernel) (by decide +kernel) (by decide) (by decide) (by decide) (fun q3 => ?_)
  refine n_to (ws2 := [(h0, .inr (6, [.ref q0, .int 3, .ref q1, .ref q2, .int 1000, .int 3000, .int 60, .null, .int 0, .null, .null, .null, .null, .null, .null, .null, .null, .null, .long 0, .long 0, .long 0, .long 0, .long 0, .null, .null, .null, .null])), (q0, .inl (zcI G, 3, .inl (fun _ => 0))), (q1, .inl (zcI G, 72, .inl (fun _ => 0))), (q2, .inl (zcI G, 72, .inl (fun _ => 0))), (q3, .inl (zcI G, 7, .inl (fun _ => 0)))]) ?_ rfl
  refine n_put (q0 := 0) (ci := 6) (j := 7) rfl win_X6 tyX6_ok nmX6 (by decide) (pc := 57) dX6_init_57 kf_X6_32 (Or.inr ⟨rfl, rfl⟩) rfl rfl rfl rfl (Nat.le_of_ble_eq_true rfl) ?_
  refine n_aload (pc := 60) dX6_init_60 ?_
  refine n_bipush (v := 12) (pc := 61) dX6_init_61 (by decide +kernel) ?_
  refine n_newI (N := 12) (pc := 63) dX6_init_63 (by decide +kernel) (by decide +kernel) (by decide) (by decide) (by decide) (fun q4 => ?_)
  refine n_to (ws2 := [(h0, .inr (6, [.ref q0, .int 3, .ref q1, .ref q2, .int 1000, .int 3000, .int 60, .ref q3, .int 0, .null, .null, .null, .null, .null, .null, .null, .null, .null, .long 0, .long 0, .long 0, .long 0, .long 0, .null, .null, .null, .null])), (q0, .inl (zcI G, 3, .inl (fun _ => 0))), (q1, .inl (zcI G, 72, .inl (fun _ => 0))), (q2, .inl (zcI G, 72, .inl (fun _ => 0))), (q3, .inl (zcI G, 7, .inl (fun _ => 0))), (q4, .inl (zcI G, 12, .inl (fun _ => 0)))]) ?_ rfl
  refine n_put (q0 := 0) (ci := 6) (j := 9) rfl win_X6 tyX6_ok nmX6 (by decide) (pc := 65) dX6_init_65 kf_X6_35 (Or.inr ⟨rfl, rfl⟩) rfl rfl rfl rfl (Nat.le_of_ble_eq_true rfl) ?_
  refine n_aload (pc := 68) dX6_init_68 ?_
  refine n_bipush (v := 12) (pc := 69) dX6_init_69 (by decide +kernel) ?_
  refine n_newI (N := 12) (pc := 71) dX6_init_71 (by decide +kernel) (by decide +kernel) (by decide) (by decide) (by decide) (fun q5 => ?_)
  refine n_to (ws2 := [(h0, .inr (6, [.ref q0, .int 3, .ref q1, .ref q2, .int 1000, .int 3000, .int 60, .ref q3, .int 0, .ref q4, .null, .null, .null, .null, .null, .null, .null, .null, .long 0, .long 0, .long 0, .long 0, .long 0, .null, .null, .null, .null])), (q0, .inl (zcI G, 3, .inl (fun _ => 0))), (q1, .inl (zcI G, 72, .inl (fun _ => 0))), (q2, .inl (zcI G, 72, .inl (fun _ => 0))), (q3, .inl (zcI G, 7, .inl (fun _ => 0))), (q4, .inl (zcI G, 12, .inl (fun _ => 0))), (q5, .inl (zcI G, 12, .inl (fun _ => 0)))]) ?_ rfl
  refine n_put (q0 := 0) (ci := 6) (j := 10) rfl win_X6 tyX6_ok nmX6 (by decide) (pc := 73) dX6_init_73 kf_X6_38 (Or.inr ⟨rfl, rfl⟩) rfl rfl rfl rfl (Nat.le_of_ble_eq_true rfl) ?_
  refine n_aload (pc := 76) dX6_init_76 ?_
  refine n_iconst (v := 2) (pc := 77) dX6_init_77 (by decide +kernel) ?_
  refine n_newI (N := 2) (pc := 78) dX6_init_78 (by decide +kernel) (by decide +kernel) (by decide) (by decide) (by decide) (fun q6 => ?_)
  refine n_to (ws2 := [(h0, .inr (6, [.ref q0, .int 3, .ref q1, .ref q2, .int 1000, .int 3000, .int 60, .ref q3, .int 0, .ref q4, .ref q5, .null, .null, .null, .null, .null, .null, .null, .long 0, .long 0, .long 0, .long 0, .long 0, .null, .null, .null, .null])), (q0, .inl (zcI G, 3, .inl (fun _ => 0))), (q1, .inl (zcI G, 72, .inl (fun _ => 0))), (q2, .inl (zcI G, 72, .inl (fun _ => 0))), (q3, .inl (zcI G, 7, .inl (fun _ => 0))), (q4, .inl (zcI G, 12, .inl (fun _ => 0))), (q5, .inl (zcI G, 12, .inl (fun _ => 0))), (q6, .inl (zcI G, 2, .inl (fun _ => 0)))]) ?_ rfl
  refine n_put (q0 := 0) (ci := 6) (j := 11) rfl win_X6 tyX6_ok nmX6 (by decide) (pc := 80) dX6_init_80 kf_X6_41 (Or.inr ⟨rfl, rfl⟩) rfl rfl rfl rfl (Nat.le_of_ble_eq_true rfl) ?_
  refine n_aload (pc := 83) dX6_init_83 ?_
  refine n_bipush (v := 48) (pc := 84) dX6_init_84 (by decide +kernel) ?_
  refine n_newI (N := 48) (pc := 86) dX6_init_86 (by decide +kernel) (by decide +kernel) (by decide) (by decide) (by decide) (fun q7 => ?_)
  refine n_to (ws2 := [(h0, .inr (6, [.ref q0, .int 3, .ref q1, .ref q2, .int 1000, .int 3000, .int 60, .ref q3, .int 0, .ref q4, .ref q5, .ref q6, .null, .null, .null, .null, .null, .null, .long 0, .long 0, .long 0, .long 0, .long 0, .null, .null, .null, .null])), (q0, .inl (zcI G, 3, .inl (fun _ => 0))), (q1, .inl (zcI G, 72, .inl (fun _ => 0))), (q2, .inl (zcI G, 72, .inl (fun _ => 0))), (q3, .inl (zcI G, 7, .inl (fun _ => 0))), (q4, .inl (zcI G, 12, .inl (fun _ => 0))), (q5, .inl (zcI G, 12, .inl (fun _ => 0))), (q6, .inl (zcI G, 2, .inl (fun _ => 0))), (q7, .inl (zcI G, 48, .inl (fun _ => 0)))]) ?_ rfl
  refine n_put (q0 := 0) (ci := 6) (j := 12) rfl win_X6 tyX6_ok nmX6 (by decide) (pc := 88) dX6_init_88 kf_X6_44 (Or.inr ⟨rfl, rfl⟩) rfl rfl rfl rfl (Nat.le_of_ble_eq_true rfl) ?_
  refine n_aload (pc := 91) dX6_init_91 ?_
  refine n_bipush (v := 72) (pc := 92) dX6_init_92 (by decide +kernel) ?_
  refine n_newJ (N := 72) (pc := 94) dX6_init_94 (by decide +kernel) (by decide +kernel) (by decide) (by decide) (by decide) (fun q8 => ?_)
  refine n_to (ws2 := [(h0, .inr (6, [.ref q0, .int 3, .ref q1, .ref q2, .int 1000, .int 3000, .int 60, .ref q3, .int 0, .ref q4, .ref q5, .ref q6, .ref q7, .null, .null, .null, .null, .null, .long 0, .long 0, .long 0, .long 0, .long 0, .null, .null, .null, .null])), (q0, .inl (zcI G, 3, .inl (fun _ => 0))), (q1, .inl (zcI G, 72, .inl (fun _ => 0))), (q2, .inl (zcI G, 72, .inl (fun _ => 0))), (q3, .inl (zcI G, 7, .inl (fun _ => 0))), (q4, .inl (zcI G, 12, .inl (fun _ => 0))), (q5, .inl (zcI G, 12, .inl (fun _ => 0))), (q6, .inl (zcI G, 2, .inl (fun _ => 0))), (q7, .inl (zcI G, 48, .inl (fun _ => 0))), (q8, .inl (zcJ G, 72, .inr (.inl (fun _ => 0))))]) ?_ rfl
  refine n_put (q0 := 0) (ci := 6) (j := 13) rfl win_X6 tyX6_ok nmX6 (by decide) (pc := 96) dX6_init_96 kf_X6_47 (Or.inr ⟨rfl, rfl⟩) rfl rfl rfl rfl (Nat.le_of_ble_eq_true rfl) ?_
  refine n_aload (pc := 99) dX6_init_99 ?_
  refine n_bipush (v := 72) (pc := 100) dX6_init_100 (by decide +kernel) ?_
  refine n_newJ (N := 72) (pc := 102) dX6_init_102 (by decide +kernel) (by decide +kernel) (by decide) (by decide) (by decide) (fun q9 => ?_)
  refine n_to (ws2 := [(h0, .inr (6, [.ref q0, .int 3, .ref q1, .ref q2, .int 1000, .int 3000, .int 60, .ref q3, .int 0, .ref q4, .ref q5, .ref q6, .ref q7, .ref q8, .null, .null, .null, .null, .long 0, .long 0, .long 0, .long 0, .long 0, .null, .null, .null, .null])), (q0, .inl (zcI G, 3, .inl (fun _ => 0))), (q1, .inl (zcI G, 72, .inl (fun _ => 0))), (q2, .inl (zcI G, 72, .inl (fun _ => 0))), (q3, .inl (zcI G, 7, .inl (fun _ => 0))), (q4, .inl (zcI G, 12, .inl (fun _ => 0))), (q5, .inl (zcI G, 12, .inl (fun _ => 0))), (q6, .inl (zcI G, 2, .inl (fun _ => 0))), (q7, .inl (zcI G, 48, .inl (fun _ => 0))), (q8, .inl (zcJ G, 72, .inr (.inl (fun _ => 0)))), (q9, .inl (zcJ G, 72, .inr (.inl (fun _ => 0))))]) ?_ rfl
  refine n_put (q0 := 0) (ci := 6) (j := 14) rfl win_X6 tyX6_ok nmX6 (by decide) (pc := 104) dX6_init_104 kf_X6_51 (Or.inr ⟨rfl, rfl⟩) rfl rfl rfl rfl (Nat.le_of_ble_eq_true rfl) ?_
  refine n_aload (pc := 107) dX6_init_107 ?_
  refine n_bipush (v := 72) (pc := 108) dX6_init_108 (by decide +kernel) ?_
  refine n_newJ (N := 72) (pc := 110) dX6_init_110 (by decide +kernel) (by decide +kernel) (by decide) (by decide) (by decide) (fun q10 => ?_)
  refine n_to (ws2 := [(h0, .inr (6, [.ref q0, .int 3, .ref q1, .ref q2, .int 1000, .int 3000, .int 60, .ref q3, .int 0, .ref q4, .ref q5, .ref q6, .ref q7, .ref q8, .ref q9, .null, .null, .null, .long 0, .long 0, .long 0, .long 0, .long 0, .null, .null, .null, .null])), (q0, .inl (zcI G, 3, .inl (fun _ => 0))), (q1, .inl (zcI G, 72, .inl (fun _ => 0))), (q2, .inl (zcI G, 72, .inl (fun _ => 0))), (q3, .inl (zcI G, 7, .inl (fun _ => 0))), (q4, .inl (zcI G, 12, .inl (fun _ => 0))), (q5, .inl (zcI G, 12, .inl (fun _ => 0))), (q6, .inl (zcI G, 2, .inl (fun _ => 0))), (q7, .inl (zcI G, 48, .inl (fun _ => 0))), (q8, .inl (zcJ G, 72, .inr (.inl (fun _ => 0)))), (q9, .inl (zcJ G, 72, .inr (.inl (fun _ => 0)))), (q10, .inl (zcJ G, 72, .inr (.inl (fun _ => 0))))]) ?_ rfl
  refine n_put (q0 := 0) (ci := 6) (j := 15) rfl win_X6 tyX6_ok nmX6 (by decide) (pc := 112) dX6_init_112 kf_X6_54 (Or.inr ⟨rfl, rfl⟩) rfl rfl rfl rfl (Nat.le_of_ble_eq_true rfl) ?_
  refine n_aload (pc := 115) dX6_init_115 ?_
  refine n_bipush (v := 72) (pc := 116) dX6_init_116 (by decide +kernel) ?_
  refine n_newJ (N := 72) (pc := 118) dX6_init_118 (by decide +kernel) (by decide +kernel) (by decide) (by decide) (by decide) (fun q11 => ?_)
  refine n_to (ws2 := [(h0, .inr (6, [.ref q0, .int 3, .ref q1, .ref q2, .int 1000, .int 3000, .int 60, .ref q3, .int 0, .ref q4, .ref q5, .ref q6, .ref q7, .ref q8, .ref q9, .ref q10, .null, .null, .long 0, .long 0, .long 0, .long 0, .long 0, .null, .null, .null, .null])), (q0, .inl (zcI G, 3, .inl (fun _ => 0))), (q1, .inl (zcI G, 72, .inl (fun _ => 0))), (q2, .inl (zcI G, 72, .inl (fun _ => 0))), (q3, .inl (zcI G, 7, .inl (fun _ => 0))), (q4, .inl (zcI G, 12, .inl (fun _ => 0))), (q5, .inl (zcI G, 12, .inl (fun _ => 0))), (q6, .inl (zcI G, 2, .inl (fun _ => 0))), (q7, .inl (zcI G, 48, .inl (fun _ => 0))), (q8, .inl (zcJ G, 72, .inr (.inl (fun _ => 0)))), (q9, .inl (zcJ G, 72, .inr (.inl (fun _ => 0)))), (q10, .inl (zcJ G, 72, .inr (.inl (fun _ => 0)))), (q11, .inl (zcJ G, 72, .inr (.inl (fun _ => 0))))]) ?_ rfl
  refine n_put (q0 := 0) (ci := 6) (j := 16) rfl win_X6 tyX6_ok nmX6 (by decide) (pc := 120) dX6_init_120 kf_X6_57 (Or.inr ⟨rfl, rfl⟩) rfl rfl rfl rfl (Nat.le_of_ble_eq_true rfl) ?_
  refine n_aload (pc := 123) dX6_init_123 ?_
  refine n_bipush (v := 72) (pc := 124) dX6_init_124 (by decide +kernel) ?_
  refine n_newJ (N := 72) (pc := 126) dX6_init_126 (by decide +kernel) (by decide +kernel) (by decide) (by decide) (by decide) (fun q12 => ?_)
  refine n_to (ws2 := [(h0, .inr (6, [.ref q0, .int 3, .ref q1, .ref q2, .int 1000, .int 3000, .int 60, .ref q3, .int 0, .ref q4, .ref q5, .ref q6, .ref q7, .ref q8, .ref q9, .ref q10, .ref q11, .null, .long 0, .long 0, .long 0, .long 0, .long 0, .null, .null, .null, .null])), (q0, .inl (zcI G, 3, .inl (fun _ => 0))), (q1, .inl (zcI G, 72, .inl (fun _ => 0))), (q2, .inl (zcI G, 72, .inl (fun _ => 0))), (q3, .inl (zcI G, 7, .inl (fun _ => 0))), (q4, .inl (zcI G, 12, .inl (fun _ => 0))), (q5, .inl (zcI G, 12, .inl (fun _ => 0))), (q6, .inl (zcI G, 2, .inl (fun _ => 0))), (q7, .inl (zcI G, 48, .inl (fun _ => 0))), (q8, .inl (zcJ G, 72, .inr (.inl (fun _ => 0)))), (q9, .inl (zcJ G, 72, .inr (.inl (fun _ => 0)))), (q10, .inl (zcJ G, 72, .inr (.inl (fun _ => 0)))), (q11, .inl (zcJ G, 72, .inr (.inl (fun _ => 0)))), (q12, .inl (zcJ G, 72, .inr (.inl (fun _ => 0))))]) ?_ rfl
  refine n_put (q0 := 0) (ci := 6) (j := 17) rfl win_X6 tyX6_ok nmX6 (by decide) (pc := 128) dX6_init_128 kf_X6_60 (Or.inr ⟨rfl, rfl⟩) rfl rfl rfl rfl (Nat.le_of_ble_eq_true rfl) ?_
  refine n_aload (pc := 131) dX6_init_131 ?_
  refine n_iconst (v := 3) (pc := 132) dX6_init_132 (by decide +kernel) ?_
  refine n_newI (N := 3) (pc := 133) dX6_init_133 (by decide +kernel) (by decide +kernel) (by decide) (by decide) (by decide) (fun q13 => ?_)
  refine n_to (ws2 := [(h0, .inr (6, [.ref q0, .int 3, .ref q1, .ref q2, .int 1000, .int 3000, .int 60, .ref q3, .int 0, .ref q4, .ref q5, .ref q6, .ref q7, .ref q8, .ref q9, .ref q10, .ref q11, .ref q12, .long 0, .long 0, .long 0, .long 0, .long 0, .null, .null, .null, .null])), (q0, .inl (zcI G, 3, .inl (fun _ => 0))), (q1, .inl (zcI G, 72, .inl (fun _ => 0))), (q2, .inl (zcI G, 72, .inl (fun _ => 0))), (q3, .inl (zcI G, 7, .inl (fun _ => 0))), (q4, .inl (zcI G, 12, .inl (fun _ => 0))), (q5, .inl (zcI G, 12, .inl (fun _ => 0))), (q6, .inl (zcI G, 2, .inl (fun _ => 0))), (q7, .inl (zcI G, 48, .inl (fun _ => 0))), (q8, .inl (zcJ G, 72, .inr (.inl (fun _ => 0)))), (q9, .inl (zcJ G, 72, .inr (.inl (fun _ => 0)))), (q10, .inl (zcJ G, 72, .inr (.inl (fun _ => 0)))), (q11, .inl (zcJ G, 72, .inr (.inl (fun _ => 0)))), (q12, .inl (zcJ G, 72, .inr (.inl (fun _ => 0)))), (q13, .inl (zcI G, 3, .inl (fun _ => 0)))]) ?_ rfl
  refine n_put (q0 := 0) (ci := 6) (j := 23) rfl win_X6 tyX6_ok nmX6 (by decide) (pc := 135) dX6_init_135 kf_X6_63 (Or.inr ⟨rfl, rfl⟩) rfl rfl rfl rfl (Nat.le_of_ble_eq_true rfl) ?_
  refine n_aload (pc := 138) dX6_init_138 ?_
  refine n_sipush (v := 2613) (pc := 139) dX6_init_139 (by decide +kernel) ?_
  refine n_newI (N := 2613) (pc := 142) dX6_init_142 (by decide +kernel) (by decide +kernel) (by decide) (by decide) (by decide) (fun q14 => ?_)
  refine n_to (ws2 := [(h0, .inr (6, [.ref q0, .int 3, .ref q1, .ref q2, .int 1000, .int 3000, .int 60, .ref q3, .int 0, .ref q4, .ref q5, .ref q6, .ref q7, .ref q8, .ref q9, .ref q10, .ref q11, .ref q12, .long 0, .long 0, .long 0, .long 0, .long 0, .ref q13, .null, .null, .null])), (q0, .inl (zcI G, 3, .inl (fun _ => 0))), (q1, .inl (zcI G, 72, .inl (fun _ => 0))), (q2, .inl (zcI G, 72, .inl (fun _ => 0))), (q3, .inl (zcI G, 7, .inl (fun _ => 0))), (q4, .inl (zcI G, 12, .inl (fun _ => 0))), (q5, .inl (zcI G, 12, .inl (fun _ => 0))), (q6, .inl (zcI G, 2, .inl (fun _ => 0))), (q7, .inl (zcI G, 48, .inl (fun _ => 0))), (q8, .inl (zcJ G, 72, .inr (.inl (fun _ => 0)))), (q9, .inl (zcJ G, 72, .inr (.inl (fun _ => 0)))), (q10, .inl (zcJ G, 72, .inr (.inl (fun _ => 0)))), (q11, .inl (zcJ G, 72, .inr (.inl (fun _ => 0)))), (q12, .inl (zcJ G, 72, .inr (.inl (fun _ => 0)))), (q13, .inl (zcI G, 3, .inl (fun _ => 0))), (q14, .inl (zcI G, 2613, .inl (fun _ => 0)))]) ?_ rfl
  refine n_put (q0 := 0) (ci := 6) (j := 24) rfl win_X6 tyX6_ok nmX6 (by decide) (pc := 144) dX6_init_144 kf_X6_66 (Or.inr ⟨rfl, rfl⟩) rfl rfl rfl rfl (Nat.le_of_ble_eq_true rfl) ?_
  refine n_aload (pc := 147) dX6_init_147 ?_
  refine n_bipush (v := 12) (pc := 148) dX6_init_148 (by decide +kernel) ?_
  refine n_newI (N := 12) (pc := 150) dX6_init_150 (by decide +kernel) (by decide +kernel) (by decide) (by decide) (by decide) (fun q15 => ?_)
  refine n_to (ws2 := [(h0, .inr (6, [.ref q0, .int 3, .ref q1, .ref q2, .int 1000, .int 3000, .int 60, .ref q3, .int 0, .ref q4, .ref q5, .ref q6, .ref q7, .ref q8, .ref q9, .ref q10, .ref q11, .ref q12, .long 0, .long 0, .long 0, .long 0, .long 0, .ref q13, .ref q14, .null, .null])), (q0, .inl (zcI G, 3, .inl (fun _ => 0))), (q1, .inl (zcI G, 72, .inl (fun _ => 0))), (q2, .inl (zcI G, 72, .inl (fun _ => 0))), (q3, .inl (zcI G, 7, .inl (fun _ => 0))), (q4, .inl (zcI G, 12, .inl (fun _ => 0))), (q5, .inl (zcI G, 12, .inl (fun _ => 0))), (q6, .inl (zcI G, 2, .inl (fun _ => 0))), (q7, .inl (zcI G, 48, .inl (fun _ => 0))), (q8, .inl (zcJ G, 72, .inr (.inl (fun _ => 0)))), (q9, .inl (zcJ G, 72, .inr (.inl (fun _ => 0)))), (q10, .inl (zcJ G, 72, .inr (.inl (fun _ => 0)))), (q11, .inl (zcJ G, 72, .inr (.inl (fun _ => 0)))), (q12, .inl (zcJ G, 72, .inr (.inl (fun _ => 0)))), (q13, .inl (zcI G, 3, .inl (fun _ => 0))), (q14, .inl (zcI G, 2613, .inl (fun _ => 0))), (q15, .inl (zcI G, 12, .inl (fun _ => 0)))]) ?_ rfl
  refine n_put (q0 := 0) (ci := 6) (j := 25) rfl win_X6 tyX6_ok nmX6 (by decide) (pc := 152) dX6_init_152 kf_X6_69 (Or.inr ⟨rfl, rfl⟩) rfl rfl rfl rfl (Nat.le_of_ble_eq_true rfl) ?_
  refine n_aload (pc := 155) dX6_init_155 ?_
  refine n_bipush (v := 24) (pc := 156) dX6_init_156 (by decide +kernel) ?_
  refine n_newI (N := 24) (pc := 158) dX6_init_158 (by decide +kernel) (by decide +kernel) (by decide) (by decide) (by decide) (fun q16 => ?_)
  refine n_to (ws2 := [(h0, .inr (6, [.ref q0, .int 3, .ref q1, .ref q2, .int 1000, .int 3000, .int 60, .ref q3, .int 0, .ref q4, .ref q5, .ref q6, .ref q7, .ref q8, .ref q9, .ref q10, .ref q11, .ref q12, .long 0, .long 0, .long 0, .long 0, .long 0, .ref q13, .ref q14, .ref q15, .null])), (q0, .inl (zcI G, 3, .inl (fun _ => 0))), (q1, .inl (zcI G, 72, .inl (fun _ => 0))), (q2, .inl (zcI G, 72, .inl (fun _ => 0))), (q3, .inl (zcI G, 7, .inl (fun _ => 0))), (q4, .inl (zcI G, 12, .inl (fun _ => 0))), (q5, .inl (zcI G, 12, .inl (fun _ => 0))), (q6, .inl (zcI G, 2, .inl (fun _ => 0))), (q7, .inl (zcI G, 48, .inl (fun _ => 0))), (q8, .inl (zcJ G, 72, .inr (.inl (fun _ => 0)))), (q9, .inl (zcJ G, 72, .inr (.inl (fun _ => 0)))), (q10, .inl (zcJ G, 72, .inr (.inl (fun _ => 0)))), (q11, .inl (zcJ G, 72, .inr (.inl (fun _ => 0)))), (q12, .inl (zcJ G, 72, .inr (.inl (fun _ => 0)))), (q13, .inl (zcI G, 3, .inl (fun _ => 0))), (q14, .inl (zcI G, 2613, .inl (fun _ => 0))), (q15, .inl (zcI G, 12, .inl (fun _ => 0))), (q16, .inl (zcI G, 24, .inl (fun _ => 0)))]) ?_ rfl
  refine n_put (q0 := 0) (ci := 6) (j := 26) rfl win_X6 tyX6_ok nmX6 (by decide) (pc := 160) dX6_init_160 kf_X6_72 (Or.inr ⟨rfl, rfl⟩) rfl rfl rfl rfl (Nat.le_of_ble_eq_true rfl) ?_
  refine n_aload (pc := 163) dX6_init_163 ?_
  refine n_get (q0 := 0) (ci := 6) (j := 0) rfl win_X6 (by decide) (pc := 164) dX6_init_164 kf_X6_7 rfl rfl ?_
  refine n_iconst (v := 0) (pc := 167) dX6_init_167 (by decide +kernel) ?_
  refine n_iconst (v := 1) (pc := 168) dX6_init_168 (by decide +kernel) ?_
  refine n_iast (q0 := 1) (j := 0) (pc := 169) dX6_init_169 rfl (by unfold vp_in; decide +kernel) (by decide +kernel) ?_
  refine n_aload (pc := 170) dX6_init_170 ?_
  refine n_get (q0 := 0) (ci := 6) (j := 7) rfl win_X6 (by decide) (pc := 171) dX6_init_171 kf_X6_32 rfl rfl ?_
  refine n_iconst (v := 1) (pc := 174) dX6_init_174 (by decide +kernel) ?_
  refine n_sipush (v := 9999) (pc := 175) dX6_init_175 (by decide +kernel) ?_
  refine n_iast (q0 := 4) (j := 1) (pc := 178) dX6_init_178 rfl (by unfold vp_in; decide +kernel) (by decide +kernel) ?_
  refine n_aload (pc := 179) dX6_init_179 ?_
  refine n_get (q0 := 0) (ci := 6) (j := 7) rfl win_X6 (by decide) (pc := 180) dX6_init_180 kf_X6_32 rfl rfl ?_
  refine n_iconst (v := 3) (pc := 183) dX6_init_183 (by decide +kernel) ?_
  refine n_bipush (v := 100) (pc := 184) dX6_init_184 (by decide +kernel) ?_
  refine n_iast (q0 := 4) (j := 3) (pc := 186) dX6_init_186 rfl (by unfold vp_in; decide +kernel) (by decide +kernel) ?_
  refine n_aload (pc := 187) dX6_init_187 ?_
  refine n_get (q0 := 0) (ci := 6) (j := 7) rfl win_X6 (by decide) (pc := 188) dX6_init_188 kf_X6_32 rfl rfl ?_
  refine n_iconst (v := 5) (pc := 191) dX6_init_191 (by decide +kernel) ?_
  refine n_bipush (v := 100) (pc := 192) dX6_init_192 (by decide +kernel) ?_
  refine n_iast (q0 := 4) (j := 5) (pc := 194) dX6_init_194 rfl (by unfold vp_in; decide +kernel) (by decide +kernel) ?_
  refine n_aload (pc := 195) dX6_init_195 ?_
  refine n_get (q0 := 0) (ci := 6) (j := 7) rfl win_X6 (by decide) (pc := 196) dX6_init_196 kf_X6_32 rfl rfl ?_
  refine n_bipush (v := 6) (pc := 199) dX6_init_199 (by decide +kernel) ?_
  refine n_bipush (v := 10) (pc := 201) dX6_init_201 (by decide +kernel) ?_
  refine n_iast (q0 := 4) (j := 6) (pc := 203) dX6_init_203 rfl (by unfold vp_in; decide +kernel) (by decide +kernel) ?_
  refine n_aload (pc := 204) dX6_init_204 ?_
  refine n_get (q0 := 0) (ci := 6) (j := 11) rfl win_X6 (by decide) (pc := 205) dX6_init_205 kf_X6_41 rfl rfl ?_
  refine n_iconst (v := 0) (pc := 208) dX6_init_208 (by decide +kernel) ?_
  refine n_iconst (v := -1) (pc := 209) dX6_init_209 (by decide +kernel) ?_
  refine n_iast (q0 := 7) (j := 0) (pc := 210) dX6_init_210 rfl (by unfold vp_in; decide +kernel) (by decide +kernel) ?_
  refine n_aload (pc := 211) dX6_init_211 ?_
  refine n_get (q0 := 0) (ci := 6) (j := 11) rfl win_X6 (by decide) (pc := 212) dX6_init_212 kf_X6_41 rfl rfl ?_
  refine n_iconst (v := 1) (pc := 215) dX6_init_215 (by decide +kernel) ?_
  refine n_iconst (v := -1) (pc := 216) dX6_init_216 (by decide +kernel) ?_
  refine n_iast (q0 := 7) (j := 1) (pc := 217) dX6_init_217 rfl (by unfold vp_in; decide +kernel) (by decide +kernel) ?_
  refine n_arr 1 (y := (3, .inl (fun k => nI (zσ0.2.1 0 k)))) rfl (vp_cg_i (fun j_ hj_ => ?_)) ?_
  · rcases (show j_ = 0 ∨ j_ = 1 ∨ j_ = 2 by omega) with rfl | rfl | rfl <;> first | rfl | decide +kernel
  refine n_arr 4 (y := (7, .inl (fun k => nI (zσ0.2.1 3 k)))) rfl (vp_cg_i (fun j_ hj_ => ?_)) ?_
  · rcases (show j_ = 0 ∨ j_ = 1 ∨ j_ = 2 ∨ j_ = 3 ∨ j_ = 4 ∨ j_ = 5 ∨ j_ = 6 by omega) with rfl | rfl | rfl | rfl | rfl | rfl | rfl <;> first | rfl | decide +kernel
  refine n_arr 7 (y := (2, .inl zσ0.2.2.1)) rfl (vp_cg_i (fun j_ hj_ => ?_)) ?_
  · rcases (show j_ = 0 ∨ j_ = 1 by omega) with rfl | rfl <;> first | rfl | decide +kernel
  refine n_to (ws2 := wM G (fun k => ([h0, q0, q1, q2, q3, q4, q5, q6, q7, q8, q9, q10, q11, q12, q13, q14, q15, q16] : List Nat).getD k 0) zσ0 (fun _ => 0, fun _ _ => 0, fun _ => 0, fun _ => 0, fun _ => 0, fun _ => 0, fun _ => 0)) ?_ rfl
  exact n_ret (pc := 218) dX6_init_218 rfl rfl rfl ⟨(fun k => ([h0, q0, q1, q2, q3, q4, q5, q6, q7, q8, q9, q10, q11, q12, q13, q14, q15, q16] : List Nat).getD k 0), (fun _ => 0, fun _ _ => 0, fun _ => 0, fun _ => 0, fun _ => 0, fun _ => 0, fun _ => 0), rfl, rfl⟩
