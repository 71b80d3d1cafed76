/-! The plant: plans, the tank. -/
abbrev zNσ (σ : zσ) (c : Nat) : Nat := zN (σ.2.1 4) (σ.2.1 5) (σ.2.1 3 5) (σ.2.1 3 6) 12 c
abbrev zIsP (σ : zσ) (c : Nat) : Prop := ¬ (1073741824 : Int32) ≤ nI (zNσ σ c)
def o_plan (σ : zσ) (x : Int32) : Int64 × zσ := (if zOR x 0 (nI (σ.2.1 3 5)) then zBAD else if zIsP σ x.toNatClampNeg then (nI (zNσ σ x.toNatClampNeg) >>> (12 &&& 31)).toInt64 else zNO, σ)
def o_runs (σ : zσ) (x : Int32) : Int64 × zσ := (if zOR x 0 (nI (σ.2.1 3 5)) then zBAD else if zIsP σ x.toNatClampNeg then (zBitsOf (nI (zNσ σ x.toNatClampNeg)) 12).toInt64 else zNO, σ)
def zHeld (σ : zσ) (c : Nat) : Nat → Int32
  | 0 => nI c
  | i + 1 => zBh (nI (σ.2.1 5 i)) (zHeld σ c i + (if zRunsAt (nI (zNσ σ c)) (nI i) then nI (σ.2.1 3 6) else 0)) (nI (σ.2.1 3 5))
def o_tank (σ : zσ) (x h : Int32) : Int64 × zσ := (if zOR x 0 (nI (σ.2.1 3 5)) ∨ zOR h 0 11 then zBAD else if ¬ zIsP σ x.toNatClampNeg then zNO else (zHeld σ x.toNatClampNeg (h.toNatClampNeg + 1)).toInt64, σ)
theorem zrangeT {σ : zσ} (hσ : zOk σ) {x : Int32} (h : ¬ zOR x 0 (nI (σ.2.1 3 5))) : ∃ k, k ≤ σ.2.1 3 5 ∧ x = nI k := by
  have h5 : σ.2.1 3 5 ≤ 200 := (hσ.2.2.2.2.2.2.2.2.2.1 5 (by decide)).2
  exact zrange (by omega) rfl h
set_option maxRecDepth 100000 in
set_option maxHeartbeats 4000000 in
theorem p_plan (l : Launch) (G : zG) (ad : Nat → Nat) (σ : zσ) (x0 : zX) (hσ : zOk σ) (x : Int32) : zSem l G sX5_plan [.ref (ad 0), .int x] (wP G ad σ x0) (zPost G ad (o_plan σ x)) := by
  refine zEnterV (L := [some (.ref (ad 0)), some (.int x), none]) (by decide) rfl (Nat.le_of_ble_eq_true rfl) rfl ?_
  refine a_iload_1 (pc := 0) dX5_plan_0 ?_
  refine a_iconst (v := 0) (pc := 1) dX5_plan_1 (by decide) ?_
  refine a_aload_0 (pc := 2) dX5_plan_2 ?_
  refine a_getf (ci := 5) (j := 0) rfl win_X5 (by decide) (pc := 3) dX5_plan_3 kf_X5_9 rfl rfl ?_
  refine a_iconst (v := 5) (pc := 6) dX5_plan_6 (by decide) ?_
  refine a_ialdN (k := 5) (pc := 7) dX5_plan_7 rfl (by omega) (by decide) ?_
  refine cS_P (S2 := sX5_outside) (c_outside l G _ _ _) kc_X5_outside km_X5_64 ks_X5_outside kini_X5 ⟨kn_X5_outside, by decide, by decide⟩ (pc := 8) dX5_plan_8 [] rfl rfl rfl rfl (Nat.le_of_ble_eq_true rfl) ?_
  first | refine a_if_eqB (tgt := 18) (pc := 11) dX5_plan_11 (by decide) (fun c_11 => ?_) (fun c_11 => ?_) | refine a_if_eq (tgt := 18) (pc := 11) dX5_plan_11 (by decide) (fun c_11 => ?_) (fun c_11 => ?_)
  · obtain ⟨k, hk_, rfl⟩ := zrangeT hσ c_11
    have h5_ : σ.2.1 3 5 ≤ 200 := (hσ.2.2.2.2.2.2.2.2.2.1 5 (by decide)).2
    refine a_aload_0 (pc := 18) dX5_plan_18 ?_
    refine a_getf (ci := 5) (j := 5) rfl win_X5 (by decide) (pc := 19) dX5_plan_19 kf_X5_40 rfl rfl ?_
    refine a_iload_1 (pc := 22) dX5_plan_22 ?_
    refine a_aload_0 (pc := 23) dX5_plan_23 ?_
    refine a_getf (ci := 5) (j := 0) rfl win_X5 (by decide) (pc := 24) dX5_plan_24 kf_X5_9 rfl rfl ?_
    refine a_iconst (v := 5) (pc := 27) dX5_plan_27 (by decide) ?_
    refine a_ialdN (k := 5) (pc := 28) dX5_plan_28 rfl (by omega) (by decide) ?_
    refine a_aload_0 (pc := 29) dX5_plan_29 ?_
    refine a_getf (ci := 5) (j := 0) rfl win_X5 (by decide) (pc := 30) dX5_plan_30 kf_X5_9 rfl rfl ?_
    refine a_bipush (v := 6) (pc := 33) dX5_plan_33 (by decide) ?_
    refine a_ialdN (k := 6) (pc := 35) dX5_plan_35 rfl (by omega) (by decide) ?_
    refine cV_V (ad := ad) (q0 := 18) (S2 := sX1_best) (c_best l G (zpk ad [18, 19, 20, 21, 22]) (fun k => nI (σ.2.1 4 k)) (fun k => nI (σ.2.1 5 k)) x0.2.2.2.2.2.2.1 x0.2.2.2.2.2.2.2 (σ.2.1 4) (σ.2.1 5) (fun h hh => ⟨rfl, hσ.2.2.2.2.2.2.2.2.2.2.1 h hh⟩) (fun h hh => ⟨rfl, hσ.2.2.2.2.2.2.2.2.2.2.2.1 h hh⟩) (σ.2.1 3 5) (σ.2.1 3 6) (hσ.2.2.2.2.2.2.2.2.2.1 5 (by decide)).2 (hσ.2.2.2.2.2.2.2.2.2.1 6 (by decide)).2 k hk_) kc_X1_best km_X5_232 ki_X1_best kv_X1_best kini_X1 ⟨kn_X1_best, by decide, by decide⟩ (pc := 36) dX5_plan_36 [18, 19, 20, 21, 22] rfl rfl rfl rfl (Nat.le_of_ble_eq_true rfl) rfl rfl rfl (fun u => wP G ad σ (x0.1, x0.2.1, x0.2.2.1, x0.2.2.2.1, x0.2.2.2.2.1, x0.2.2.2.2.2.1, u.1, u.2)) (fun _ => rfl) (fun u_ _ => ?_)
    refine a_istore_2 (pc := 39) dX5_plan_39 rfl (by decide) ?_
    refine a_iload_2 (pc := 40) dX5_plan_40 ?_
    refine cS_P (S2 := sX1_isPlan) (c_isPlan l G _) kc_X1_isPlan km_X5_236 ks_X1_isPlan kini_X1 ⟨kn_X1_isPlan, by decide, by decide⟩ (pc := 41) dX5_plan_41 [] rfl rfl rfl rfl (Nat.le_of_ble_eq_true rfl) ?_
    first | refine a_if_eqB (tgt := 55) (pc := 44) dX5_plan_44 (by decide) (fun c_44 => ?_) (fun c_44 => ?_) | refine a_if_eq (tgt := 55) (pc := 44) dX5_plan_44 (by decide) (fun c_44 => ?_) (fun c_44 => ?_)
    · refine a_ldc2 (pc := 55) dX5_plan_55 kl_X5_109 ?_
      exact a_lret (pc := 58) dX5_plan_58 rfl rfl (by first | exact zret' (x0.1, x0.2.1, x0.2.2.1, x0.2.2.2.1, x0.2.2.2.2.1, x0.2.2.2.2.2.1, u_.1, u_.2) (by unfold o_plan; rw [if_neg c_11, nI_clamp (by omega), if_pos c_44]) rfl | exact zret' (x0.1, x0.2.1, x0.2.2.1, x0.2.2.2.1, x0.2.2.2.2.1, x0.2.2.2.2.2.1, u_.1, u_.2) (by unfold o_plan; rw [if_neg c_11, nI_clamp (by omega), if_neg c_44]) rfl)
    · refine a_iload_2 (pc := 47) dX5_plan_47 ?_
      refine cS_P (S2 := sX1_costOf) (c_costOf l G _) kc_X1_costOf km_X5_239 ks_X1_costOf kini_X1 ⟨kn_X1_costOf, by decide, by decide⟩ (pc := 48) dX5_plan_48 [] rfl rfl rfl rfl (Nat.le_of_ble_eq_true rfl) ?_
      refine a_i2l (pc := 51) dX5_plan_51 ?_
      refine a_goto (tgt := 58) (pc := 52) dX5_plan_52 (by decide) ?_
      exact a_lret (pc := 58) dX5_plan_58 rfl rfl (by first | exact zret' (x0.1, x0.2.1, x0.2.2.1, x0.2.2.2.1, x0.2.2.2.2.1, x0.2.2.2.2.2.1, u_.1, u_.2) (by unfold o_plan; rw [if_neg c_11, nI_clamp (by omega), if_pos c_44]) rfl | exact zret' (x0.1, x0.2.1, x0.2.2.1, x0.2.2.2.1, x0.2.2.2.2.1, x0.2.2.2.2.2.1, u_.1, u_.2) (by unfold o_plan; rw [if_neg c_11, nI_clamp (by omega), if_neg c_44]) rfl)
  · refine a_ldc2 (pc := 14) dX5_plan_14 kl_X5_68 ?_
    exact a_lret (pc := 17) dX5_plan_17 rfl rfl (zret' x0 (by unfold o_plan; rw [if_pos c_11]) rfl)

set_option maxRecDepth 100000 in
set_option maxHeartbeats 4000000 in
theorem p_runs (l : Launch) (G : zG) (ad : Nat → Nat) (σ : zσ) (x0 : zX) (hσ : zOk σ) (x : Int32) : zSem l G sX5_runs [.ref (ad 0), .int x] (wP G ad σ x0) (zPost G ad (o_runs σ x)) := by
  refine zEnterV (L := [some (.ref (ad 0)), some (.int x), none]) (by decide) rfl (Nat.le_of_ble_eq_true rfl) rfl ?_
  refine a_iload_1 (pc := 0) dX5_runs_0 ?_
  refine a_iconst (v := 0) (pc := 1) dX5_runs_1 (by decide) ?_
  refine a_aload_0 (pc := 2) dX5_runs_2 ?_
  refine a_getf (ci := 5) (j := 0) rfl win_X5 (by decide) (pc := 3) dX5_runs_3 kf_X5_9 rfl rfl ?_
  refine a_iconst (v := 5) (pc := 6) dX5_runs_6 (by decide) ?_
  refine a_ialdN (k := 5) (pc := 7) dX5_runs_7 rfl (by omega) (by decide) ?_
  refine cS_P (S2 := sX5_outside) (c_outside l G _ _ _) kc_X5_outside km_X5_64 ks_X5_outside kini_X5 ⟨kn_X5_outside, by decide, by decide⟩ (pc := 8) dX5_runs_8 [] rfl rfl rfl rfl (Nat.le_of_ble_eq_true rfl) ?_
  first | refine a_if_eqB (tgt := 18) (pc := 11) dX5_runs_11 (by decide) (fun c_11 => ?_) (fun c_11 => ?_) | refine a_if_eq (tgt := 18) (pc := 11) dX5_runs_11 (by decide) (fun c_11 => ?_) (fun c_11 => ?_)
  · obtain ⟨k, hk_, rfl⟩ := zrangeT hσ c_11
    have h5_ : σ.2.1 3 5 ≤ 200 := (hσ.2.2.2.2.2.2.2.2.2.1 5 (by decide)).2
    refine a_aload_0 (pc := 18) dX5_runs_18 ?_
    refine a_getf (ci := 5) (j := 5) rfl win_X5 (by decide) (pc := 19) dX5_runs_19 kf_X5_40 rfl rfl ?_
    refine a_iload_1 (pc := 22) dX5_runs_22 ?_
    refine a_aload_0 (pc := 23) dX5_runs_23 ?_
    refine a_getf (ci := 5) (j := 0) rfl win_X5 (by decide) (pc := 24) dX5_runs_24 kf_X5_9 rfl rfl ?_
    refine a_iconst (v := 5) (pc := 27) dX5_runs_27 (by decide) ?_
    refine a_ialdN (k := 5) (pc := 28) dX5_runs_28 rfl (by omega) (by decide) ?_
    refine a_aload_0 (pc := 29) dX5_runs_29 ?_
    refine a_getf (ci := 5) (j := 0) rfl win_X5 (by decide) (pc := 30) dX5_runs_30 kf_X5_9 rfl rfl ?_
    refine a_bipush (v := 6) (pc := 33) dX5_runs_33 (by decide) ?_
    refine a_ialdN (k := 6) (pc := 35) dX5_runs_35 rfl (by omega) (by decide) ?_
    refine cV_V (ad := ad) (q0 := 18) (S2 := sX1_best) (c_best l G (zpk ad [18, 19, 20, 21, 22]) (fun k => nI (σ.2.1 4 k)) (fun k => nI (σ.2.1 5 k)) x0.2.2.2.2.2.2.1 x0.2.2.2.2.2.2.2 (σ.2.1 4) (σ.2.1 5) (fun h hh => ⟨rfl, hσ.2.2.2.2.2.2.2.2.2.2.1 h hh⟩) (fun h hh => ⟨rfl, hσ.2.2.2.2.2.2.2.2.2.2.2.1 h hh⟩) (σ.2.1 3 5) (σ.2.1 3 6) (hσ.2.2.2.2.2.2.2.2.2.1 5 (by decide)).2 (hσ.2.2.2.2.2.2.2.2.2.1 6 (by decide)).2 k hk_) kc_X1_best km_X5_232 ki_X1_best kv_X1_best kini_X1 ⟨kn_X1_best, by decide, by decide⟩ (pc := 36) dX5_runs_36 [18, 19, 20, 21, 22] rfl rfl rfl rfl (Nat.le_of_ble_eq_true rfl) rfl rfl rfl (fun u => wP G ad σ (x0.1, x0.2.1, x0.2.2.1, x0.2.2.2.1, x0.2.2.2.2.1, x0.2.2.2.2.2.1, u.1, u.2)) (fun _ => rfl) (fun u_ _ => ?_)
    refine a_istore_2 (pc := 39) dX5_runs_39 rfl (by decide) ?_
    refine a_iload_2 (pc := 40) dX5_runs_40 ?_
    refine cS_P (S2 := sX1_isPlan) (c_isPlan l G _) kc_X1_isPlan km_X5_236 ks_X1_isPlan kini_X1 ⟨kn_X1_isPlan, by decide, by decide⟩ (pc := 41) dX5_runs_41 [] rfl rfl rfl rfl (Nat.le_of_ble_eq_true rfl) ?_
    first | refine a_if_eqB (tgt := 55) (pc := 44) dX5_runs_44 (by decide) (fun c_44 => ?_) (fun c_44 => ?_) | refine a_if_eq (tgt := 55) (pc := 44) dX5_runs_44 (by decide) (fun c_44 => ?_) (fun c_44 => ?_)
    · refine a_ldc2 (pc := 55) dX5_runs_55 kl_X5_109 ?_
      exact a_lret (pc := 58) dX5_runs_58 rfl rfl (by first | exact zret' (x0.1, x0.2.1, x0.2.2.1, x0.2.2.2.1, x0.2.2.2.2.1, x0.2.2.2.2.2.1, u_.1, u_.2) (by unfold o_runs; rw [if_neg c_11, nI_clamp (by omega), if_pos c_44]) rfl | exact zret' (x0.1, x0.2.1, x0.2.2.1, x0.2.2.2.1, x0.2.2.2.2.1, x0.2.2.2.2.2.1, u_.1, u_.2) (by unfold o_runs; rw [if_neg c_11, nI_clamp (by omega), if_neg c_44]) rfl)
    · refine a_iload_2 (pc := 47) dX5_runs_47 ?_
      refine cS_P (S2 := sX1_bitsOf) (c_bitsOf l G _) kc_X1_bitsOf km_X5_242 ks_X1_bitsOf kini_X1 ⟨kn_X1_bitsOf, by decide, by decide⟩ (pc := 48) dX5_runs_48 [] rfl rfl rfl rfl (Nat.le_of_ble_eq_true rfl) ?_
      refine a_i2l (pc := 51) dX5_runs_51 ?_
      refine a_goto (tgt := 58) (pc := 52) dX5_runs_52 (by decide) ?_
      exact a_lret (pc := 58) dX5_runs_58 rfl rfl (by first | exact zret' (x0.1, x0.2.1, x0.2.2.1, x0.2.2.2.1, x0.2.2.2.2.1, x0.2.2.2.2.2.1, u_.1, u_.2) (by unfold o_runs; rw [if_neg c_11, nI_clamp (by omega), if_pos c_44]) rfl | exact zret' (x0.1, x0.2.1, x0.2.2.1, x0.2.2.2.1, x0.2.2.2.2.1, x0.2.2.2.2.2.1, u_.1, u_.2) (by unfold o_runs; rw [if_neg c_11, nI_clamp (by omega), if_neg c_44]) rfl)
  · refine a_ldc2 (pc := 14) dX5_runs_14 kl_X5_68 ?_
    exact a_lret (pc := 17) dX5_runs_17 rfl rfl (zret' x0 (by unfold o_runs; rw [if_pos c_11]) rfl)

set_option maxRecDepth 100000 in
set_option maxHeartbeats 4000000 in
theorem lp_tank (l : Launch) (G : zG) (ad : Nat → Nat) (σ : zσ) (hσ : zOk σ) (x0 x1 : zX) (k h : Nat) (hk : k ≤ σ.2.1 3 5) (hh : h ≤ 11) : ∀ (q i : Nat), i + q = h + 1 → AV l G sX5_tank (wP G ad σ x0) (zPost G ad ((zHeld σ k (h + 1)).toInt64, σ)) 67 [some (.ref (ad 0)), some (.int (nI k)), some (.int (nI h)), some (.int (nI (zNσ σ k))), some (.int (zHeld σ k i)), some (.int (nI i))] [] (wP G ad σ x1) := by
  have h5_ : σ.2.1 3 5 ≤ 200 := (hσ.2.2.2.2.2.2.2.2.2.1 5 (by decide)).2
  intro q_
  induction q_ using Nat.strongRecOn
  rename_i q_ ih_
  intro i hq_
  refine a_iload_5 (pc := 67) dX5_tank_67 ?_
  refine a_iload_2 (pc := 69) dX5_tank_69 ?_
  refine a_icmp_gt (tgt := 119) (pc := 70) dX5_tank_70 (by decide) (fun c_70 => ?_) (fun c_70 => ?_)
  · obtain rfl : i = h + 1 := by have := (zI_lt (by omega) (by omega)).mp c_70; omega
    refine a_iload_4 (pc := 119) dX5_tank_119 ?_
    refine a_i2l (pc := 121) dX5_tank_121 ?_
    exact a_lret (pc := 122) dX5_tank_122 rfl rfl (zret' x1 rfl rfl)
  · have hi_ : i ≤ h := by have := mt (zI_lt (a := h) (b := i) (by omega) (by omega)).mpr c_70; omega
    refine a_aload_0 (pc := 73) dX5_tank_73 ?_
    refine a_getf (ci := 5) (j := 5) rfl win_X5 (by decide) (pc := 74) dX5_tank_74 kf_X5_40 rfl rfl ?_
    refine a_iload_5 (pc := 77) dX5_tank_77 ?_
    refine a_iload_4 (pc := 79) dX5_tank_79 ?_
    refine a_iload_3 (pc := 81) dX5_tank_81 ?_
    refine a_iload_5 (pc := 82) dX5_tank_82 ?_
    refine cS_P (S2 := sX1_runsAt) (c_runsAt l G _ _) kc_X1_runsAt km_X5_245 ks_X1_runsAt kini_X1 ⟨kn_X1_runsAt, by decide, by decide⟩ (pc := 84) dX5_tank_84 [] rfl rfl rfl rfl (Nat.le_of_ble_eq_true rfl) ?_
    first | refine a_if_eqB (tgt := 100) (pc := 87) dX5_tank_87 (by decide) (fun c_87 => ?_) (fun c_87 => ?_) | refine a_if_eq (tgt := 100) (pc := 87) dX5_tank_87 (by decide) (fun c_87 => ?_) (fun c_87 => ?_)
    · refine a_iconst (v := 0) (pc := 100) dX5_tank_100 (by decide) ?_
      refine a_iadd (pc := 101) dX5_tank_101 ?_
      refine a_aload_0 (pc := 102) dX5_tank_102 ?_
      refine a_getf (ci := 5) (j := 0) rfl win_X5 (by decide) (pc := 103) dX5_tank_103 kf_X5_9 rfl rfl ?_
      refine a_iconst (v := 5) (pc := 106) dX5_tank_106 (by decide) ?_
      refine a_ialdN (k := 5) (pc := 107) dX5_tank_107 rfl (by omega) (by decide) ?_
      refine cV_P (ad := ad) (q0 := 18) (S2 := sX1_behind) (c_behind l G (zpk ad [18, 19, 20, 21, 22]) (fun k => nI (σ.2.1 4 k)) (fun k => nI (σ.2.1 5 k)) x1.2.2.2.2.2.2.1 x1.2.2.2.2.2.2.2 i (by omega) _ _) kc_X1_behind km_X5_248 ki_X1_behind kv_X1_behind kini_X1 ⟨kn_X1_behind, by decide, by decide⟩ (pc := 108) dX5_tank_108 [18, 19, 20, 21, 22] rfl rfl rfl rfl (Nat.le_of_ble_eq_true rfl) rfl rfl rfl ?_
      refine a_istore_4 (pc := 111) dX5_tank_111 rfl (by decide) ?_
      refine a_iinc_5 (cst := 1) (pc := 113) dX5_tank_113 rfl (by decide) (by decide) ?_
      refine a_goto (tgt := 67) (pc := 116) dX5_tank_116 (by decide) ?_
      rw [← nI_succ]
      refine a_to (ih_ (q_ - 1) (by omega) (i + 1) (by omega)) rfl ?_ rfl rfl
      show [some (Value.ref (ad 0)), some (Value.int (nI k)), some (Value.int (nI h)), some (Value.int (nI (zNσ σ k))), some (Value.int (zBh (nI (σ.2.1 5 i)) (zHeld σ k i + (if zRunsAt (nI (zNσ σ k)) (nI i) then nI (σ.2.1 3 6) else 0)) (nI (σ.2.1 3 5)))), some (Value.int (nI (i + 1)))] = _
      first | rw [if_pos c_87] | rw [if_neg c_87]
    · refine a_aload_0 (pc := 90) dX5_tank_90 ?_
      refine a_getf (ci := 5) (j := 0) rfl win_X5 (by decide) (pc := 91) dX5_tank_91 kf_X5_9 rfl rfl ?_
      refine a_bipush (v := 6) (pc := 94) dX5_tank_94 (by decide) ?_
      refine a_ialdN (k := 6) (pc := 96) dX5_tank_96 rfl (by omega) (by decide) ?_
      refine a_goto (tgt := 101) (pc := 97) dX5_tank_97 (by decide) ?_
      refine a_iadd (pc := 101) dX5_tank_101 ?_
      refine a_aload_0 (pc := 102) dX5_tank_102 ?_
      refine a_getf (ci := 5) (j := 0) rfl win_X5 (by decide) (pc := 103) dX5_tank_103 kf_X5_9 rfl rfl ?_
      refine a_iconst (v := 5) (pc := 106) dX5_tank_106 (by decide) ?_
      refine a_ialdN (k := 5) (pc := 107) dX5_tank_107 rfl (by omega) (by decide) ?_
      refine cV_P (ad := ad) (q0 := 18) (S2 := sX1_behind) (c_behind l G (zpk ad [18, 19, 20, 21, 22]) (fun k => nI (σ.2.1 4 k)) (fun k => nI (σ.2.1 5 k)) x1.2.2.2.2.2.2.1 x1.2.2.2.2.2.2.2 i (by omega) _ _) kc_X1_behind km_X5_248 ki_X1_behind kv_X1_behind kini_X1 ⟨kn_X1_behind, by decide, by decide⟩ (pc := 108) dX5_tank_108 [18, 19, 20, 21, 22] rfl rfl rfl rfl (Nat.le_of_ble_eq_true rfl) rfl rfl rfl ?_
      refine a_istore_4 (pc := 111) dX5_tank_111 rfl (by decide) ?_
      refine a_iinc_5 (cst := 1) (pc := 113) dX5_tank_113 rfl (by decide) (by decide) ?_
      refine a_goto (tgt := 67) (pc := 116) dX5_tank_116 (by decide) ?_
      rw [← nI_succ]
      refine a_to (ih_ (q_ - 1) (by omega) (i + 1) (by omega)) rfl ?_ rfl rfl
      show [some (Value.ref (ad 0)), some (Value.int (nI k)), some (Value.int (nI h)), some (Value.int (nI (zNσ σ k))), some (Value.int (zBh (nI (σ.2.1 5 i)) (zHeld σ k i + (if zRunsAt (nI (zNσ σ k)) (nI i) then nI (σ.2.1 3 6) else 0)) (nI (σ.2.1 3 5)))), some (Value.int (nI (i + 1)))] = _
      first | rw [if_pos c_87] | rw [if_neg c_87]

set_option maxRecDepth 100000 in
set_option maxHeartbeats 4000000 in
theorem p_tank (l : Launch) (G : zG) (ad : Nat → Nat) (σ : zσ) (x0 : zX) (hσ : zOk σ) (x : Int32) (hh : Int32) : zSem l G sX5_tank [.ref (ad 0), .int x, .int hh] (wP G ad σ x0) (zPost G ad (o_tank σ x hh)) := by
  refine zEnterV (L := [some (.ref (ad 0)), some (.int x), some (.int hh), none, none, none]) (by decide) rfl (Nat.le_of_ble_eq_true rfl) rfl ?_
  refine a_iload_1 (pc := 0) dX5_tank_0 ?_
  refine a_iconst (v := 0) (pc := 1) dX5_tank_1 (by decide) ?_
  refine a_aload_0 (pc := 2) dX5_tank_2 ?_
  refine a_getf (ci := 5) (j := 0) rfl win_X5 (by decide) (pc := 3) dX5_tank_3 kf_X5_9 rfl rfl ?_
  refine a_iconst (v := 5) (pc := 6) dX5_tank_6 (by decide) ?_
  refine a_ialdN (k := 5) (pc := 7) dX5_tank_7 rfl (by omega) (by decide) ?_
  refine cS_P (S2 := sX5_outside) (c_outside l G _ _ _) kc_X5_outside km_X5_64 ks_X5_outside kini_X5 ⟨kn_X5_outside, by decide, by decide⟩ (pc := 8) dX5_tank_8 [] rfl rfl rfl rfl (Nat.le_of_ble_eq_true rfl) ?_
  first | refine a_if_neB (tgt := 24) (pc := 11) dX5_tank_11 (by decide) (fun c_11 => ?_) (fun c_11 => ?_) | refine a_if_ne (tgt := 24) (pc := 11) dX5_tank_11 (by decide) (fun c_11 => ?_) (fun c_11 => ?_)
  · refine a_ldc2 (pc := 24) dX5_tank_24 kl_X5_68 ?_
    exact a_lret (pc := 27) dX5_tank_27 rfl rfl (by first | exact zret' x0 (by unfold o_tank; rw [if_pos (Or.inl c_11)]) rfl | exact zret' x0 (by unfold o_tank; rw [if_pos (Or.inr c_21)]) rfl)
  · refine a_iload_2 (pc := 14) dX5_tank_14 ?_
    refine a_iconst (v := 0) (pc := 15) dX5_tank_15 (by decide) ?_
    refine a_bipush (v := 11) (pc := 16) dX5_tank_16 (by decide) ?_
    refine cS_P (S2 := sX5_outside) (c_outside l G _ _ _) kc_X5_outside km_X5_64 ks_X5_outside kini_X5 ⟨kn_X5_outside, by decide, by decide⟩ (pc := 18) dX5_tank_18 [] rfl rfl rfl rfl (Nat.le_of_ble_eq_true rfl) ?_
    first | refine a_if_eqB (tgt := 28) (pc := 21) dX5_tank_21 (by decide) (fun c_21 => ?_) (fun c_21 => ?_) | refine a_if_eq (tgt := 28) (pc := 21) dX5_tank_21 (by decide) (fun c_21 => ?_) (fun c_21 => ?_)
    · obtain ⟨k, hk_, rfl⟩ := zrangeT hσ c_11
      obtain ⟨h, hhh_, rfl⟩ := zrange (n := 11) (by decide) rfl c_21
      have h5_ : σ.2.1 3 5 ≤ 200 := (hσ.2.2.2.2.2.2.2.2.2.1 5 (by decide)).2
      refine a_aload_0 (pc := 28) dX5_tank_28 ?_
      refine a_getf (ci := 5) (j := 5) rfl win_X5 (by decide) (pc := 29) dX5_tank_29 kf_X5_40 rfl rfl ?_
      refine a_iload_1 (pc := 32) dX5_tank_32 ?_
      refine a_aload_0 (pc := 33) dX5_tank_33 ?_
      refine a_getf (ci := 5) (j := 0) rfl win_X5 (by decide) (pc := 34) dX5_tank_34 kf_X5_9 rfl rfl ?_
      refine a_iconst (v := 5) (pc := 37) dX5_tank_37 (by decide) ?_
      refine a_ialdN (k := 5) (pc := 38) dX5_tank_38 rfl (by omega) (by decide) ?_
      refine a_aload_0 (pc := 39) dX5_tank_39 ?_
      refine a_getf (ci := 5) (j := 0) rfl win_X5 (by decide) (pc := 40) dX5_tank_40 kf_X5_9 rfl rfl ?_
      refine a_bipush (v := 6) (pc := 43) dX5_tank_43 (by decide) ?_
      refine a_ialdN (k := 6) (pc := 45) dX5_tank_45 rfl (by omega) (by decide) ?_
      refine cV_V (ad := ad) (q0 := 18) (S2 := sX1_best) (c_best l G (zpk ad [18, 19, 20, 21, 22]) (fun k => nI (σ.2.1 4 k)) (fun k => nI (σ.2.1 5 k)) x0.2.2.2.2.2.2.1 x0.2.2.2.2.2.2.2 (σ.2.1 4) (σ.2.1 5) (fun h hh => ⟨rfl, hσ.2.2.2.2.2.2.2.2.2.2.1 h hh⟩) (fun h hh => ⟨rfl, hσ.2.2.2.2.2.2.2.2.2.2.2.1 h hh⟩) (σ.2.1 3 5) (σ.2.1 3 6) (hσ.2.2.2.2.2.2.2.2.2.1 5 (by decide)).2 (hσ.2.2.2.2.2.2.2.2.2.1 6 (by decide)).2 k hk_) kc_X1_best km_X5_232 ki_X1_best kv_X1_best kini_X1 ⟨kn_X1_best, by decide, by decide⟩ (pc := 46) dX5_tank_46 [18, 19, 20, 21, 22] rfl rfl rfl rfl (Nat.le_of_ble_eq_true rfl) rfl rfl rfl (fun u => wP G ad σ (x0.1, x0.2.1, x0.2.2.1, x0.2.2.2.1, x0.2.2.2.2.1, x0.2.2.2.2.2.1, u.1, u.2)) (fun _ => rfl) (fun u_ _ => ?_)
      refine a_istore_3 (pc := 49) dX5_tank_49 rfl (by decide) ?_
      refine a_iload_3 (pc := 50) dX5_tank_50 ?_
      refine cS_P (S2 := sX1_isPlan) (c_isPlan l G _) kc_X1_isPlan km_X5_236 ks_X1_isPlan kini_X1 ⟨kn_X1_isPlan, by decide, by decide⟩ (pc := 51) dX5_tank_51 [] rfl rfl rfl rfl (Nat.le_of_ble_eq_true rfl) ?_
      first | refine a_if_neB (tgt := 61) (pc := 54) dX5_tank_54 (by decide) (fun c_54 => ?_) (fun c_54 => ?_) | refine a_if_ne (tgt := 61) (pc := 54) dX5_tank_54 (by decide) (fun c_54 => ?_) (fun c_54 => ?_)
      · refine a_iload_1 (pc := 61) dX5_tank_61 ?_
        refine a_istore_4 (pc := 62) dX5_tank_62 rfl (by decide) ?_
        refine a_iconst (v := 0) (pc := 64) dX5_tank_64 (by decide) ?_
        refine a_istore_5 (pc := 65) dX5_tank_65 rfl (by decide) ?_
        have e_ : o_tank σ (nI k) (nI h) = ((zHeld σ k (h + 1)).toInt64, σ) := by unfold o_tank; rw [if_neg (fun h => h.elim c_11 c_21), nI_clamp (by omega), if_neg (fun h => h c_54), nI_clamp (by omega)]
        rw [e_]
        exact lp_tank l G ad σ hσ x0 (x0.1, x0.2.1, x0.2.2.1, x0.2.2.2.1, x0.2.2.2.2.1, x0.2.2.2.2.2.1, u_.1, u_.2) k h hk_ hhh_ (h + 1) 0 (by omega)
      · refine a_ldc2 (pc := 57) dX5_tank_57 kl_X5_109 ?_
        exact a_lret (pc := 60) dX5_tank_60 rfl rfl (zret' (x0.1, x0.2.1, x0.2.2.1, x0.2.2.2.1, x0.2.2.2.2.1, x0.2.2.2.2.2.1, u_.1, u_.2) (by unfold o_tank; rw [if_neg (fun h => h.elim c_11 c_21), nI_clamp (by omega), if_pos c_54]) rfl)
    · refine a_ldc2 (pc := 24) dX5_tank_24 kl_X5_68 ?_
      exact a_lret (pc := 27) dX5_tank_27 rfl rfl (by first | exact zret' x0 (by unfold o_tank; rw [if_pos (Or.inl c_11)]) rfl | exact zret' x0 (by unfold o_tank; rw [if_pos (Or.inr c_21)]) rfl)

