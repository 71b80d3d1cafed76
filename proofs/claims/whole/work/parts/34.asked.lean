/-! The plant: what is asked of the flows; copy. -/
abbrev zP0 (σ : zσ) : Int32 := nI (σ.1 3)
abbrev zCell (σ : zσ) : Nat → Nat → Int64 := zCellp σ (zP0 σ) (zMs σ)
def o_flow (σ : zσ) (x c : Int32) : Int64 × zσ := (if zPl x = none ∨ zOR c 0 4 then zBAD else if ¬ zHd (zVesf σ) (nI (σ.1 0)) ((zPl x).getD 0) then zNO else if c = 0 then zCell σ 0 ((zPl x).getD 0) else if c = 1 then zCell σ 1 ((zPl x).getD 0) else if c = 2 then zCell σ 2 ((zPl x).getD 0) else if c = 3 then zCell σ 3 ((zPl x).getD 0) else zCell σ 5 ((zPl x).getD 0), σ)
abbrev zSwW (σ : zσ) : Int64 := (nI (σ.1 1)).toInt64 - (zFin σ (zP0 σ) (zMs σ)).1
abbrev zSwG (σ : zσ) : Int64 := (nI (σ.1 1)).toInt64 * (nI (σ.1 2)).toInt64 - (zFin σ (zP0 σ) (zMs σ)).2.1
def o_sweet (σ : zσ) (c : Int32) : Int64 × zσ := (if zOR c 0 2 then zBAD else if c = 0 then zSwW σ else if c = 1 then zSwG σ else zSalt (zSwW σ) (zSwG σ), σ)
def o_brine (σ : zσ) (c : Int32) : Int64 × zσ := (if zOR c 0 2 then zBAD else if c = 0 then (zFin σ (zP0 σ) (zMs σ)).1 else if c = 1 then (zFin σ (zP0 σ) (zMs σ)).2.1 else (zFin σ (zP0 σ) (zMs σ)).2.2, σ)
def zPow (σ : zσ) (p : Int32) (W P : Int64) : Int64 := p.toInt64 * (nI (σ.1 1)).toInt64 / 100 - (nI (σ.2.1 3 2)).toInt64 * (P * W / 100) / 100
def o_power (σ : zσ) : Int64 × zσ := (zPow σ (zP0 σ) (zFin σ (zP0 σ) (zMs σ)).1 (zFin σ (zP0 σ) (zMs σ)).2.2, σ)
theorem zFf_cg {v : Nat → Int32} {n : Int32} {W T W2 T2 : Nat → Int64} {least most : Int32} (h : ∀ k, k < 72 → zHd v n k → W k = W2 k ∧ T k = T2 k) : ∀ q i, i + q = 72 → zFf v n W T least most q i = zFf v n W2 T2 least most q i
  | 0, _, _ => rfl
  | q + 1, i, hq => by
    unfold zFf
    rw [zFf_cg h q (i + 1) (by omega)]
    by_cases hd : zHd v n i
    · rw [if_pos hd, if_pos hd, (h i (by omega) hd).1, (h i (by omega) hd).2]
    · rw [if_neg hd, if_neg hd]
def o_failure (σ : zσ) : Int64 × zσ := (zFf (zVesf σ) (nI (σ.1 0)) (zCell σ 0) (zCell σ 3) (nI (σ.2.1 3 0)) (nI (σ.2.1 3 1)) 72 0, σ)
theorem zFlow_at {σ : zσ} (hσ : zOk σ) {u : zX} (hu : zFlow σ (zP0 σ) (zMs σ) u) {k : Nat} (hk : k < 72) (hd : zHd (zVesf σ) (nI (σ.1 0)) k) {a : Nat} (ha : a < 6) : u.2.2.2.2.1 a k = zCell σ a k := by
  have e := (zHd_N hσ.2.2.2.2.2.1 hσ.1.2 hk).mp hd
  exact zRows_at hu.1 hk e.1 e.2 ha
theorem zsw5 {x : Int32} (h : ¬ zOR x 0 4) : x = 0 ∨ x = 1 ∨ x = 2 ∨ x = 3 ∨ x = 4 := by
  obtain ⟨k, hk, rfl⟩ := zrange (n := 4) (by decide) rfl h
  rcases (show k = 0 ∨ k = 1 ∨ k = 2 ∨ k = 3 ∨ k = 4 by omega) with rfl | rfl | rfl | rfl | rfl
  · exact Or.inl rfl
  · exact Or.inr (Or.inl rfl)
  · exact Or.inr (Or.inr (Or.inl rfl))
  · exact Or.inr (Or.inr (Or.inr (Or.inl rfl)))
  · exact Or.inr (Or.inr (Or.inr (Or.inr rfl)))
theorem zsw2 {x : Int32} (h : ¬ zOR x 0 2) : x = 0 ∨ x = 1 ∨ x = 2 := by
  obtain ⟨k, hk, rfl⟩ := zrange (n := 2) (by decide) rfl h
  rcases (show k = 0 ∨ k = 1 ∨ k = 2 by omega) with rfl | rfl | rfl
  · exact Or.inl rfl
  · exact Or.inr (Or.inl rfl)
  · exact Or.inr (Or.inr rfl)
set_option maxRecDepth 100000 in
set_option maxHeartbeats 4000000 in
theorem p_sweet (l : Launch) (G : zG) (ad : Nat → Nat) (σ : zσ) (x0 : zX) (hσ : zOk σ) (c : Int32) : zSem l G sX5_sweet [.ref (ad 0), .int c] (wP G ad σ x0) (zPost G ad (o_sweet σ c)) := by
  refine zEnterV (L := [some (.ref (ad 0)), some (.int c)]) (by decide) rfl (Nat.le_of_ble_eq_true rfl) rfl ?_
  refine a_iload_1 (pc := 0) dX5_sweet_0 ?_
  refine a_iconst (v := 0) (pc := 1) dX5_sweet_1 (by decide) ?_
  refine a_iconst (v := 2) (pc := 2) dX5_sweet_2 (by decide) ?_
  refine cS_P (S2 := sX5_outside) (c_outside l G _ _ _) kc_X5_outside km_X5_64 ks_X5_outside kini_X5 ⟨kn_X5_outside, by decide, by decide⟩ (pc := 3) dX5_sweet_3 [] rfl rfl rfl rfl (Nat.le_of_ble_eq_true rfl) ?_
  first | refine a_if_eqB (tgt := 13) (pc := 6) dX5_sweet_6 (by decide) (fun c_6 => ?_) (fun c_6 => ?_) | refine a_if_eq (tgt := 13) (pc := 6) dX5_sweet_6 (by decide) (fun c_6 => ?_) (fun c_6 => ?_)
  · refine a_aload_0 (pc := 13) dX5_sweet_13 ?_
    refine f_0 (ad := ad) (q0 := 0) (S2 := sX5_letFlow) (p_letFlow l G ad σ x0 hσ) kc_X5_letFlow km_X5_111 ki_X5_letFlow kv_X5_letFlow kini_X5 ⟨kn_X5_letFlow, by decide, by decide⟩ (pc := 14) dX5_sweet_14 (znd_of rfl znd28) rfl rfl (Nat.le_of_ble_eq_true rfl) rfl rfl rfl (fun u_ hu_ => ?_)
    refine a_iload_1 (pc := 17) dX5_sweet_17 ?_
    rcases zsw2 c_6 with rfl | rfl | rfl
    · refine a_lookup (off := 26) (tgt := 44) (pc := 18) dX5_sweet_18 (by decide) (by decide) (by decide) ?_
      refine a_aload_0 (pc := 44) dX5_sweet_44 ?_
      refine a_getf (ci := 5) (j := 4) rfl win_X5 (by decide) (pc := 45) dX5_sweet_45 kf_X5_33 rfl rfl ?_
      refine a_getfN (ci := 0) (j := 11) rfl win_X0 (by decide) (pc := 48) dX5_sweet_48 kf_X5_130 rfl rfl ?_
      rw [hu_.1.2.2.2.2.1]
      exact a_lret (pc := 51) dX5_sweet_51 rfl rfl (zret' u_ (by unfold o_sweet; rw [if_neg c_6, if_pos rfl]) rfl)
    · refine a_lookup (off := 34) (tgt := 52) (pc := 18) dX5_sweet_18 (by decide) (by decide) (by decide) ?_
      refine a_aload_0 (pc := 52) dX5_sweet_52 ?_
      refine a_getf (ci := 5) (j := 4) rfl win_X5 (by decide) (pc := 53) dX5_sweet_53 kf_X5_33 rfl rfl ?_
      refine a_getfN (ci := 0) (j := 12) rfl win_X0 (by decide) (pc := 56) dX5_sweet_56 kf_X5_134 rfl rfl ?_
      rw [hu_.1.2.2.2.2.2]
      exact a_lret (pc := 59) dX5_sweet_59 rfl rfl (zret' u_ (by unfold o_sweet; rw [if_neg c_6, if_neg (by decide), if_pos rfl]) rfl)
    · refine a_lookup (off := 42) (tgt := 60) (pc := 18) dX5_sweet_18 (by decide) (by decide) (by decide) ?_
      refine a_aload_0 (pc := 60) dX5_sweet_60 ?_
      refine a_getf (ci := 5) (j := 4) rfl win_X5 (by decide) (pc := 61) dX5_sweet_61 kf_X5_33 rfl rfl ?_
      refine a_getfN (ci := 0) (j := 11) rfl win_X0 (by decide) (pc := 64) dX5_sweet_64 kf_X5_130 rfl rfl ?_
      refine a_aload_0 (pc := 67) dX5_sweet_67 ?_
      refine a_getf (ci := 5) (j := 4) rfl win_X5 (by decide) (pc := 68) dX5_sweet_68 kf_X5_33 rfl rfl ?_
      refine a_getfN (ci := 0) (j := 12) rfl win_X0 (by decide) (pc := 71) dX5_sweet_71 kf_X5_134 rfl rfl ?_
      rw [hu_.1.2.2.2.2.1, hu_.1.2.2.2.2.2]
      refine cS_P (S2 := sX0_saltOf) (c_saltOf l G _ _) kc_X0_saltOf km_X5_137 ks_X0_saltOf kini_X0 ⟨kn_X0_saltOf, by decide, by decide⟩ (pc := 74) dX5_sweet_74 [] rfl rfl rfl rfl (Nat.le_of_ble_eq_true rfl) ?_
      exact a_lret (pc := 77) dX5_sweet_77 rfl rfl (zret' u_ (by unfold o_sweet; rw [if_neg c_6, if_neg (by decide), if_neg (by decide)]) rfl)
  · refine a_ldc2 (pc := 9) dX5_sweet_9 kl_X5_68 ?_
    exact a_lret (pc := 12) dX5_sweet_12 rfl rfl (zret' x0 (by unfold o_sweet; rw [if_pos c_6]) rfl)

set_option maxRecDepth 100000 in
set_option maxHeartbeats 4000000 in
theorem p_brine (l : Launch) (G : zG) (ad : Nat → Nat) (σ : zσ) (x0 : zX) (hσ : zOk σ) (c : Int32) : zSem l G sX5_brine [.ref (ad 0), .int c] (wP G ad σ x0) (zPost G ad (o_brine σ c)) := by
  refine zEnterV (L := [some (.ref (ad 0)), some (.int c)]) (by decide) rfl (Nat.le_of_ble_eq_true rfl) rfl ?_
  refine a_iload_1 (pc := 0) dX5_brine_0 ?_
  refine a_iconst (v := 0) (pc := 1) dX5_brine_1 (by decide) ?_
  refine a_iconst (v := 2) (pc := 2) dX5_brine_2 (by decide) ?_
  refine cS_P (S2 := sX5_outside) (c_outside l G _ _ _) kc_X5_outside km_X5_64 ks_X5_outside kini_X5 ⟨kn_X5_outside, by decide, by decide⟩ (pc := 3) dX5_brine_3 [] rfl rfl rfl rfl (Nat.le_of_ble_eq_true rfl) ?_
  first | refine a_if_eqB (tgt := 13) (pc := 6) dX5_brine_6 (by decide) (fun c_6 => ?_) (fun c_6 => ?_) | refine a_if_eq (tgt := 13) (pc := 6) dX5_brine_6 (by decide) (fun c_6 => ?_) (fun c_6 => ?_)
  · refine a_aload_0 (pc := 13) dX5_brine_13 ?_
    refine f_0 (ad := ad) (q0 := 0) (S2 := sX5_letFlow) (p_letFlow l G ad σ x0 hσ) kc_X5_letFlow km_X5_111 ki_X5_letFlow kv_X5_letFlow kini_X5 ⟨kn_X5_letFlow, by decide, by decide⟩ (pc := 14) dX5_brine_14 (znd_of rfl znd28) rfl rfl (Nat.le_of_ble_eq_true rfl) rfl rfl rfl (fun u_ hu_ => ?_)
    refine a_iload_1 (pc := 17) dX5_brine_17 ?_
    rcases zsw2 c_6 with rfl | rfl | rfl
    · refine a_lookup (off := 26) (tgt := 44) (pc := 18) dX5_brine_18 (by decide) (by decide) (by decide) ?_
      refine a_aload_0 (pc := 44) dX5_brine_44 ?_
      refine a_getf (ci := 5) (j := 4) rfl win_X5 (by decide) (pc := 45) dX5_brine_45 kf_X5_33 rfl rfl ?_
      refine a_getfN (ci := 0) (j := 8) rfl win_X0 (by decide) (pc := 48) dX5_brine_48 kf_X5_141 rfl rfl ?_
      rw [hu_.1.2.1]
      exact a_lret (pc := 51) dX5_brine_51 rfl rfl (zret' u_ (by unfold o_brine; rw [if_neg c_6, if_pos rfl]) rfl)
    · refine a_lookup (off := 34) (tgt := 52) (pc := 18) dX5_brine_18 (by decide) (by decide) (by decide) ?_
      refine a_aload_0 (pc := 52) dX5_brine_52 ?_
      refine a_getf (ci := 5) (j := 4) rfl win_X5 (by decide) (pc := 53) dX5_brine_53 kf_X5_33 rfl rfl ?_
      refine a_getfN (ci := 0) (j := 9) rfl win_X0 (by decide) (pc := 56) dX5_brine_56 kf_X5_144 rfl rfl ?_
      rw [hu_.1.2.2.1]
      exact a_lret (pc := 59) dX5_brine_59 rfl rfl (zret' u_ (by unfold o_brine; rw [if_neg c_6, if_neg (by decide), if_pos rfl]) rfl)
    · refine a_lookup (off := 42) (tgt := 60) (pc := 18) dX5_brine_18 (by decide) (by decide) (by decide) ?_
      refine a_aload_0 (pc := 60) dX5_brine_60 ?_
      refine a_getf (ci := 5) (j := 4) rfl win_X5 (by decide) (pc := 61) dX5_brine_61 kf_X5_33 rfl rfl ?_
      refine a_getfN (ci := 0) (j := 10) rfl win_X0 (by decide) (pc := 64) dX5_brine_64 kf_X5_147 rfl rfl ?_
      rw [hu_.1.2.2.2.1]
      exact a_lret (pc := 67) dX5_brine_67 rfl rfl (zret' u_ (by unfold o_brine; rw [if_neg c_6, if_neg (by decide), if_neg (by decide)]) rfl)
  · refine a_ldc2 (pc := 9) dX5_brine_9 kl_X5_68 ?_
    exact a_lret (pc := 12) dX5_brine_12 rfl rfl (zret' x0 (by unfold o_brine; rw [if_pos c_6]) rfl)

set_option maxRecDepth 100000 in
set_option maxHeartbeats 4000000 in
/-- powerAt -/
theorem p_powerAt (l : Launch) (G : zG) (ad : Nat → Nat) (σ : zσ) (x0 : zX) (p : Int32) : zSem l G sX5_powerAt [.ref (ad 0), .int p] (wP G ad σ x0) (zP (.long (zPow σ p (x0.2.2.2.2.2.1 0) (x0.2.2.2.2.2.1 2))) (wP G ad σ x0)) := by
  refine zEnterV (L := [some (.ref (ad 0)), some (.int p), none, none, none, none]) (by decide) rfl (Nat.le_of_ble_eq_true rfl) rfl ?_
  refine a_iload_1 (pc := 0) dX5_powerAt_0 ?_
  refine a_i2l (pc := 1) dX5_powerAt_1 ?_
  refine a_aload_0 (pc := 2) dX5_powerAt_2 ?_
  refine a_getf (ci := 5) (j := 7) rfl win_X5 (by decide) (pc := 3) dX5_powerAt_3 kf_X5_51 rfl rfl ?_
  refine a_i2l (pc := 6) dX5_powerAt_6 ?_
  refine a_lmul (pc := 7) dX5_powerAt_7 ?_
  refine a_ldc2 (pc := 8) dX5_powerAt_8 kl_X5_274 ?_
  refine a_ldiv (pc := 11) dX5_powerAt_11 (by decide) ?_
  refine a_lstore_2 (pc := 12) dX5_powerAt_12 rfl (by decide) ?_
  refine a_aload_0 (pc := 13) dX5_powerAt_13 ?_
  refine a_getf (ci := 5) (j := 4) rfl win_X5 (by decide) (pc := 14) dX5_powerAt_14 kf_X5_33 rfl rfl ?_
  refine a_getfN (ci := 0) (j := 10) rfl win_X0 (by decide) (pc := 17) dX5_powerAt_17 kf_X5_147 rfl rfl ?_
  refine a_aload_0 (pc := 20) dX5_powerAt_20 ?_
  refine a_getf (ci := 5) (j := 4) rfl win_X5 (by decide) (pc := 21) dX5_powerAt_21 kf_X5_33 rfl rfl ?_
  refine a_getfN (ci := 0) (j := 8) rfl win_X0 (by decide) (pc := 24) dX5_powerAt_24 kf_X5_141 rfl rfl ?_
  refine a_lmul (pc := 27) dX5_powerAt_27 ?_
  refine a_ldc2 (pc := 28) dX5_powerAt_28 kl_X5_274 ?_
  refine a_ldiv (pc := 31) dX5_powerAt_31 (by decide) ?_
  refine a_lstore_4 (pc := 32) dX5_powerAt_32 rfl (by decide) ?_
  refine a_lload_2 (pc := 34) dX5_powerAt_34 ?_
  refine a_aload_0 (pc := 35) dX5_powerAt_35 ?_
  refine a_getf (ci := 5) (j := 0) rfl win_X5 (by decide) (pc := 36) dX5_powerAt_36 kf_X5_9 rfl rfl ?_
  refine a_iconst (v := 2) (pc := 39) dX5_powerAt_39 (by decide) ?_
  refine a_ialdN (k := 2) (pc := 40) dX5_powerAt_40 rfl (by omega) (by decide) ?_
  refine a_i2l (pc := 41) dX5_powerAt_41 ?_
  refine a_lload_4 (pc := 42) dX5_powerAt_42 ?_
  refine a_lmul (pc := 44) dX5_powerAt_44 ?_
  refine a_ldc2 (pc := 45) dX5_powerAt_45 kl_X5_274 ?_
  refine a_ldiv (pc := 48) dX5_powerAt_48 (by decide) ?_
  refine a_lsub (pc := 49) dX5_powerAt_49 ?_
  exact a_lret (pc := 50) dX5_powerAt_50 rfl rfl ⟨rfl, rfl⟩

set_option maxRecDepth 100000 in
set_option maxHeartbeats 4000000 in
theorem p_power (l : Launch) (G : zG) (ad : Nat → Nat) (σ : zσ) (x0 : zX) (hσ : zOk σ)  : zSem l G sX5_power [.ref (ad 0)] (wP G ad σ x0) (zPost G ad (o_power σ)) := by
  refine zEnterV (L := [some (.ref (ad 0))]) (by decide) rfl (Nat.le_of_ble_eq_true rfl) rfl ?_
  refine a_aload_0 (pc := 0) dX5_power_0 ?_
  refine f_0 (ad := ad) (q0 := 0) (S2 := sX5_letFlow) (p_letFlow l G ad σ x0 hσ) kc_X5_letFlow km_X5_111 ki_X5_letFlow kv_X5_letFlow kini_X5 ⟨kn_X5_letFlow, by decide, by decide⟩ (pc := 1) dX5_power_1 (znd_of rfl znd28) rfl rfl (Nat.le_of_ble_eq_true rfl) rfl rfl rfl (fun u_ hu_ => ?_)
  refine a_aload_0 (pc := 4) dX5_power_4 ?_
  refine a_aload_0 (pc := 5) dX5_power_5 ?_
  refine a_getf (ci := 5) (j := 9) rfl win_X5 (by decide) (pc := 6) dX5_power_6 kf_X5_58 rfl rfl ?_
  refine f_P (ad := ad) (q0 := 0) (S2 := sX5_powerAt) (p_powerAt l G ad σ u_ _) kc_X5_powerAt km_X5_150 ki_X5_powerAt kv_X5_powerAt kini_X5 ⟨kn_X5_powerAt, by decide, by decide⟩ (pc := 9) dX5_power_9 (znd_of rfl znd28) rfl rfl (Nat.le_of_ble_eq_true rfl) rfl rfl rfl ?_
  rw [hu_.1.2.1, hu_.1.2.2.2.1]
  exact a_lret (pc := 12) dX5_power_12 rfl rfl (zret' u_ rfl rfl)

set_option maxRecDepth 100000 in
set_option maxHeartbeats 4000000 in
theorem p_failure (l : Launch) (G : zG) (ad : Nat → Nat) (σ : zσ) (x0 : zX) (hσ : zOk σ)  : zSem l G sX5_failure [.ref (ad 0)] (wP G ad σ x0) (zPost G ad (o_failure σ)) := by
  refine zEnterV (L := [some (.ref (ad 0))]) (by decide) rfl (Nat.le_of_ble_eq_true rfl) rfl ?_
  refine a_aload_0 (pc := 0) dX5_failure_0 ?_
  refine f_0 (ad := ad) (q0 := 0) (S2 := sX5_letFlow) (p_letFlow l G ad σ x0 hσ) kc_X5_letFlow km_X5_111 ki_X5_letFlow kv_X5_letFlow kini_X5 ⟨kn_X5_letFlow, by decide, by decide⟩ (pc := 1) dX5_failure_1 (znd_of rfl znd28) rfl rfl (Nat.le_of_ble_eq_true rfl) rfl rfl rfl (fun u_ hu_ => ?_)
  refine a_aload_0 (pc := 4) dX5_failure_4 ?_
  refine a_getf (ci := 5) (j := 4) rfl win_X5 (by decide) (pc := 5) dX5_failure_5 kf_X5_33 rfl rfl ?_
  refine a_aload_0 (pc := 8) dX5_failure_8 ?_
  refine a_getf (ci := 5) (j := 1) rfl win_X5 (by decide) (pc := 9) dX5_failure_9 kf_X5_16 rfl rfl ?_
  refine a_aload_0 (pc := 12) dX5_failure_12 ?_
  refine a_getf (ci := 5) (j := 0) rfl win_X5 (by decide) (pc := 13) dX5_failure_13 kf_X5_9 rfl rfl ?_
  refine a_iconst (v := 0) (pc := 16) dX5_failure_16 (by decide) ?_
  refine a_ialdN (k := 0) (pc := 17) dX5_failure_17 rfl (by omega) (by decide) ?_
  refine a_aload_0 (pc := 18) dX5_failure_18 ?_
  refine a_getf (ci := 5) (j := 0) rfl win_X5 (by decide) (pc := 19) dX5_failure_19 kf_X5_9 rfl rfl ?_
  refine a_iconst (v := 1) (pc := 22) dX5_failure_22 (by decide) ?_
  refine a_ialdN (k := 1) (pc := 23) dX5_failure_23 rfl (by omega) (by decide) ?_
  refine cV_P (ad := ad) (q0 := 9) (S2 := sX0_firstFailure) (c_firstFailure l G (zpk ad [9, 10, 11, 12, 13, 14, 15, 16, 17, 2, 3]) u_.2.2.1 u_.2.2.2.1 u_.2.2.2.2.1 u_.2.2.2.2.2.1 (zVesf σ) (nI (σ.1 0)) _ _) kc_X0_firstFailure km_X5_154 ki_X0_firstFailure kv_X0_firstFailure kini_X0 ⟨kn_X0_firstFailure, by decide, by decide⟩ (pc := 24) dX5_failure_24 [9, 10, 11, 12, 13, 14, 15, 16, 17, 2, 3] rfl rfl rfl rfl (Nat.le_of_ble_eq_true rfl) rfl rfl rfl ?_
  rw [zFf_cg (fun k hk hd => ⟨zFlow_at hσ hu_.1 hk hd (a := 0) (by decide), zFlow_at hσ hu_.1 hk hd (a := 3) (by decide)⟩) 72 0 rfl]
  exact a_lret (pc := 27) dX5_failure_27 rfl rfl (zret' u_ rfl rfl)

abbrev zHR (n x y : Int32) : Prop := ¬ x < 0 ∧ ¬ y < 0 ∧ ¬ n - y < x
def o_copy (σ : zσ) (f p t a m : Int32) : Int64 × zσ := if zOR f 0 1 ∨ zOR t 0 1 then (zBAD, σ) else if σ.2.2.1 f.toNatClampNeg = -1 ∨ σ.2.2.1 t.toNatClampNeg = -1 then (zNOTH, σ) else if ¬ zHR (σ.2.2.1 f.toNatClampNeg) p m ∨ ¬ zHR (σ.2.2.1 t.toNatClampNeg) a m then (zINDEX, σ) else (m.toInt64, (σ.1, σ.2.1, σ.2.2.1, zuC σ.2.2.2 t.toNatClampNeg (va_cpy (σ.2.2.2 f.toNatClampNeg) (σ.2.2.2 t.toNatClampNeg) p.toNatClampNeg a.toNatClampNeg m.toNatClampNeg)))
theorem zHR_le {σ : zσ} (hσ : zOk σ) {s : Nat} (hs : s < 2) {p m : Int32} (h : zHR (σ.2.2.1 s) p m) : p.toNatClampNeg + m.toNatClampNeg ≤ 24 := by
  have k0 : (0:Int32).toInt = 0 := by decide
  have h1 : 0 ≤ p.toInt := by have := mt Int32.lt_iff_toInt_lt.mpr h.1; omega
  have h2 : 0 ≤ m.toInt := by have := mt Int32.lt_iff_toInt_lt.mpr h.2.1; omega
  have hz : -1 ≤ (σ.2.2.1 s).toInt ∧ (σ.2.2.1 s).toInt ≤ 24 := by
    rcases hσ.2.2.2.2.2.2.2.2.2.2.2.2.1 s hs with h | ⟨n, hn, h⟩
    · rw [h]; decide
    · rw [h, nI_toInt (by omega)]; omega
  have hb := i_bd m
  have e : (σ.2.2.1 s - m).toInt = (σ.2.2.1 s).toInt - m.toInt := i_sub (by omega) (by omega)
  have h3 := mt Int32.lt_iff_toInt_lt.mpr h.2.2
  rw [e] at h3
  show p.toInt.toNat + m.toInt.toNat ≤ 24
  omega
