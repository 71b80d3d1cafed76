/-! The plant: calls without flows. -/
set_option maxRecDepth 100000 in
set_option maxHeartbeats 4000000 in
theorem p_stage (l : Launch) (G : zG) (ad : Nat → Nat) (σ : zσ) (x0 : zX) (hσ : zOk σ) (x : Int32) (n : Int32) : zSem l G sX5_stage [.ref (ad 0), .int x, .int n] (wP G ad σ x0) (zPost G ad (o_stage σ x n)) := by
  refine zEnterV (L := [some (.ref (ad 0)), some (.int x), some (.int n), none]) (by decide) rfl (Nat.le_of_ble_eq_true rfl) rfl ?_
  refine a_iload_1 (pc := 0) dX5_stage_0 ?_
  refine a_iconst (v := 0) (pc := 1) dX5_stage_1 (by decide) ?_
  refine a_iconst (v := 2) (pc := 2) dX5_stage_2 (by decide) ?_
  refine cS_P (S2 := sX5_outside) (c_outside l G _ _ _) kc_X5_outside km_X5_64 ks_X5_outside kini_X5 ⟨kn_X5_outside, by decide, by decide⟩ (pc := 3) dX5_stage_3 [] rfl rfl rfl rfl (Nat.le_of_ble_eq_true rfl) ?_
  first | refine a_if_neB (tgt := 26) (pc := 6) dX5_stage_6 (by decide) (fun c_6 => ?_) (fun c_6 => ?_) | refine a_if_ne (tgt := 26) (pc := 6) dX5_stage_6 (by decide) (fun c_6 => ?_) (fun c_6 => ?_)
  · refine a_ldc2 (pc := 26) dX5_stage_26 kl_X5_68 ?_
    exact a_lret (pc := 29) dX5_stage_29 rfl rfl (by first | exact zret' x0 (if_pos (Or.inl c_6)) rfl | exact zret' x0 (if_pos (Or.inr (by first | rw [if_pos c_11]; exact c_23 | rw [if_neg c_11]; exact c_23))) rfl)
  · refine a_iload_2 (pc := 9) dX5_stage_9 ?_
    refine a_iload_1 (pc := 10) dX5_stage_10 ?_
    first | refine a_if_neB (tgt := 18) (pc := 11) dX5_stage_11 (by decide) (fun c_11 => ?_) (fun c_11 => ?_) | refine a_if_ne (tgt := 18) (pc := 11) dX5_stage_11 (by decide) (fun c_11 => ?_) (fun c_11 => ?_)
    · refine a_iconst (v := 0) (pc := 18) dX5_stage_18 (by decide) ?_
      refine a_iconst (v := 4) (pc := 19) dX5_stage_19 (by decide) ?_
      refine cS_P (S2 := sX5_outside) (c_outside l G _ _ _) kc_X5_outside km_X5_64 ks_X5_outside kini_X5 ⟨kn_X5_outside, by decide, by decide⟩ (pc := 20) dX5_stage_20 [] rfl rfl rfl rfl (Nat.le_of_ble_eq_true rfl) ?_
      first | refine a_if_eqB (tgt := 30) (pc := 23) dX5_stage_23 (by decide) (fun c_23 => ?_) (fun c_23 => ?_) | refine a_if_eq (tgt := 30) (pc := 23) dX5_stage_23 (by decide) (fun c_23 => ?_) (fun c_23 => ?_)
      · obtain ⟨k, hk_, rfl⟩ := zrange (n := 2) (by decide) rfl c_6
        obtain ⟨mm_, hm_, rfl⟩ : ∃ z, z ≤ 4 ∧ n = nI z := zrange (n := 4) (by decide) rfl (fun h => c_23 (h.elim (fun h => Or.inl (by first | exact h | exact Int32.lt_trans h (by decide))) Or.inr))
        refine a_aload_0 (pc := 30) dX5_stage_30 ?_
        refine a_getf (ci := 5) (j := 1) rfl win_X5 (by decide) (pc := 31) dX5_stage_31 kf_X5_16 rfl rfl ?_
        refine a_getfN (ci := 2) (j := 0) rfl win_X2 (by decide) (pc := 34) dX5_stage_34 kf_X5_70 rfl rfl ?_
        refine a_iload_1 (pc := 37) dX5_stage_37 ?_
        refine a_ialdN (pc := 38) dX5_stage_38 rfl (by omega) (by decide) ?_
        refine a_istore_3 (pc := 39) dX5_stage_39 rfl (by decide) ?_
        refine a_aload_0 (pc := 40) dX5_stage_40 ?_
        refine a_getf (ci := 5) (j := 1) rfl win_X5 (by decide) (pc := 41) dX5_stage_41 kf_X5_16 rfl rfl ?_
        refine a_getfN (ci := 2) (j := 0) rfl win_X2 (by decide) (pc := 44) dX5_stage_44 kf_X5_70 rfl rfl ?_
        refine a_iload_1 (pc := 47) dX5_stage_47 ?_
        refine a_iload_2 (pc := 48) dX5_stage_48 ?_
        refine a_iastN (pc := 49) dX5_stage_49 rfl (by omega) (by decide) ?_
        refine a_iload_3 (pc := 50) dX5_stage_50 ?_
        refine a_i2l (pc := 51) dX5_stage_51 ?_
        exact a_lret (pc := 52) dX5_stage_52 rfl rfl (by
            have e_ : o_stage σ (nI k) (nI mm_) = _ := if_neg (fun h => h.elim c_6 (fun h => c_23 (by first | rw [if_pos c_11] at h; exact h | rw [if_neg c_11] at h; exact h)))
            rw [nI_clamp (by omega), nI_clamp (by omega)] at e_
            exact zret' x0 e_ (by rw [updN]; rfl))
      · refine a_ldc2 (pc := 26) dX5_stage_26 kl_X5_68 ?_
        exact a_lret (pc := 29) dX5_stage_29 rfl rfl (by first | exact zret' x0 (if_pos (Or.inl c_6)) rfl | exact zret' x0 (if_pos (Or.inr (by first | rw [if_pos c_11]; exact c_23 | rw [if_neg c_11]; exact c_23))) rfl)
    · refine a_iconst (v := 1) (pc := 14) dX5_stage_14 (by decide) ?_
      refine a_goto (tgt := 19) (pc := 15) dX5_stage_15 (by decide) ?_
      refine a_iconst (v := 4) (pc := 19) dX5_stage_19 (by decide) ?_
      refine cS_P (S2 := sX5_outside) (c_outside l G _ _ _) kc_X5_outside km_X5_64 ks_X5_outside kini_X5 ⟨kn_X5_outside, by decide, by decide⟩ (pc := 20) dX5_stage_20 [] rfl rfl rfl rfl (Nat.le_of_ble_eq_true rfl) ?_
      first | refine a_if_eqB (tgt := 30) (pc := 23) dX5_stage_23 (by decide) (fun c_23 => ?_) (fun c_23 => ?_) | refine a_if_eq (tgt := 30) (pc := 23) dX5_stage_23 (by decide) (fun c_23 => ?_) (fun c_23 => ?_)
      · obtain ⟨k, hk_, rfl⟩ := zrange (n := 2) (by decide) rfl c_6
        obtain ⟨mm_, hm_, rfl⟩ : ∃ z, z ≤ 4 ∧ n = nI z := zrange (n := 4) (by decide) rfl (fun h => c_23 (h.elim (fun h => Or.inl (by first | exact h | exact Int32.lt_trans h (by decide))) Or.inr))
        refine a_aload_0 (pc := 30) dX5_stage_30 ?_
        refine a_getf (ci := 5) (j := 1) rfl win_X5 (by decide) (pc := 31) dX5_stage_31 kf_X5_16 rfl rfl ?_
        refine a_getfN (ci := 2) (j := 0) rfl win_X2 (by decide) (pc := 34) dX5_stage_34 kf_X5_70 rfl rfl ?_
        refine a_iload_1 (pc := 37) dX5_stage_37 ?_
        refine a_ialdN (pc := 38) dX5_stage_38 rfl (by omega) (by decide) ?_
        refine a_istore_3 (pc := 39) dX5_stage_39 rfl (by decide) ?_
        refine a_aload_0 (pc := 40) dX5_stage_40 ?_
        refine a_getf (ci := 5) (j := 1) rfl win_X5 (by decide) (pc := 41) dX5_stage_41 kf_X5_16 rfl rfl ?_
        refine a_getfN (ci := 2) (j := 0) rfl win_X2 (by decide) (pc := 44) dX5_stage_44 kf_X5_70 rfl rfl ?_
        refine a_iload_1 (pc := 47) dX5_stage_47 ?_
        refine a_iload_2 (pc := 48) dX5_stage_48 ?_
        refine a_iastN (pc := 49) dX5_stage_49 rfl (by omega) (by decide) ?_
        refine a_iload_3 (pc := 50) dX5_stage_50 ?_
        refine a_i2l (pc := 51) dX5_stage_51 ?_
        exact a_lret (pc := 52) dX5_stage_52 rfl rfl (by
            have e_ : o_stage σ (nI k) (nI mm_) = _ := if_neg (fun h => h.elim c_6 (fun h => c_23 (by first | rw [if_pos c_11] at h; exact h | rw [if_neg c_11] at h; exact h)))
            rw [nI_clamp (by omega), nI_clamp (by omega)] at e_
            exact zret' x0 e_ (by rw [updN]; rfl))
      · refine a_ldc2 (pc := 26) dX5_stage_26 kl_X5_68 ?_
        exact a_lret (pc := 29) dX5_stage_29 rfl rfl (by first | exact zret' x0 (if_pos (Or.inl c_6)) rfl | exact zret' x0 (if_pos (Or.inr (by first | rw [if_pos c_11]; exact c_23 | rw [if_neg c_11]; exact c_23))) rfl)

set_option maxRecDepth 100000 in
set_option maxHeartbeats 4000000 in
theorem p_length (l : Launch) (G : zG) (ad : Nat → Nat) (σ : zσ) (x0 : zX) (hσ : zOk σ) (n : Int32) : zSem l G sX5_length [.ref (ad 0), .int n] (wP G ad σ x0) (zPost G ad (o_length σ n)) := by
  refine zEnterV (L := [some (.ref (ad 0)), some (.int n), none]) (by decide) rfl (Nat.le_of_ble_eq_true rfl) rfl ?_
  refine a_iload_1 (pc := 0) dX5_length_0 ?_
  refine a_iconst (v := 1) (pc := 1) dX5_length_1 (by decide) ?_
  refine a_bipush (v := 6) (pc := 2) dX5_length_2 (by decide) ?_
  refine cS_P (S2 := sX5_outside) (c_outside l G _ _ _) kc_X5_outside km_X5_64 ks_X5_outside kini_X5 ⟨kn_X5_outside, by decide, by decide⟩ (pc := 4) dX5_length_4 [] rfl rfl rfl rfl (Nat.le_of_ble_eq_true rfl) ?_
  first | refine a_if_eqB (tgt := 14) (pc := 7) dX5_length_7 (by decide) (fun c_7 => ?_) (fun c_7 => ?_) | refine a_if_eq (tgt := 14) (pc := 7) dX5_length_7 (by decide) (fun c_7 => ?_) (fun c_7 => ?_)
  · obtain ⟨k, hk_, rfl⟩ := zrange1 (n := 6) (by decide) rfl c_7
    refine a_aload_0 (pc := 14) dX5_length_14 ?_
    refine a_getf (ci := 5) (j := 1) rfl win_X5 (by decide) (pc := 15) dX5_length_15 kf_X5_16 rfl rfl ?_
    refine a_getfN (ci := 2) (j := 1) rfl win_X2 (by decide) (pc := 18) dX5_length_18 kf_X5_73 rfl rfl ?_
    refine a_istore_2 (pc := 21) dX5_length_21 rfl (by decide) ?_
    refine a_aload_0 (pc := 22) dX5_length_22 ?_
    refine a_getf (ci := 5) (j := 1) rfl win_X5 (by decide) (pc := 23) dX5_length_23 kf_X5_16 rfl rfl ?_
    refine a_iload_1 (pc := 26) dX5_length_26 ?_
    refine a_putfN (ci := 2) (j := 1) rfl win_X2 tyX2_ok nmX2 (by decide) (pc := 27) dX5_length_27 kf_X5_73 rfl rfl rfl rfl rfl (Nat.le_of_ble_eq_true rfl) ?_
    refine a_iload_2 (pc := 30) dX5_length_30 ?_
    refine a_i2l (pc := 31) dX5_length_31 ?_
    exact a_lret (pc := 32) dX5_length_32 rfl rfl (by
        have e_ : o_length σ (nI k) = _ := if_neg c_7
        rw [nI_clamp (by omega)] at e_
        exact zret' x0 e_ rfl)
  · refine a_ldc2 (pc := 10) dX5_length_10 kl_X5_68 ?_
    exact a_lret (pc := 13) dX5_length_13 rfl rfl (zret' x0 (if_pos c_7) rfl)

set_option maxRecDepth 100000 in
set_option maxHeartbeats 4000000 in
theorem p_fresh (l : Launch) (G : zG) (ad : Nat → Nat) (σ : zσ) (x0 : zX) (hσ : zOk σ) (x : Int32) (c : Int32) : zSem l G sX5_fresh [.ref (ad 0), .int x, .int c] (wP G ad σ x0) (zPost G ad (o_fresh σ x c)) := by
  refine zEnterV (L := [some (.ref (ad 0)), some (.int x), some (.int c), none]) (by decide) rfl (Nat.le_of_ble_eq_true rfl) rfl ?_
  refine a_iload_1 (pc := 0) dX5_fresh_0 ?_
  refine cS_P (S2 := sX5_placeOf) (c_placeOf l G _) kc_X5_placeOf km_X5_76 ks_X5_placeOf kini_X5 ⟨kn_X5_placeOf, by decide, by decide⟩ (pc := 1) dX5_fresh_1 [] rfl rfl rfl rfl (Nat.le_of_ble_eq_true rfl) ?_
  refine a_istore_3 (pc := 4) dX5_fresh_4 rfl (by decide) ?_
  refine a_iload_3 (pc := 5) dX5_fresh_5 ?_
  rcases hp_ : zPl x with _ | k
  · refine a_if_lt (tgt := 18) (pc := 6) dX5_fresh_6 (by decide) (fun _ => ?_) (fun c_ => absurd (show zplace none < 0 by decide) c_)
    refine a_ldc2 (pc := 18) dX5_fresh_18 kl_X5_68 ?_
    exact a_lret (pc := 21) dX5_fresh_21 rfl rfl (by first | exact zret' x0 (if_pos (Or.inl hp_)) rfl | exact zret' x0 (if_pos (Or.inr c_15)) rfl)
  · have hk_ := zPl_lt hp_
    dsimp only [zplace]
    refine a_if_lt (tgt := 18) (pc := 6) dX5_fresh_6 (by decide) (fun c_ => absurd c_ (nI_pos (by omega))) (fun _ => ?_)
    refine a_iload_2 (pc := 9) dX5_fresh_9 ?_
    refine a_iconst (v := 0) (pc := 10) dX5_fresh_10 (by decide) ?_
    refine a_iconst (v := 3) (pc := 11) dX5_fresh_11 (by decide) ?_
    refine cS_P (S2 := sX5_outside) (c_outside l G _ _ _) kc_X5_outside km_X5_64 ks_X5_outside kini_X5 ⟨kn_X5_outside, by decide, by decide⟩ (pc := 12) dX5_fresh_12 [] rfl rfl rfl rfl (Nat.le_of_ble_eq_true rfl) ?_
    first | refine a_if_eqB (tgt := 22) (pc := 15) dX5_fresh_15 (by decide) (fun c_15 => ?_) (fun c_15 => ?_) | refine a_if_eq (tgt := 22) (pc := 15) dX5_fresh_15 (by decide) (fun c_15 => ?_) (fun c_15 => ?_)
    · obtain ⟨mm_, hm_, rfl⟩ := zrange (n := 3) (by decide) rfl c_15
      refine a_aload_0 (pc := 22) dX5_fresh_22 ?_
      refine a_getf (ci := 5) (j := 3) rfl win_X5 (by decide) (pc := 23) dX5_fresh_23 kf_X5_26 rfl rfl ?_
      refine a_iload_3 (pc := 26) dX5_fresh_26 ?_
      refine a_iload_2 (pc := 27) dX5_fresh_27 ?_
      refine cV_V (ad := ad) (q0 := 6) (S2 := sX4_renew) (c_renew l G (zpk ad [6, 7, 8]) (zKd σ) (zFo σ) k (zPl_lt hp_) _) kc_X4_renew km_X5_80 ki_X4_renew kv_X4_renew kini_X4 ⟨kn_X4_renew, by decide, by decide⟩ (pc := 28) dX5_fresh_28 [6, 7, 8] rfl rfl rfl rfl (Nat.le_of_ble_eq_true rfl) rfl rfl rfl (fun _ => wP G ad (σ.1, zu2 (zu2 σ.2.1 1 (zuN (σ.2.1 1) k mm_)) 2 (zuN (σ.2.1 2) k 0), σ.2.2) x0) (fun _ => by show _ = _; rw [updN, show (0 : Int32) = nI 0 from rfl, updN]; rfl) (fun _u _ => ?_)
      refine a_i2l (pc := 31) dX5_fresh_31 ?_
      exact a_lret (pc := 32) dX5_fresh_32 rfl rfl (by
          have e_ : o_fresh σ x (nI mm_) = _ := if_neg (fun h => h.elim (fun h => by rw [hp_] at h; cases h) c_15)
          rw [nI_clamp (by omega), hp_] at e_
          exact zret' x0 e_ rfl)
    · refine a_ldc2 (pc := 18) dX5_fresh_18 kl_X5_68 ?_
      exact a_lret (pc := 21) dX5_fresh_21 rfl rfl (by first | exact zret' x0 (if_pos (Or.inl hp_)) rfl | exact zret' x0 (if_pos (Or.inr c_15)) rfl)

set_option maxRecDepth 100000 in
set_option maxHeartbeats 4000000 in
theorem p_told (l : Launch) (G : zG) (ad : Nat → Nat) (σ : zσ) (x0 : zX) (hσ : zOk σ) (x : Int32) (c : Int32) : zSem l G sX5_told [.ref (ad 0), .int x, .int c] (wP G ad σ x0) (zPost G ad (o_told σ x c)) := by
  refine zEnterV (L := [some (.ref (ad 0)), some (.int x), some (.int c), none]) (by decide) rfl (Nat.le_of_ble_eq_true rfl) rfl ?_
  refine a_iload_1 (pc := 0) dX5_told_0 ?_
  refine cS_P (S2 := sX5_placeOf) (c_placeOf l G _) kc_X5_placeOf km_X5_76 ks_X5_placeOf kini_X5 ⟨kn_X5_placeOf, by decide, by decide⟩ (pc := 1) dX5_told_1 [] rfl rfl rfl rfl (Nat.le_of_ble_eq_true rfl) ?_
  refine a_istore_3 (pc := 4) dX5_told_4 rfl (by decide) ?_
  refine a_iload_3 (pc := 5) dX5_told_5 ?_
  rcases hp_ : zPl x with _ | k
  · refine a_if_ge (tgt := 13) (pc := 6) dX5_told_6 (by decide) (fun c_ => absurd c_ (show ¬ (0 : Int32) ≤ zplace none by decide)) (fun _ => ?_)
    refine a_ldc2 (pc := 9) dX5_told_9 kl_X5_68 ?_
    exact a_lret (pc := 12) dX5_told_12 rfl rfl (zret' x0 (by unfold o_told; rw [if_pos hp_]) rfl)
  · have hk_ := zPl_lt hp_
    have hne_ : ¬ zPl x = none := by rw [hp_]; exact fun h => by cases h
    dsimp only [zplace]
    refine a_if_ge (tgt := 13) (pc := 6) dX5_told_6 (by decide) (fun _ => ?_) (fun c_ => absurd (nI_pos' (by omega)) c_)
    refine a_iload_2 (pc := 13) dX5_told_13 ?_
    rcases zsw3 c with rfl | rfl | rfl | rfl | hc_
    · refine a_tableIn (off := 30) (tgt := 44) (pc := 14) dX5_told_14 (by decide) (by decide) (by decide) (by decide) ?_
      refine a_aload_0 (pc := 44) dX5_told_44 ?_
      refine a_getf (ci := 5) (j := 3) rfl win_X5 (by decide) (pc := 45) dX5_told_45 kf_X5_26 rfl rfl ?_
      refine a_getfN (ci := 4) (j := 0) rfl win_X4 (by decide) (pc := 48) dX5_told_48 kf_X5_84 rfl rfl ?_
      refine a_iload_3 (pc := 51) dX5_told_51 ?_
      refine a_ialdN (pc := 52) dX5_told_52 rfl (by omega) (by decide) ?_
      refine a_i2l (pc := 53) dX5_told_53 ?_
      exact a_lret (pc := 54) dX5_told_54 rfl rfl (zret' x0 (by unfold o_told; rw [if_neg hne_, if_pos rfl, hp_]; rfl) rfl)
    · refine a_tableIn (off := 41) (tgt := 55) (pc := 14) dX5_told_14 (by decide) (by decide) (by decide) (by decide) ?_
      refine a_aload_0 (pc := 55) dX5_told_55 ?_
      refine a_getf (ci := 5) (j := 3) rfl win_X5 (by decide) (pc := 56) dX5_told_56 kf_X5_26 rfl rfl ?_
      refine a_getfN (ci := 4) (j := 1) rfl win_X4 (by decide) (pc := 59) dX5_told_59 kf_X5_87 rfl rfl ?_
      refine a_iload_3 (pc := 62) dX5_told_62 ?_
      refine a_ialdN (pc := 63) dX5_told_63 rfl (by omega) (by decide) ?_
      refine a_i2l (pc := 64) dX5_told_64 ?_
      exact a_lret (pc := 65) dX5_told_65 rfl rfl (zret' x0 (by unfold o_told; rw [if_neg hne_, if_neg (by decide), if_pos rfl, hp_]; rfl) rfl)
    · refine a_tableIn (off := 52) (tgt := 66) (pc := 14) dX5_told_14 (by decide) (by decide) (by decide) (by decide) ?_
      refine a_aload_0 (pc := 66) dX5_told_66 ?_
      refine a_getf (ci := 5) (j := 3) rfl win_X5 (by decide) (pc := 67) dX5_told_67 kf_X5_26 rfl rfl ?_
      refine a_iload_3 (pc := 70) dX5_told_70 ?_
      refine cV_P (ad := ad) (q0 := 6) (S2 := sX4_passAt) (c_passAt l G (zpk ad [6, 7, 8]) (zKd σ) (zFo σ) k hk_ (zin4 (hσ.2.2.2.2.2.2.2.1 k hk_))) kc_X4_passAt km_X5_90 ki_X4_passAt kv_X4_passAt kini_X4 ⟨kn_X4_passAt, by decide, by decide⟩ (pc := 71) dX5_told_71 [6, 7, 8] rfl rfl rfl rfl (Nat.le_of_ble_eq_true rfl) rfl rfl rfl ?_
      refine a_i2l (pc := 74) dX5_told_74 ?_
      exact a_lret (pc := 75) dX5_told_75 rfl rfl (zret' x0 (by unfold o_told; rw [if_neg hne_, if_neg (by decide), if_neg (by decide), if_pos rfl, hp_]; rfl) rfl)
    · refine a_tableIn (off := 62) (tgt := 76) (pc := 14) dX5_told_14 (by decide) (by decide) (by decide) (by decide) ?_
      refine a_aload_0 (pc := 76) dX5_told_76 ?_
      refine a_getf (ci := 5) (j := 3) rfl win_X5 (by decide) (pc := 77) dX5_told_77 kf_X5_26 rfl rfl ?_
      refine a_iload_3 (pc := 80) dX5_told_80 ?_
      refine cV_P (ad := ad) (q0 := 6) (S2 := sX4_leakAt) (c_leakAt l G (zpk ad [6, 7, 8]) (zKd σ) (zFo σ) k hk_ (zin4 (hσ.2.2.2.2.2.2.2.1 k hk_))) kc_X4_leakAt km_X5_93 ki_X4_leakAt kv_X4_leakAt kini_X4 ⟨kn_X4_leakAt, by decide, by decide⟩ (pc := 81) dX5_told_81 [6, 7, 8] rfl rfl rfl rfl (Nat.le_of_ble_eq_true rfl) rfl rfl rfl ?_
      refine a_i2l (pc := 84) dX5_told_84 ?_
      exact a_lret (pc := 85) dX5_told_85 rfl rfl (zret' x0 (by unfold o_told; rw [if_neg hne_, if_neg (by decide), if_neg (by decide), if_neg (by decide), if_pos rfl, hp_]; rfl) rfl)
    · refine a_tableOut (tgt := 86) (pc := 14) dX5_told_14 hc_ (by decide) ?_
      refine a_ldc2 (pc := 86) dX5_told_86 kl_X5_68 ?_
      exact a_lret (pc := 89) dX5_told_89 rfl rfl (zret' x0 (by unfold o_told; rw [if_neg hne_, if_neg (fun h => by subst h; exact absurd hc_ (by decide)), if_neg (fun h => by subst h; exact absurd hc_ (by decide)), if_neg (fun h => by subst h; exact absurd hc_ (by decide)), if_neg (fun h => by subst h; exact absurd hc_ (by decide))]) rfl)

set_option maxRecDepth 100000 in
set_option maxHeartbeats 4000000 in
theorem p_isOf (l : Launch) (G : zG) (ad : Nat → Nat) (σ : zσ) (x0 : zX) (hσ : zOk σ) (x : Int32) (c : Int32) : zSem l G sX5_isOf [.ref (ad 0), .int x, .int c] (wP G ad σ x0) (zPost G ad (o_isOf σ x c)) := by
  refine zEnterV (L := [some (.ref (ad 0)), some (.int x), some (.int c), none]) (by decide) rfl (Nat.le_of_ble_eq_true rfl) rfl ?_
  refine a_iload_1 (pc := 0) dX5_isOf_0 ?_
  refine cS_P (S2 := sX5_placeOf) (c_placeOf l G _) kc_X5_placeOf km_X5_76 ks_X5_placeOf kini_X5 ⟨kn_X5_placeOf, by decide, by decide⟩ (pc := 1) dX5_isOf_1 [] rfl rfl rfl rfl (Nat.le_of_ble_eq_true rfl) ?_
  refine a_istore_3 (pc := 4) dX5_isOf_4 rfl (by decide) ?_
  refine a_iload_3 (pc := 5) dX5_isOf_5 ?_
  rcases hp_ : zPl x with _ | k
  · refine a_if_lt (tgt := 18) (pc := 6) dX5_isOf_6 (by decide) (fun _ => ?_) (fun c_ => absurd (show zplace none < 0 by decide) c_)
    refine a_ldc2 (pc := 18) dX5_isOf_18 kl_X5_68 ?_
    exact a_lret (pc := 21) dX5_isOf_21 rfl rfl (by first | exact zret' x0 (by unfold o_isOf; rw [if_pos (Or.inl hp_)]) rfl | exact zret' x0 (by unfold o_isOf; rw [if_pos (Or.inr c_15)]) rfl)
  · have hk_ := zPl_lt hp_
    have hne_ : ¬ zPl x = none := by rw [hp_]; exact fun h => by cases h
    dsimp only [zplace]
    refine a_if_lt (tgt := 18) (pc := 6) dX5_isOf_6 (by decide) (fun c_ => absurd c_ (nI_pos (by omega))) (fun _ => ?_)
    refine a_iload_2 (pc := 9) dX5_isOf_9 ?_
    refine a_iconst (v := 0) (pc := 10) dX5_isOf_10 (by decide) ?_
    refine a_iconst (v := 3) (pc := 11) dX5_isOf_11 (by decide) ?_
    refine cS_P (S2 := sX5_outside) (c_outside l G _ _ _) kc_X5_outside km_X5_64 ks_X5_outside kini_X5 ⟨kn_X5_outside, by decide, by decide⟩ (pc := 12) dX5_isOf_12 [] rfl rfl rfl rfl (Nat.le_of_ble_eq_true rfl) ?_
    first | refine a_if_eqB (tgt := 22) (pc := 15) dX5_isOf_15 (by decide) (fun c_15 => ?_) (fun c_15 => ?_) | refine a_if_eq (tgt := 22) (pc := 15) dX5_isOf_15 (by decide) (fun c_15 => ?_) (fun c_15 => ?_)
    · refine a_aload_0 (pc := 22) dX5_isOf_22 ?_
      refine a_getf (ci := 5) (j := 3) rfl win_X5 (by decide) (pc := 23) dX5_isOf_23 kf_X5_26 rfl rfl ?_
      refine a_iload_3 (pc := 26) dX5_isOf_26 ?_
      refine a_iload_2 (pc := 27) dX5_isOf_27 ?_
      refine cV_P (ad := ad) (q0 := 6) (S2 := sX4_isUnder) (c_isUnder l G (zpk ad [6, 7, 8]) (zKd σ) (zFo σ) k hk_ (zin4 (hσ.2.2.2.2.2.2.2.1 k hk_)) c) kc_X4_isUnder km_X5_96 ki_X4_isUnder kv_X4_isUnder kini_X4 ⟨kn_X4_isUnder, by decide, by decide⟩ (pc := 28) dX5_isOf_28 [6, 7, 8] rfl rfl rfl rfl (Nat.le_of_ble_eq_true rfl) rfl rfl rfl ?_
      first | refine a_if_eqB (tgt := 38) (pc := 31) dX5_isOf_31 (by decide) (fun c_31 => ?_) (fun c_31 => ?_) | refine a_if_eq (tgt := 38) (pc := 31) dX5_isOf_31 (by decide) (fun c_31 => ?_) (fun c_31 => ?_)
      · refine a_lconst (v := 0) (pc := 38) dX5_isOf_38 (by decide) ?_
        exact a_lret (pc := 39) dX5_isOf_39 rfl rfl (by first | exact zret' x0 (by unfold o_isOf; rw [if_neg (fun h => h.elim hne_ c_15), hp_, Option.getD_some, if_pos c_31]) rfl | exact zret' x0 (by unfold o_isOf; rw [if_neg (fun h => h.elim hne_ c_15), hp_, Option.getD_some, if_neg c_31]) rfl)
      · refine a_lconst (v := 1) (pc := 34) dX5_isOf_34 (by decide) ?_
        refine a_goto (tgt := 39) (pc := 35) dX5_isOf_35 (by decide) ?_
        exact a_lret (pc := 39) dX5_isOf_39 rfl rfl (by first | exact zret' x0 (by unfold o_isOf; rw [if_neg (fun h => h.elim hne_ c_15), hp_, Option.getD_some, if_pos c_31]) rfl | exact zret' x0 (by unfold o_isOf; rw [if_neg (fun h => h.elim hne_ c_15), hp_, Option.getD_some, if_neg c_31]) rfl)
    · refine a_ldc2 (pc := 18) dX5_isOf_18 kl_X5_68 ?_
      exact a_lret (pc := 21) dX5_isOf_21 rfl rfl (by first | exact zret' x0 (by unfold o_isOf; rw [if_pos (Or.inl hp_)]) rfl | exact zret' x0 (by unfold o_isOf; rw [if_pos (Or.inr c_15)]) rfl)

set_option maxRecDepth 100000 in
set_option maxHeartbeats 4000000 in
theorem p_feed (l : Launch) (G : zG) (ad : Nat → Nat) (σ : zσ) (x0 : zX) (hσ : zOk σ) (w : Int32) (s : Int32) (p : Int32) : zSem l G sX5_feed [.ref (ad 0), .int w, .int s, .int p] (wP G ad σ x0) (zPost G ad (o_feed σ w s p)) := by
  refine zEnterV (L := [some (.ref (ad 0)), some (.int w), some (.int s), some (.int p)]) (by decide) rfl (Nat.le_of_ble_eq_true rfl) rfl ?_
  refine a_iload_1 (pc := 0) dX5_feed_0 ?_
  refine a_iconst (v := 0) (pc := 1) dX5_feed_1 (by decide) ?_
  refine a_sipush (v := 20000) (pc := 2) dX5_feed_2 (by decide) ?_
  refine cS_P (S2 := sX5_outside) (c_outside l G _ _ _) kc_X5_outside km_X5_64 ks_X5_outside kini_X5 ⟨kn_X5_outside, by decide, by decide⟩ (pc := 5) dX5_feed_5 [] rfl rfl rfl rfl (Nat.le_of_ble_eq_true rfl) ?_
  first | refine a_if_neB (tgt := 32) (pc := 8) dX5_feed_8 (by decide) (fun c_8 => ?_) (fun c_8 => ?_) | refine a_if_ne (tgt := 32) (pc := 8) dX5_feed_8 (by decide) (fun c_8 => ?_) (fun c_8 => ?_)
  · refine a_ldc2 (pc := 32) dX5_feed_32 kl_X5_68 ?_
    exact a_lret (pc := 35) dX5_feed_35 rfl rfl (by first | exact zret' x0 (if_pos (Or.inl c_8)) rfl | exact zret' x0 (if_pos (Or.inr (Or.inl c_18))) rfl | exact zret' x0 (if_pos (Or.inr (Or.inr c_29))) rfl)
  · refine a_iload_2 (pc := 11) dX5_feed_11 ?_
    refine a_iconst (v := 0) (pc := 12) dX5_feed_12 (by decide) ?_
    refine a_ldc (pc := 13) dX5_feed_13 kl_X5_100 ?_
    refine cS_P (S2 := sX5_outside) (c_outside l G _ _ _) kc_X5_outside km_X5_64 ks_X5_outside kini_X5 ⟨kn_X5_outside, by decide, by decide⟩ (pc := 15) dX5_feed_15 [] rfl rfl rfl rfl (Nat.le_of_ble_eq_true rfl) ?_
    first | refine a_if_neB (tgt := 32) (pc := 18) dX5_feed_18 (by decide) (fun c_18 => ?_) (fun c_18 => ?_) | refine a_if_ne (tgt := 32) (pc := 18) dX5_feed_18 (by decide) (fun c_18 => ?_) (fun c_18 => ?_)
    · refine a_ldc2 (pc := 32) dX5_feed_32 kl_X5_68 ?_
      exact a_lret (pc := 35) dX5_feed_35 rfl rfl (by first | exact zret' x0 (if_pos (Or.inl c_8)) rfl | exact zret' x0 (if_pos (Or.inr (Or.inl c_18))) rfl | exact zret' x0 (if_pos (Or.inr (Or.inr c_29))) rfl)
    · refine a_iload_3 (pc := 21) dX5_feed_21 ?_
      refine a_iconst (v := 0) (pc := 22) dX5_feed_22 (by decide) ?_
      refine a_sipush (v := 900) (pc := 23) dX5_feed_23 (by decide) ?_
      refine cS_P (S2 := sX5_outside) (c_outside l G _ _ _) kc_X5_outside km_X5_64 ks_X5_outside kini_X5 ⟨kn_X5_outside, by decide, by decide⟩ (pc := 26) dX5_feed_26 [] rfl rfl rfl rfl (Nat.le_of_ble_eq_true rfl) ?_
      first | refine a_if_eqB (tgt := 36) (pc := 29) dX5_feed_29 (by decide) (fun c_29 => ?_) (fun c_29 => ?_) | refine a_if_eq (tgt := 36) (pc := 29) dX5_feed_29 (by decide) (fun c_29 => ?_) (fun c_29 => ?_)
      · obtain ⟨kw_, hw_, rfl⟩ := zrange (hi := 20000) (n := 20000) (by decide) (by decide +kernel) c_8
        obtain ⟨ks_, hs_, rfl⟩ := zrange (hi := 60000) (n := 60000) (by decide) (by decide +kernel) c_18
        obtain ⟨kp_, hp_, rfl⟩ := zrange (hi := 900) (n := 900) (by decide) (by decide +kernel) c_29
        refine a_aload_0 (pc := 36) dX5_feed_36 ?_
        refine a_iload_1 (pc := 37) dX5_feed_37 ?_
        refine a_putf (ci := 5) (j := 7) rfl win_X5 tyX5_ok nmX5 (by decide) (pc := 38) dX5_feed_38 kf_X5_51 rfl rfl rfl rfl rfl (Nat.le_of_ble_eq_true rfl) ?_
        refine a_aload_0 (pc := 41) dX5_feed_41 ?_
        refine a_iload_2 (pc := 42) dX5_feed_42 ?_
        refine a_putf (ci := 5) (j := 8) rfl win_X5 tyX5_ok nmX5 (by decide) (pc := 43) dX5_feed_43 kf_X5_55 rfl rfl rfl rfl rfl (Nat.le_of_ble_eq_true rfl) ?_
        refine a_aload_0 (pc := 46) dX5_feed_46 ?_
        refine a_iload_3 (pc := 47) dX5_feed_47 ?_
        refine a_putf (ci := 5) (j := 9) rfl win_X5 tyX5_ok nmX5 (by decide) (pc := 48) dX5_feed_48 kf_X5_58 rfl rfl rfl rfl rfl (Nat.le_of_ble_eq_true rfl) ?_
        refine a_lconst (v := 0) (pc := 51) dX5_feed_51 (by decide) ?_
        exact a_lret (pc := 52) dX5_feed_52 rfl rfl (by
            have e_ : o_feed σ (nI kw_) (nI ks_) (nI kp_) = _ := if_neg (fun h => h.elim c_8 (fun h => h.elim c_18 c_29))
            rw [nI_clamp (by omega), nI_clamp (by omega), nI_clamp (by omega)] at e_
            exact zret' x0 e_ rfl)
      · refine a_ldc2 (pc := 32) dX5_feed_32 kl_X5_68 ?_
        exact a_lret (pc := 35) dX5_feed_35 rfl rfl (by first | exact zret' x0 (if_pos (Or.inl c_8)) rfl | exact zret' x0 (if_pos (Or.inr (Or.inl c_18))) rfl | exact zret' x0 (if_pos (Or.inr (Or.inr c_29))) rfl)

set_option maxRecDepth 100000 in
set_option maxHeartbeats 4000000 in
theorem p_change (l : Launch) (G : zG) (ad : Nat → Nat) (σ : zσ) (x0 : zX) (hσ : zOk σ) (x : Int32) (y : Int32) : zSem l G sX5_change [.ref (ad 0), .int x, .int y] (wP G ad σ x0) (zPost G ad (o_change σ x y)) := by
  refine zEnterV (L := [some (.ref (ad 0)), some (.int x), some (.int y), none, none]) (by decide) rfl (Nat.le_of_ble_eq_true rfl) rfl ?_
  refine a_iload_1 (pc := 0) dX5_change_0 ?_
  refine cS_P (S2 := sX5_placeOf) (c_placeOf l G _) kc_X5_placeOf km_X5_76 ks_X5_placeOf kini_X5 ⟨kn_X5_placeOf, by decide, by decide⟩ (pc := 1) dX5_change_1 [] rfl rfl rfl rfl (Nat.le_of_ble_eq_true rfl) ?_
  refine a_istore_3 (pc := 4) dX5_change_4 rfl (by decide) ?_
  refine a_iload_2 (pc := 5) dX5_change_5 ?_
  refine cS_P (S2 := sX5_placeOf) (c_placeOf l G _) kc_X5_placeOf km_X5_76 ks_X5_placeOf kini_X5 ⟨kn_X5_placeOf, by decide, by decide⟩ (pc := 6) dX5_change_6 [] rfl rfl rfl rfl (Nat.le_of_ble_eq_true rfl) ?_
  refine a_istore_4 (pc := 9) dX5_change_9 rfl (by decide) ?_
  refine a_iload_3 (pc := 11) dX5_change_11 ?_
  rcases hp_ : zPl x with _ | k
  · refine a_if_lt (tgt := 26) (pc := 12) dX5_change_12 (by decide) (fun _ => ?_) (fun c_ => absurd (show zplace none < 0 by decide) c_)
    refine a_ldc2 (pc := 26) dX5_change_26 kl_X5_68 ?_
    exact a_lret (pc := 29) dX5_change_29 rfl rfl (by first | exact zret' x0 (if_pos (Or.inl hp_)) rfl | exact zret' x0 (if_pos (Or.inr (Or.inl hq_))) rfl | exact zret' x0 (if_pos (Or.inr (Or.inr (by rw [hp_, hq_, hkj_])))) rfl)
  · have hk_ := zPl_lt hp_
    have hne_ : ¬ zPl x = none := by rw [hp_]; exact fun h => by cases h
    dsimp only [zplace]
    refine a_if_lt (tgt := 26) (pc := 12) dX5_change_12 (by decide) (fun c_ => absurd c_ (nI_pos (by omega))) (fun _ => ?_)
    refine a_iload_4 (pc := 15) dX5_change_15 ?_
    rcases hq_ : zPl y with _ | j
    · refine a_if_lt (tgt := 26) (pc := 17) dX5_change_17 (by decide) (fun _ => ?_) (fun c_ => absurd (show zplace none < 0 by decide) c_)
      refine a_ldc2 (pc := 26) dX5_change_26 kl_X5_68 ?_
      exact a_lret (pc := 29) dX5_change_29 rfl rfl (by first | exact zret' x0 (if_pos (Or.inl hp_)) rfl | exact zret' x0 (if_pos (Or.inr (Or.inl hq_))) rfl | exact zret' x0 (if_pos (Or.inr (Or.inr (by rw [hp_, hq_, hkj_])))) rfl)
    · have hj_ := zPl_lt hq_
      have hne2_ : ¬ zPl y = none := by rw [hq_]; exact fun h => by cases h
      refine a_if_lt (tgt := 26) (pc := 17) dX5_change_17 (by decide) (fun c_ => absurd c_ (nI_pos (by omega))) (fun _ => ?_)
      dsimp only [zplace]
      refine a_iload_3 (pc := 20) dX5_change_20 ?_
      refine a_iload_4 (pc := 21) dX5_change_21 ?_
      refine a_icmp_ne (tgt := 30) (pc := 23) dX5_change_23 (by decide) (fun c_23 => ?_) (fun c_23 => ?_)
      · have hkj_ : ¬ k = j := fun h => c_23 (by rw [h])
        refine a_aload_0 (pc := 30) dX5_change_30 ?_
        refine a_getf (ci := 5) (j := 3) rfl win_X5 (by decide) (pc := 31) dX5_change_31 kf_X5_26 rfl rfl ?_
        refine a_iload_3 (pc := 34) dX5_change_34 ?_
        refine a_iload_4 (pc := 35) dX5_change_35 ?_
        refine cV_0 (ad := ad) (q0 := 6) (S2 := sX4_exchange) (c_skExch l G (zpk ad [6, 7, 8]) (zKd σ) (zFo σ) k j hk_ hj_) kc_X4_exchange km_X5_101 ki_X4_exchange kv_X4_exchange kini_X4 ⟨kn_X4_exchange, by decide, by decide⟩ (pc := 37) dX5_change_37 [6, 7, 8] rfl rfl rfl rfl (Nat.le_of_ble_eq_true rfl) rfl rfl rfl (fun _ => wP G ad (σ.1, zu2 (zu2 σ.2.1 1 (zExN (σ.2.1 1) k j)) 2 (zExN (σ.2.1 2) k j), σ.2.2) x0) (fun _ => by show _ = _; rw [zExch_N, zExch_N]; rfl) (fun _u _ => ?_)
        refine a_lconst (v := 0) (pc := 40) dX5_change_40 (by decide) ?_
        exact a_lret (pc := 41) dX5_change_41 rfl rfl (by
            have e_ : o_change σ x y = _ := if_neg (fun h => h.elim hne_ (fun h => h.elim hne2_ (fun h => by rw [hp_, hq_] at h; exact hkj_ (Option.some.inj h))))
            rw [hp_, hq_] at e_
            exact zret' x0 e_ rfl)
      · have hkj_ : k = j := zI_inj (by omega) (by omega) c_23
        refine a_ldc2 (pc := 26) dX5_change_26 kl_X5_68 ?_
        exact a_lret (pc := 29) dX5_change_29 rfl rfl (by first | exact zret' x0 (if_pos (Or.inl hp_)) rfl | exact zret' x0 (if_pos (Or.inr (Or.inl hq_))) rfl | exact zret' x0 (if_pos (Or.inr (Or.inr (by rw [hp_, hq_, hkj_])))) rfl)

theorem zrule_lo : ∀ k, k < 7 → ([0, 0, 0, 1, 0, 0, 0] : List Int32).getD k 0 = nI (zRuleLo k) := by decide +kernel
theorem zrule_hi : ∀ k, k < 7 → ([9999, 9999, 100, 1000, 30, 200, 200] : List Int32).getD k 0 = nI (zRuleHi k) := by decide +kernel
theorem zrule_hb : ∀ k, k < 7 → zRuleHi k < 2 ^ 31 ∧ (zRuleLo k = 0 ∨ zRuleLo k = 1) := by decide +kernel
theorem zrangeL {x : Int32} {lo n : Nat} (hl : lo < 2 ^ 31) (hn : n < 2 ^ 31) (h : ¬ zOR x (nI lo) (nI n)) : ∃ k, (lo ≤ k ∧ k ≤ n) ∧ x = nI k := by
  have h1 : ¬ x.toInt < lo := fun q => h (Or.inl (Int32.lt_iff_toInt_lt.mpr (by rw [nI_toInt hl]; exact q)))
  have h2 : ¬ (n : Int) < x.toInt := fun q => h (Or.inr (Int32.lt_iff_toInt_lt.mpr (by rw [nI_toInt hn]; exact q)))
  exact ⟨x.toInt.toNat, by omega, i_toNat (by omega)⟩
set_option maxRecDepth 100000 in
set_option maxHeartbeats 4000000 in
theorem p_rule (l : Launch) (G : zG) (ad : Nat → Nat) (σ : zσ) (x0 : zX) (hσ : zOk σ) (x : Int32) (v : Int32) : zSem l G sX5_rule [.ref (ad 0), .int x, .int v] (wP G ad σ x0) (zPost G ad (o_rule σ x v)) := by
  refine zEnterV (L := [some (.ref (ad 0)), some (.int x), some (.int v), none]) (by decide) rfl (Nat.le_of_ble_eq_true rfl) rfl ?_
  refine a_iload_1 (pc := 0) dX5_rule_0 ?_
  refine a_iconst (v := 0) (pc := 1) dX5_rule_1 (by decide) ?_
  refine a_bipush (v := 6) (pc := 2) dX5_rule_2 (by decide) ?_
  refine cS_P (S2 := sX5_outside) (c_outside l G _ _ _) kc_X5_outside km_X5_64 ks_X5_outside kini_X5 ⟨kn_X5_outside, by decide, by decide⟩ (pc := 4) dX5_rule_4 [] rfl rfl rfl rfl (Nat.le_of_ble_eq_true rfl) ?_
  first | refine a_if_neB (tgt := 27) (pc := 7) dX5_rule_7 (by decide) (fun c_7 => ?_) (fun c_7 => ?_) | refine a_if_ne (tgt := 27) (pc := 7) dX5_rule_7 (by decide) (fun c_7 => ?_) (fun c_7 => ?_)
  · refine a_ldc2 (pc := 27) dX5_rule_27 kl_X5_68 ?_
    exact a_lret (pc := 30) dX5_rule_30 rfl rfl (by first | exact zret' x0 (if_pos (Or.inl c_7)) rfl | exact zret' x0 (if_pos (Or.inr (by rw [nI_clamp (by omega)]; exact c_24))) rfl)
  · obtain ⟨k, hk_, rfl⟩ := zrange (n := 6) (by decide) rfl c_7
    refine a_iload_2 (pc := 10) dX5_rule_10 ?_
    refine a_gets (k := 3) (pc := 11) dX5_rule_11 rfl kf_X5_158 ?_
    refine a_iload_1 (pc := 14) dX5_rule_14 ?_
    refine a_staldN rfl (pc := 15) dX5_rule_15 (show k < 7 by omega) (by decide) ?_
    have e1_ := zrule_lo k (by omega)
    dsimp only at e1_ ⊢
    rw [e1_]
    refine a_gets (k := 4) (pc := 16) dX5_rule_16 rfl kf_X5_161 ?_
    refine a_iload_1 (pc := 19) dX5_rule_19 ?_
    refine a_staldN rfl (pc := 20) dX5_rule_20 (show k < 7 by omega) (by decide) ?_
    have e2_ := zrule_hi k (by omega)
    dsimp only at e2_ ⊢
    rw [e2_]
    refine cS_P (S2 := sX5_outside) (c_outside l G _ _ _) kc_X5_outside km_X5_64 ks_X5_outside kini_X5 ⟨kn_X5_outside, by decide, by decide⟩ (pc := 21) dX5_rule_21 [] rfl rfl rfl rfl (Nat.le_of_ble_eq_true rfl) ?_
    first | refine a_if_eqB (tgt := 31) (pc := 24) dX5_rule_24 (by decide) (fun c_24 => ?_) (fun c_24 => ?_) | refine a_if_eq (tgt := 31) (pc := 24) dX5_rule_24 (by decide) (fun c_24 => ?_) (fun c_24 => ?_)
    · obtain ⟨mm_, hm_, rfl⟩ := zrangeL (by have := zrule_hb k (by omega); omega) (zrule_hb k (by omega)).1 c_24
      refine a_aload_0 (pc := 31) dX5_rule_31 ?_
      refine a_getf (ci := 5) (j := 0) rfl win_X5 (by decide) (pc := 32) dX5_rule_32 kf_X5_9 rfl rfl ?_
      refine a_iload_1 (pc := 35) dX5_rule_35 ?_
      refine a_ialdN (pc := 36) dX5_rule_36 rfl (by omega) (by decide) ?_
      refine a_istore_3 (pc := 37) dX5_rule_37 rfl (by decide) ?_
      refine a_aload_0 (pc := 38) dX5_rule_38 ?_
      refine a_getf (ci := 5) (j := 0) rfl win_X5 (by decide) (pc := 39) dX5_rule_39 kf_X5_9 rfl rfl ?_
      refine a_iload_1 (pc := 42) dX5_rule_42 ?_
      refine a_iload_2 (pc := 43) dX5_rule_43 ?_
      refine a_iastN (pc := 44) dX5_rule_44 rfl (by omega) (by decide) ?_
      refine a_iload_3 (pc := 45) dX5_rule_45 ?_
      refine a_i2l (pc := 46) dX5_rule_46 ?_
      exact a_lret (pc := 47) dX5_rule_47 rfl rfl (by
          have hh_ := (zrule_hb k (by omega)).1
          have e_ : o_rule σ (nI k) (nI mm_) = _ := if_neg (fun h => h.elim c_7 (fun h => c_24 (by rw [nI_clamp (by omega)] at h; exact h)))
          rw [nI_clamp (by omega), nI_clamp (by omega)] at e_
          exact zret' x0 e_ (by rw [updN]; rfl))
    · refine a_ldc2 (pc := 27) dX5_rule_27 kl_X5_68 ?_
      exact a_lret (pc := 30) dX5_rule_30 rfl rfl (by first | exact zret' x0 (if_pos (Or.inl c_7)) rfl | exact zret' x0 (if_pos (Or.inr (by rw [nI_clamp (by omega)]; exact c_24))) rfl)

