/-! The plant: hours, sheets, counts. -/
abbrev zVesf (σ : zσ) : Nat → Int32 := fun j => nI (σ.2.1 0 j)
def o_count (σ : zσ) (c : Int32) : Int64 × zσ := (if c = 0 then (zSum3 (zVesf σ) 3).toInt64 else if c = 1 then (zSum3 (zVesf σ) 3).toInt64 * (nI (σ.1 0)).toInt64 else if c = 2 then (nI (σ.1 4)).toInt64 else if c = 3 then ((if σ.2.2.1 0 = -1 then 0 else 1) + (if σ.2.2.1 1 = -1 then 0 else 1) : Int32).toInt64 else zBAD, σ)
def o_sheet (σ : zσ) (s n : Int32) : Int64 × zσ := if zOR s 0 1 ∨ ¬ n ≤ 24 then (zBAD, σ) else if ¬ 0 ≤ n then (zSIZE, σ) else (n.toInt64, (σ.1, σ.2.1, zuZ σ.2.2.1 s.toNatClampNeg n, zuC σ.2.2.2 s.toNatClampNeg (zfill (σ.2.2.2 s.toNatClampNeg) 24 0)))
def zShort (v : Int32) : Int32 := vp_nar .short v.toInt16.toInt32
def o_mark (σ : zσ) (s p v : Int32) : Int64 × zσ := if zOR s 0 1 then (zBAD, σ) else if σ.2.2.1 s.toNatClampNeg = -1 then (zNOTH, σ) else if ¬ (¬ p < 0 ∧ ¬ σ.2.2.1 s.toNatClampNeg ≤ p) then (zINDEX, σ) else ((σ.2.2.2 s.toNatClampNeg p.toNatClampNeg).toInt64, (σ.1, σ.2.1, σ.2.2.1, zuC σ.2.2.2 s.toNatClampNeg (upd (σ.2.2.2 s.toNatClampNeg) p.toNatClampNeg (zShort v))))
theorem zsize {σ : zσ} (hσ : zOk σ) {s : Nat} (hs : s < 2) {p : Int32} (h : ¬ p < 0 ∧ ¬ σ.2.2.1 s ≤ p) : ∃ k, k < 24 ∧ p = nI k := by
  have h1 : 0 ≤ p.toInt := by
    have := mt Int32.lt_iff_toInt_lt.mpr h.1
    have k0 : (0:Int32).toInt = 0 := by decide
    omega
  have h2 : p.toInt < (σ.2.2.1 s).toInt := by
    have := mt Int32.le_iff_toInt_le.mpr h.2
    omega
  have h3 : (σ.2.2.1 s).toInt ≤ 24 := by
    rcases hσ.2.2.2.2.2.2.2.2.2.2.2.2.1 s hs with h | ⟨n, hn, h⟩
    · rw [h]; decide
    · rw [h, nI_toInt (by omega)]; omega
  exact ⟨p.toInt.toNat, by omega, i_toNat h1⟩
set_option maxRecDepth 100000 in
set_option maxHeartbeats 4000000 in
theorem p_hour (l : Launch) (G : zG) (ad : Nat → Nat) (σ : zσ) (x0 : zX) (hσ : zOk σ) (h : Int32) (w : Int32) (v : Int32) : zSem l G sX5_hour [.ref (ad 0), .int h, .int w, .int v] (wP G ad σ x0) (zPost G ad (o_hour σ h w v)) := by
  refine zEnterV (L := [some (.ref (ad 0)), some (.int h), some (.int w), some (.int v), none, none]) (by decide) rfl (Nat.le_of_ble_eq_true rfl) rfl ?_
  refine a_iload_1 (pc := 0) dX5_hour_0 ?_
  refine a_iconst (v := 0) (pc := 1) dX5_hour_1 (by decide) ?_
  refine a_bipush (v := 11) (pc := 2) dX5_hour_2 (by decide) ?_
  refine cS_P (S2 := sX5_outside) (c_outside l G _ _ _) kc_X5_outside km_X5_64 ks_X5_outside kini_X5 ⟨kn_X5_outside, by decide, by decide⟩ (pc := 4) dX5_hour_4 [] rfl rfl rfl rfl (Nat.le_of_ble_eq_true rfl) ?_
  first | refine a_if_neB (tgt := 31) (pc := 7) dX5_hour_7 (by decide) (fun c_7 => ?_) (fun c_7 => ?_) | refine a_if_ne (tgt := 31) (pc := 7) dX5_hour_7 (by decide) (fun c_7 => ?_) (fun c_7 => ?_)
  · refine a_ldc2 (pc := 31) dX5_hour_31 kl_X5_68 ?_
    exact a_lret (pc := 34) dX5_hour_34 rfl rfl (by first | exact zret' x0 (if_pos (Or.inl c_7)) rfl | exact zret' x0 (if_pos (Or.inr (Or.inl c_16))) rfl | exact zret' x0 (if_pos (Or.inr (Or.inr c_28))) rfl)
  · refine a_iload_2 (pc := 10) dX5_hour_10 ?_
    refine a_iconst (v := 0) (pc := 11) dX5_hour_11 (by decide) ?_
    refine a_iconst (v := 1) (pc := 12) dX5_hour_12 (by decide) ?_
    refine cS_P (S2 := sX5_outside) (c_outside l G _ _ _) kc_X5_outside km_X5_64 ks_X5_outside kini_X5 ⟨kn_X5_outside, by decide, by decide⟩ (pc := 13) dX5_hour_13 [] rfl rfl rfl rfl (Nat.le_of_ble_eq_true rfl) ?_
    first | refine a_if_neB (tgt := 31) (pc := 16) dX5_hour_16 (by decide) (fun c_16 => ?_) (fun c_16 => ?_) | refine a_if_ne (tgt := 31) (pc := 16) dX5_hour_16 (by decide) (fun c_16 => ?_) (fun c_16 => ?_)
    · refine a_ldc2 (pc := 31) dX5_hour_31 kl_X5_68 ?_
      exact a_lret (pc := 34) dX5_hour_34 rfl rfl (by first | exact zret' x0 (if_pos (Or.inl c_7)) rfl | exact zret' x0 (if_pos (Or.inr (Or.inl c_16))) rfl | exact zret' x0 (if_pos (Or.inr (Or.inr c_28))) rfl)
    · refine a_iload_3 (pc := 19) dX5_hour_19 ?_
      refine a_iconst (v := 0) (pc := 20) dX5_hour_20 (by decide) ?_
      refine a_iload_2 (pc := 21) dX5_hour_21 ?_
      refine cS_P (S2 := sX1_mostOf) (c_mostOf l G _) kc_X1_mostOf km_X5_204 ks_X1_mostOf kini_X1 ⟨kn_X1_mostOf, by decide, by decide⟩ (pc := 22) dX5_hour_22 [] rfl rfl rfl rfl (Nat.le_of_ble_eq_true rfl) ?_
      refine cS_P (S2 := sX5_outside) (c_outside l G _ _ _) kc_X5_outside km_X5_64 ks_X5_outside kini_X5 ⟨kn_X5_outside, by decide, by decide⟩ (pc := 25) dX5_hour_25 [] rfl rfl rfl rfl (Nat.le_of_ble_eq_true rfl) ?_
      first | refine a_if_eqB (tgt := 35) (pc := 28) dX5_hour_28 (by decide) (fun c_28 => ?_) (fun c_28 => ?_) | refine a_if_eq (tgt := 35) (pc := 28) dX5_hour_28 (by decide) (fun c_28 => ?_) (fun c_28 => ?_)
      · obtain ⟨k, hk_, rfl⟩ := zrange (n := 11) (by decide) rfl c_7
        rcases zrange2 c_16 with rfl | rfl
        · obtain ⟨mm_, hm_, rfl⟩ : ∃ z, z ≤ 99 ∧ v = nI z := zrange (hi := if (0 : Int32) = 0 then 99 else 999) (n := 99) (by decide) (by decide +kernel) c_28
          refine a_aload_0 (pc := 35) dX5_hour_35 ?_
          refine a_getf (ci := 5) (j := 5) rfl win_X5 (by decide) (pc := 36) dX5_hour_36 kf_X5_40 rfl rfl ?_
          refine a_iload_2 (pc := 39) dX5_hour_39 ?_
          first
            | refine cV_P (ad := ad) (q0 := 18) (S2 := sX1_rowOf) (c_rowOf0 l G (zpk ad [18, 19, 20, 21, 22]) (fun k => nI (σ.2.1 4 k)) (fun k => nI (σ.2.1 5 k)) x0.2.2.2.2.2.2.1 x0.2.2.2.2.2.2.2 0 rfl) kc_X1_rowOf km_X5_207 ki_X1_rowOf kv_X1_rowOf kini_X1 ⟨kn_X1_rowOf, by decide, by decide⟩ (pc := 40) dX5_hour_40 [18, 19, 20, 21, 22] rfl rfl rfl rfl (Nat.le_of_ble_eq_true rfl) rfl rfl rfl ?_
            | refine cV_P (ad := ad) (q0 := 18) (S2 := sX1_rowOf) (c_rowOf1 l G (zpk ad [18, 19, 20, 21, 22]) (fun k => nI (σ.2.1 4 k)) (fun k => nI (σ.2.1 5 k)) x0.2.2.2.2.2.2.1 x0.2.2.2.2.2.2.2 1 (by decide)) kc_X1_rowOf km_X5_207 ki_X1_rowOf kv_X1_rowOf kini_X1 ⟨kn_X1_rowOf, by decide, by decide⟩ (pc := 40) dX5_hour_40 [18, 19, 20, 21, 22] rfl rfl rfl rfl (Nat.le_of_ble_eq_true rfl) rfl rfl rfl ?_
          simp only [zpk, List.getD_cons_succ, List.getD_cons_zero]
          refine a_astore_4 (pc := 43) dX5_hour_43 rfl (by decide) ?_
          refine a_aload_4 (pc := 45) dX5_hour_45 ?_
          refine a_iload_1 (pc := 47) dX5_hour_47 ?_
          refine a_ialdN (pc := 48) dX5_hour_48 rfl (by omega) (by decide) ?_
          refine a_istore_5 (pc := 49) dX5_hour_49 rfl (by decide) ?_
          refine a_aload_4 (pc := 51) dX5_hour_51 ?_
          refine a_iload_1 (pc := 53) dX5_hour_53 ?_
          refine a_iload_3 (pc := 54) dX5_hour_54 ?_
          refine a_iastN (pc := 55) dX5_hour_55 rfl (by omega) (by decide) ?_
          refine a_iload_5 (pc := 56) dX5_hour_56 ?_
          refine a_i2l (pc := 58) dX5_hour_58 ?_
          exact a_lret (pc := 59) dX5_hour_59 rfl rfl (by
              first
              | (have e_ : o_hour σ (nI k) 0 (nI mm_) = ((nI (σ.2.1 4 k)).toInt64, (σ.1, zu2 σ.2.1 4 (zuN (σ.2.1 4) k mm_), σ.2.2)) := by
                  unfold o_hour
                  rw [if_neg (fun h => h.elim c_7 (fun h => h.elim c_16 c_28)), nI_clamp (by omega), nI_clamp (by omega)]
                  rfl
                 exact zret' x0 e_ (by rw [updN]; rfl))
              | (have e_ : o_hour σ (nI k) 1 (nI mm_) = ((nI (σ.2.1 5 k)).toInt64, (σ.1, zu2 σ.2.1 5 (zuN (σ.2.1 5) k mm_), σ.2.2)) := by
                  unfold o_hour
                  rw [if_neg (fun h => h.elim c_7 (fun h => h.elim c_16 c_28)), nI_clamp (by omega), nI_clamp (by omega)]
                  rfl
                 exact zret' x0 e_ (by rw [updN]; rfl)))
        · obtain ⟨mm_, hm_, rfl⟩ : ∃ z, z ≤ 999 ∧ v = nI z := zrange (hi := if (1 : Int32) = 0 then 99 else 999) (n := 999) (by decide) (by decide +kernel) c_28
          refine a_aload_0 (pc := 35) dX5_hour_35 ?_
          refine a_getf (ci := 5) (j := 5) rfl win_X5 (by decide) (pc := 36) dX5_hour_36 kf_X5_40 rfl rfl ?_
          refine a_iload_2 (pc := 39) dX5_hour_39 ?_
          first
            | refine cV_P (ad := ad) (q0 := 18) (S2 := sX1_rowOf) (c_rowOf0 l G (zpk ad [18, 19, 20, 21, 22]) (fun k => nI (σ.2.1 4 k)) (fun k => nI (σ.2.1 5 k)) x0.2.2.2.2.2.2.1 x0.2.2.2.2.2.2.2 0 rfl) kc_X1_rowOf km_X5_207 ki_X1_rowOf kv_X1_rowOf kini_X1 ⟨kn_X1_rowOf, by decide, by decide⟩ (pc := 40) dX5_hour_40 [18, 19, 20, 21, 22] rfl rfl rfl rfl (Nat.le_of_ble_eq_true rfl) rfl rfl rfl ?_
            | refine cV_P (ad := ad) (q0 := 18) (S2 := sX1_rowOf) (c_rowOf1 l G (zpk ad [18, 19, 20, 21, 22]) (fun k => nI (σ.2.1 4 k)) (fun k => nI (σ.2.1 5 k)) x0.2.2.2.2.2.2.1 x0.2.2.2.2.2.2.2 1 (by decide)) kc_X1_rowOf km_X5_207 ki_X1_rowOf kv_X1_rowOf kini_X1 ⟨kn_X1_rowOf, by decide, by decide⟩ (pc := 40) dX5_hour_40 [18, 19, 20, 21, 22] rfl rfl rfl rfl (Nat.le_of_ble_eq_true rfl) rfl rfl rfl ?_
          simp only [zpk, List.getD_cons_succ, List.getD_cons_zero]
          refine a_astore_4 (pc := 43) dX5_hour_43 rfl (by decide) ?_
          refine a_aload_4 (pc := 45) dX5_hour_45 ?_
          refine a_iload_1 (pc := 47) dX5_hour_47 ?_
          refine a_ialdN (pc := 48) dX5_hour_48 rfl (by omega) (by decide) ?_
          refine a_istore_5 (pc := 49) dX5_hour_49 rfl (by decide) ?_
          refine a_aload_4 (pc := 51) dX5_hour_51 ?_
          refine a_iload_1 (pc := 53) dX5_hour_53 ?_
          refine a_iload_3 (pc := 54) dX5_hour_54 ?_
          refine a_iastN (pc := 55) dX5_hour_55 rfl (by omega) (by decide) ?_
          refine a_iload_5 (pc := 56) dX5_hour_56 ?_
          refine a_i2l (pc := 58) dX5_hour_58 ?_
          exact a_lret (pc := 59) dX5_hour_59 rfl rfl (by
              first
              | (have e_ : o_hour σ (nI k) 0 (nI mm_) = ((nI (σ.2.1 4 k)).toInt64, (σ.1, zu2 σ.2.1 4 (zuN (σ.2.1 4) k mm_), σ.2.2)) := by
                  unfold o_hour
                  rw [if_neg (fun h => h.elim c_7 (fun h => h.elim c_16 c_28)), nI_clamp (by omega), nI_clamp (by omega)]
                  rfl
                 exact zret' x0 e_ (by rw [updN]; rfl))
              | (have e_ : o_hour σ (nI k) 1 (nI mm_) = ((nI (σ.2.1 5 k)).toInt64, (σ.1, zu2 σ.2.1 5 (zuN (σ.2.1 5) k mm_), σ.2.2)) := by
                  unfold o_hour
                  rw [if_neg (fun h => h.elim c_7 (fun h => h.elim c_16 c_28)), nI_clamp (by omega), nI_clamp (by omega)]
                  rfl
                 exact zret' x0 e_ (by rw [updN]; rfl)))
      · refine a_ldc2 (pc := 31) dX5_hour_31 kl_X5_68 ?_
        exact a_lret (pc := 34) dX5_hour_34 rfl rfl (by first | exact zret' x0 (if_pos (Or.inl c_7)) rfl | exact zret' x0 (if_pos (Or.inr (Or.inl c_16))) rfl | exact zret' x0 (if_pos (Or.inr (Or.inr c_28))) rfl)

set_option maxRecDepth 100000 in
set_option maxHeartbeats 4000000 in
theorem p_count (l : Launch) (G : zG) (ad : Nat → Nat) (σ : zσ) (x0 : zX) (hσ : zOk σ) (c : Int32) : zSem l G sX5_count [.ref (ad 0), .int c] (wP G ad σ x0) (zPost G ad (o_count σ c)) := by
  refine zEnterV (L := [some (.ref (ad 0)), some (.int c)]) (by decide) rfl (Nat.le_of_ble_eq_true rfl) rfl ?_
  refine a_iload_1 (pc := 0) dX5_count_0 ?_
  rcases zsw3 c with rfl | rfl | rfl | rfl | hc_
  · refine a_tableIn (off := 31) (tgt := 32) (pc := 1) dX5_count_1 (by decide) (by decide) (by decide) (by decide) ?_
    refine a_aload_0 (pc := 32) dX5_count_32 ?_
    refine a_getf (ci := 5) (j := 1) rfl win_X5 (by decide) (pc := 33) dX5_count_33 kf_X5_16 rfl rfl ?_
    refine cV_P (ad := ad) (q0 := 2) (S2 := sX2_standing) (c_standing l G (zpk ad [2, 3]) (zVesf σ) (nI (σ.1 0))) kc_X2_standing km_X5_271 ki_X2_standing kv_X2_standing kini_X2 ⟨kn_X2_standing, by decide, by decide⟩ (pc := 36) dX5_count_36 [2, 3] rfl rfl rfl rfl (Nat.le_of_ble_eq_true rfl) rfl rfl rfl ?_
    refine a_i2l (pc := 39) dX5_count_39 ?_
    exact a_lret (pc := 40) dX5_count_40 rfl rfl (zret' x0 (by unfold o_count; rw [if_pos rfl]) rfl)
  · refine a_tableIn (off := 40) (tgt := 41) (pc := 1) dX5_count_1 (by decide) (by decide) (by decide) (by decide) ?_
    refine a_aload_0 (pc := 41) dX5_count_41 ?_
    refine a_getf (ci := 5) (j := 1) rfl win_X5 (by decide) (pc := 42) dX5_count_42 kf_X5_16 rfl rfl ?_
    refine cV_P (ad := ad) (q0 := 2) (S2 := sX2_standing) (c_standing l G (zpk ad [2, 3]) (zVesf σ) (nI (σ.1 0))) kc_X2_standing km_X5_271 ki_X2_standing kv_X2_standing kini_X2 ⟨kn_X2_standing, by decide, by decide⟩ (pc := 45) dX5_count_45 [2, 3] rfl rfl rfl rfl (Nat.le_of_ble_eq_true rfl) rfl rfl rfl ?_
    refine a_i2l (pc := 48) dX5_count_48 ?_
    refine a_aload_0 (pc := 49) dX5_count_49 ?_
    refine a_getf (ci := 5) (j := 1) rfl win_X5 (by decide) (pc := 50) dX5_count_50 kf_X5_16 rfl rfl ?_
    refine a_getfN (ci := 2) (j := 1) rfl win_X2 (by decide) (pc := 53) dX5_count_53 kf_X5_73 rfl rfl ?_
    refine a_i2l (pc := 56) dX5_count_56 ?_
    refine a_lmul (pc := 57) dX5_count_57 ?_
    exact a_lret (pc := 58) dX5_count_58 rfl rfl (zret' x0 (by unfold o_count; rw [if_neg (by decide), if_pos rfl]) rfl)
  · refine a_tableIn (off := 58) (tgt := 59) (pc := 1) dX5_count_1 (by decide) (by decide) (by decide) (by decide) ?_
    refine a_aload_0 (pc := 59) dX5_count_59 ?_
    refine a_getf (ci := 5) (j := 10) rfl win_X5 (by decide) (pc := 60) dX5_count_60 kf_X5_61 rfl rfl ?_
    refine a_i2l (pc := 63) dX5_count_63 ?_
    exact a_lret (pc := 64) dX5_count_64 rfl rfl (zret' x0 (by unfold o_count; rw [if_neg (by decide), if_neg (by decide), if_pos rfl]) rfl)
  · refine a_tableIn (off := 64) (tgt := 65) (pc := 1) dX5_count_1 (by decide) (by decide) (by decide) (by decide) ?_
    refine a_aload_0 (pc := 65) dX5_count_65 ?_
    refine a_getf (ci := 5) (j := 6) rfl win_X5 (by decide) (pc := 66) dX5_count_66 kf_X5_47 rfl rfl ?_
    refine a_iconst (v := 0) (pc := 69) dX5_count_69 (by decide) ?_
    refine a_aaldN (k := 0) (pc := 70) dX5_count_70 rfl (by omega) (by decide) rfl ?_
    first
      | refine cV_P (ad := ad) (q0 := 24) (S2 := sX3_isMissing) (c_isMissing l G (zpk ad [24, 25]) (σ.2.2.2 0) (σ.2.2.1 0)) kc_X3_isMissing km_X5_211 ki_X3_isMissing kv_X3_isMissing kini_X3 ⟨kn_X3_isMissing, by decide, by decide⟩ (pc := 71) dX5_count_71 [24, 25] rfl rfl rfl rfl (Nat.le_of_ble_eq_true rfl) rfl rfl rfl ?_
      | refine cV_P (ad := ad) (q0 := 26) (S2 := sX3_isMissing) (c_isMissing l G (zpk ad [26, 27]) (σ.2.2.2 1) (σ.2.2.1 1)) kc_X3_isMissing km_X5_211 ki_X3_isMissing kv_X3_isMissing kini_X3 ⟨kn_X3_isMissing, by decide, by decide⟩ (pc := 71) dX5_count_71 [26, 27] rfl rfl rfl rfl (Nat.le_of_ble_eq_true rfl) rfl rfl rfl ?_
    first | refine a_if_eqB (tgt := 81) (pc := 74) dX5_count_74 (by decide) (fun c_74 => ?_) (fun c_74 => ?_) | refine a_if_eq (tgt := 81) (pc := 74) dX5_count_74 (by decide) (fun c_74 => ?_) (fun c_74 => ?_)
    · refine a_iconst (v := 1) (pc := 81) dX5_count_81 (by decide) ?_
      refine a_aload_0 (pc := 82) dX5_count_82 ?_
      refine a_getf (ci := 5) (j := 6) rfl win_X5 (by decide) (pc := 83) dX5_count_83 kf_X5_47 rfl rfl ?_
      refine a_iconst (v := 1) (pc := 86) dX5_count_86 (by decide) ?_
      refine a_aaldN (k := 1) (pc := 87) dX5_count_87 rfl (by omega) (by decide) rfl ?_
      first
        | refine cV_P (ad := ad) (q0 := 24) (S2 := sX3_isMissing) (c_isMissing l G (zpk ad [24, 25]) (σ.2.2.2 0) (σ.2.2.1 0)) kc_X3_isMissing km_X5_211 ki_X3_isMissing kv_X3_isMissing kini_X3 ⟨kn_X3_isMissing, by decide, by decide⟩ (pc := 88) dX5_count_88 [24, 25] rfl rfl rfl rfl (Nat.le_of_ble_eq_true rfl) rfl rfl rfl ?_
        | refine cV_P (ad := ad) (q0 := 26) (S2 := sX3_isMissing) (c_isMissing l G (zpk ad [26, 27]) (σ.2.2.2 1) (σ.2.2.1 1)) kc_X3_isMissing km_X5_211 ki_X3_isMissing kv_X3_isMissing kini_X3 ⟨kn_X3_isMissing, by decide, by decide⟩ (pc := 88) dX5_count_88 [26, 27] rfl rfl rfl rfl (Nat.le_of_ble_eq_true rfl) rfl rfl rfl ?_
      first | refine a_if_eqB (tgt := 98) (pc := 91) dX5_count_91 (by decide) (fun c_91 => ?_) (fun c_91 => ?_) | refine a_if_eq (tgt := 98) (pc := 91) dX5_count_91 (by decide) (fun c_91 => ?_) (fun c_91 => ?_)
      · refine a_iconst (v := 1) (pc := 98) dX5_count_98 (by decide) ?_
        refine a_iadd (pc := 99) dX5_count_99 ?_
        refine a_i2l (pc := 100) dX5_count_100 ?_
        exact a_lret (pc := 101) dX5_count_101 rfl rfl (zret' x0 (by unfold o_count; rw [if_neg (by decide), if_neg (by decide), if_neg (by decide), if_pos rfl]; first | rw [if_pos c_74, if_pos c_91] | rw [if_pos c_74, if_neg c_91] | rw [if_neg c_74, if_pos c_91] | rw [if_neg c_74, if_neg c_91]) rfl)
      · refine a_iconst (v := 0) (pc := 94) dX5_count_94 (by decide) ?_
        refine a_goto (tgt := 99) (pc := 95) dX5_count_95 (by decide) ?_
        refine a_iadd (pc := 99) dX5_count_99 ?_
        refine a_i2l (pc := 100) dX5_count_100 ?_
        exact a_lret (pc := 101) dX5_count_101 rfl rfl (zret' x0 (by unfold o_count; rw [if_neg (by decide), if_neg (by decide), if_neg (by decide), if_pos rfl]; first | rw [if_pos c_74, if_pos c_91] | rw [if_pos c_74, if_neg c_91] | rw [if_neg c_74, if_pos c_91] | rw [if_neg c_74, if_neg c_91]) rfl)
    · refine a_iconst (v := 0) (pc := 77) dX5_count_77 (by decide) ?_
      refine a_goto (tgt := 82) (pc := 78) dX5_count_78 (by decide) ?_
      refine a_aload_0 (pc := 82) dX5_count_82 ?_
      refine a_getf (ci := 5) (j := 6) rfl win_X5 (by decide) (pc := 83) dX5_count_83 kf_X5_47 rfl rfl ?_
      refine a_iconst (v := 1) (pc := 86) dX5_count_86 (by decide) ?_
      refine a_aaldN (k := 1) (pc := 87) dX5_count_87 rfl (by omega) (by decide) rfl ?_
      first
        | refine cV_P (ad := ad) (q0 := 24) (S2 := sX3_isMissing) (c_isMissing l G (zpk ad [24, 25]) (σ.2.2.2 0) (σ.2.2.1 0)) kc_X3_isMissing km_X5_211 ki_X3_isMissing kv_X3_isMissing kini_X3 ⟨kn_X3_isMissing, by decide, by decide⟩ (pc := 88) dX5_count_88 [24, 25] rfl rfl rfl rfl (Nat.le_of_ble_eq_true rfl) rfl rfl rfl ?_
        | refine cV_P (ad := ad) (q0 := 26) (S2 := sX3_isMissing) (c_isMissing l G (zpk ad [26, 27]) (σ.2.2.2 1) (σ.2.2.1 1)) kc_X3_isMissing km_X5_211 ki_X3_isMissing kv_X3_isMissing kini_X3 ⟨kn_X3_isMissing, by decide, by decide⟩ (pc := 88) dX5_count_88 [26, 27] rfl rfl rfl rfl (Nat.le_of_ble_eq_true rfl) rfl rfl rfl ?_
      first | refine a_if_eqB (tgt := 98) (pc := 91) dX5_count_91 (by decide) (fun c_91 => ?_) (fun c_91 => ?_) | refine a_if_eq (tgt := 98) (pc := 91) dX5_count_91 (by decide) (fun c_91 => ?_) (fun c_91 => ?_)
      · refine a_iconst (v := 1) (pc := 98) dX5_count_98 (by decide) ?_
        refine a_iadd (pc := 99) dX5_count_99 ?_
        refine a_i2l (pc := 100) dX5_count_100 ?_
        exact a_lret (pc := 101) dX5_count_101 rfl rfl (zret' x0 (by unfold o_count; rw [if_neg (by decide), if_neg (by decide), if_neg (by decide), if_pos rfl]; first | rw [if_pos c_74, if_pos c_91] | rw [if_pos c_74, if_neg c_91] | rw [if_neg c_74, if_pos c_91] | rw [if_neg c_74, if_neg c_91]) rfl)
      · refine a_iconst (v := 0) (pc := 94) dX5_count_94 (by decide) ?_
        refine a_goto (tgt := 99) (pc := 95) dX5_count_95 (by decide) ?_
        refine a_iadd (pc := 99) dX5_count_99 ?_
        refine a_i2l (pc := 100) dX5_count_100 ?_
        exact a_lret (pc := 101) dX5_count_101 rfl rfl (zret' x0 (by unfold o_count; rw [if_neg (by decide), if_neg (by decide), if_neg (by decide), if_pos rfl]; first | rw [if_pos c_74, if_pos c_91] | rw [if_pos c_74, if_neg c_91] | rw [if_neg c_74, if_pos c_91] | rw [if_neg c_74, if_neg c_91]) rfl)
  · refine a_tableOut (tgt := 102) (pc := 1) dX5_count_1 hc_ (by decide) ?_
    refine a_ldc2 (pc := 102) dX5_count_102 kl_X5_68 ?_
    exact a_lret (pc := 105) dX5_count_105 rfl rfl (zret' x0 (by unfold o_count; rw [if_neg (fun h => by subst h; exact absurd hc_ (by decide)), if_neg (fun h => by subst h; exact absurd hc_ (by decide)), if_neg (fun h => by subst h; exact absurd hc_ (by decide)), if_neg (fun h => by subst h; exact absurd hc_ (by decide))]) rfl)

set_option maxRecDepth 100000 in
set_option maxHeartbeats 4000000 in
theorem p_sheet (l : Launch) (G : zG) (ad : Nat → Nat) (σ : zσ) (x0 : zX) (hσ : zOk σ) (s : Int32) (n : Int32) : zSem l G sX5_sheet [.ref (ad 0), .int s, .int n] (wP G ad σ x0) (zPost G ad (o_sheet σ s n)) := by
  refine zEnterV (L := [some (.ref (ad 0)), some (.int s), some (.int n)]) (by decide) rfl (Nat.le_of_ble_eq_true rfl) rfl ?_
  refine a_iload_1 (pc := 0) dX5_sheet_0 ?_
  refine a_iconst (v := 0) (pc := 1) dX5_sheet_1 (by decide) ?_
  refine a_iconst (v := 1) (pc := 2) dX5_sheet_2 (by decide) ?_
  refine cS_P (S2 := sX5_outside) (c_outside l G _ _ _) kc_X5_outside km_X5_64 ks_X5_outside kini_X5 ⟨kn_X5_outside, by decide, by decide⟩ (pc := 3) dX5_sheet_3 [] rfl rfl rfl rfl (Nat.le_of_ble_eq_true rfl) ?_
  first | refine a_if_neB (tgt := 15) (pc := 6) dX5_sheet_6 (by decide) (fun c_6 => ?_) (fun c_6 => ?_) | refine a_if_ne (tgt := 15) (pc := 6) dX5_sheet_6 (by decide) (fun c_6 => ?_) (fun c_6 => ?_)
  · refine a_ldc2 (pc := 15) dX5_sheet_15 kl_X5_68 ?_
    exact a_lret (pc := 18) dX5_sheet_18 rfl rfl (by first | exact zret' x0 (if_pos (Or.inl c_6)) rfl | exact zret' x0 (if_pos (Or.inr c_12)) rfl)
  · refine a_iload_2 (pc := 9) dX5_sheet_9 ?_
    refine a_bipush (v := 24) (pc := 10) dX5_sheet_10 (by decide) ?_
    refine a_icmp_le (tgt := 19) (pc := 12) dX5_sheet_12 (by decide) (fun c_12 => ?_) (fun c_12 => ?_)
    · refine a_iload_2 (pc := 19) dX5_sheet_19 ?_
      refine a_if_ge (tgt := 27) (pc := 20) dX5_sheet_20 (by decide) (fun c_20 => ?_) (fun c_20 => ?_)
      · rcases zrange2 c_6 with rfl | rfl
        · refine a_aload_0 (pc := 27) dX5_sheet_27 ?_
          refine a_getf (ci := 5) (j := 6) rfl win_X5 (by decide) (pc := 28) dX5_sheet_28 kf_X5_47 rfl rfl ?_
          refine a_iload_1 (pc := 31) dX5_sheet_31 ?_
          refine a_aaldN (k := 0) (pc := 32) dX5_sheet_32 rfl (by decide) (by decide) rfl ?_
          refine a_iload_2 (pc := 33) dX5_sheet_33 ?_
          first
            | refine cV_0 (ad := ad) (q0 := 24) (S2 := sX3_begin) (c_begin l G (zpk ad [24, 25]) (σ.2.2.2 0) (σ.2.2.1 0) n) kc_X3_begin km_X5_256 ki_X3_begin kv_X3_begin kini_X3 ⟨kn_X3_begin, by decide, by decide⟩ (pc := 34) dX5_sheet_34 [24, 25] rfl rfl rfl rfl (Nat.le_of_ble_eq_true rfl) rfl rfl rfl (fun _ => wP G ad (σ.1, σ.2.1, zuZ σ.2.2.1 0 n, zuC σ.2.2.2 0 (zfill (σ.2.2.2 0) 24 0)) x0) (fun _ => rfl) (fun _u _ => ?_)
            | refine cV_0 (ad := ad) (q0 := 26) (S2 := sX3_begin) (c_begin l G (zpk ad [26, 27]) (σ.2.2.2 1) (σ.2.2.1 1) n) kc_X3_begin km_X5_256 ki_X3_begin kv_X3_begin kini_X3 ⟨kn_X3_begin, by decide, by decide⟩ (pc := 34) dX5_sheet_34 [26, 27] rfl rfl rfl rfl (Nat.le_of_ble_eq_true rfl) rfl rfl rfl (fun _ => wP G ad (σ.1, σ.2.1, zuZ σ.2.2.1 1 n, zuC σ.2.2.2 1 (zfill (σ.2.2.2 1) 24 0)) x0) (fun _ => rfl) (fun _u _ => ?_)
          refine a_iload_2 (pc := 37) dX5_sheet_37 ?_
          refine a_i2l (pc := 38) dX5_sheet_38 ?_
          exact a_lret (pc := 39) dX5_sheet_39 rfl rfl (zret' x0 (by unfold o_sheet; rw [if_neg (fun h => h.elim c_6 (fun h => h c_12)), if_neg (fun h => h c_20)]; rfl) rfl)
        · refine a_aload_0 (pc := 27) dX5_sheet_27 ?_
          refine a_getf (ci := 5) (j := 6) rfl win_X5 (by decide) (pc := 28) dX5_sheet_28 kf_X5_47 rfl rfl ?_
          refine a_iload_1 (pc := 31) dX5_sheet_31 ?_
          refine a_aaldN (k := 1) (pc := 32) dX5_sheet_32 rfl (by decide) (by decide) rfl ?_
          refine a_iload_2 (pc := 33) dX5_sheet_33 ?_
          first
            | refine cV_0 (ad := ad) (q0 := 24) (S2 := sX3_begin) (c_begin l G (zpk ad [24, 25]) (σ.2.2.2 0) (σ.2.2.1 0) n) kc_X3_begin km_X5_256 ki_X3_begin kv_X3_begin kini_X3 ⟨kn_X3_begin, by decide, by decide⟩ (pc := 34) dX5_sheet_34 [24, 25] rfl rfl rfl rfl (Nat.le_of_ble_eq_true rfl) rfl rfl rfl (fun _ => wP G ad (σ.1, σ.2.1, zuZ σ.2.2.1 0 n, zuC σ.2.2.2 0 (zfill (σ.2.2.2 0) 24 0)) x0) (fun _ => rfl) (fun _u _ => ?_)
            | refine cV_0 (ad := ad) (q0 := 26) (S2 := sX3_begin) (c_begin l G (zpk ad [26, 27]) (σ.2.2.2 1) (σ.2.2.1 1) n) kc_X3_begin km_X5_256 ki_X3_begin kv_X3_begin kini_X3 ⟨kn_X3_begin, by decide, by decide⟩ (pc := 34) dX5_sheet_34 [26, 27] rfl rfl rfl rfl (Nat.le_of_ble_eq_true rfl) rfl rfl rfl (fun _ => wP G ad (σ.1, σ.2.1, zuZ σ.2.2.1 1 n, zuC σ.2.2.2 1 (zfill (σ.2.2.2 1) 24 0)) x0) (fun _ => rfl) (fun _u _ => ?_)
          refine a_iload_2 (pc := 37) dX5_sheet_37 ?_
          refine a_i2l (pc := 38) dX5_sheet_38 ?_
          exact a_lret (pc := 39) dX5_sheet_39 rfl rfl (zret' x0 (by unfold o_sheet; rw [if_neg (fun h => h.elim c_6 (fun h => h c_12)), if_neg (fun h => h c_20)]; rfl) rfl)
      · refine a_ldc2 (pc := 23) dX5_sheet_23 kl_X5_254 ?_
        exact a_lret (pc := 26) dX5_sheet_26 rfl rfl (zret' x0 (by unfold o_sheet; rw [if_neg (fun h => h.elim c_6 (fun h => h c_12)), if_pos c_20]) rfl)
    · refine a_ldc2 (pc := 15) dX5_sheet_15 kl_X5_68 ?_
      exact a_lret (pc := 18) dX5_sheet_18 rfl rfl (by first | exact zret' x0 (if_pos (Or.inl c_6)) rfl | exact zret' x0 (if_pos (Or.inr c_12)) rfl)

set_option maxRecDepth 100000 in
set_option maxHeartbeats 4000000 in
theorem p_mark (l : Launch) (G : zG) (ad : Nat → Nat) (σ : zσ) (x0 : zX) (hσ : zOk σ) (s : Int32) (p : Int32) (v : Int32) : zSem l G sX5_mark [.ref (ad 0), .int s, .int p, .int v] (wP G ad σ x0) (zPost G ad (o_mark σ s p v)) := by
  refine zEnterV (L := [some (.ref (ad 0)), some (.int s), some (.int p), some (.int v), none]) (by decide) rfl (Nat.le_of_ble_eq_true rfl) rfl ?_
  refine a_iload_1 (pc := 0) dX5_mark_0 ?_
  refine a_iconst (v := 0) (pc := 1) dX5_mark_1 (by decide) ?_
  refine a_iconst (v := 1) (pc := 2) dX5_mark_2 (by decide) ?_
  refine cS_P (S2 := sX5_outside) (c_outside l G _ _ _) kc_X5_outside km_X5_64 ks_X5_outside kini_X5 ⟨kn_X5_outside, by decide, by decide⟩ (pc := 3) dX5_mark_3 [] rfl rfl rfl rfl (Nat.le_of_ble_eq_true rfl) ?_
  first | refine a_if_eqB (tgt := 13) (pc := 6) dX5_mark_6 (by decide) (fun c_6 => ?_) (fun c_6 => ?_) | refine a_if_eq (tgt := 13) (pc := 6) dX5_mark_6 (by decide) (fun c_6 => ?_) (fun c_6 => ?_)
  · rcases zrange2 c_6 with rfl | rfl
    · refine a_aload_0 (pc := 13) dX5_mark_13 ?_
      refine a_getf (ci := 5) (j := 6) rfl win_X5 (by decide) (pc := 14) dX5_mark_14 kf_X5_47 rfl rfl ?_
      refine a_iload_1 (pc := 17) dX5_mark_17 ?_
      refine a_aaldN (k := 0) (pc := 18) dX5_mark_18 rfl (by decide) (by decide) rfl ?_
      first
        | refine cV_P (ad := ad) (q0 := 24) (S2 := sX3_isMissing) (c_isMissing l G (zpk ad [24, 25]) (σ.2.2.2 0) (σ.2.2.1 0)) kc_X3_isMissing km_X5_211 ki_X3_isMissing kv_X3_isMissing kini_X3 ⟨kn_X3_isMissing, by decide, by decide⟩ (pc := 19) dX5_mark_19 [24, 25] rfl rfl rfl rfl (Nat.le_of_ble_eq_true rfl) rfl rfl rfl ?_
        | refine cV_P (ad := ad) (q0 := 26) (S2 := sX3_isMissing) (c_isMissing l G (zpk ad [26, 27]) (σ.2.2.2 1) (σ.2.2.1 1)) kc_X3_isMissing km_X5_211 ki_X3_isMissing kv_X3_isMissing kini_X3 ⟨kn_X3_isMissing, by decide, by decide⟩ (pc := 19) dX5_mark_19 [26, 27] rfl rfl rfl rfl (Nat.le_of_ble_eq_true rfl) rfl rfl rfl ?_
      first | refine a_if_eqB (tgt := 29) (pc := 22) dX5_mark_22 (by decide) (fun c_22 => ?_) (fun c_22 => ?_) | refine a_if_eq (tgt := 29) (pc := 22) dX5_mark_22 (by decide) (fun c_22 => ?_) (fun c_22 => ?_)
      · refine a_aload_0 (pc := 29) dX5_mark_29 ?_
        refine a_getf (ci := 5) (j := 6) rfl win_X5 (by decide) (pc := 30) dX5_mark_30 kf_X5_47 rfl rfl ?_
        refine a_iload_1 (pc := 33) dX5_mark_33 ?_
        refine a_aaldN (k := 0) (pc := 34) dX5_mark_34 rfl (by decide) (by decide) rfl ?_
        refine a_iload_2 (pc := 35) dX5_mark_35 ?_
        first
          | refine cV_P (ad := ad) (q0 := 24) (S2 := sX3_has) (c_has l G (zpk ad [24, 25]) (σ.2.2.2 0) (σ.2.2.1 0) p) kc_X3_has km_X5_217 ki_X3_has kv_X3_has kini_X3 ⟨kn_X3_has, by decide, by decide⟩ (pc := 36) dX5_mark_36 [24, 25] rfl rfl rfl rfl (Nat.le_of_ble_eq_true rfl) rfl rfl rfl ?_
          | refine cV_P (ad := ad) (q0 := 26) (S2 := sX3_has) (c_has l G (zpk ad [26, 27]) (σ.2.2.2 1) (σ.2.2.1 1) p) kc_X3_has km_X5_217 ki_X3_has kv_X3_has kini_X3 ⟨kn_X3_has, by decide, by decide⟩ (pc := 36) dX5_mark_36 [26, 27] rfl rfl rfl rfl (Nat.le_of_ble_eq_true rfl) rfl rfl rfl ?_
        first | refine a_if_neB (tgt := 46) (pc := 39) dX5_mark_39 (by decide) (fun c_39 => ?_) (fun c_39 => ?_) | refine a_if_ne (tgt := 46) (pc := 39) dX5_mark_39 (by decide) (fun c_39 => ?_) (fun c_39 => ?_)
        · have hcc_ := c_39
          obtain ⟨k, hk_, rfl⟩ : ∃ k, k < 24 ∧ p = nI k := by first | exact zsize hσ (s := 0) (by decide) hcc_ | exact zsize hσ (s := 1) (by decide) hcc_
          refine a_aload_0 (pc := 46) dX5_mark_46 ?_
          refine a_getf (ci := 5) (j := 6) rfl win_X5 (by decide) (pc := 47) dX5_mark_47 kf_X5_47 rfl rfl ?_
          refine a_iload_1 (pc := 50) dX5_mark_50 ?_
          refine a_aaldN (k := 0) (pc := 51) dX5_mark_51 rfl (by decide) (by decide) rfl ?_
          refine a_getfN (ci := 3) (j := 0) rfl win_X3 (by decide) (pc := 52) dX5_mark_52 kf_X5_220 rfl rfl ?_
          refine a_iload_2 (pc := 55) dX5_mark_55 ?_
          refine a_saldN (pc := 56) dX5_mark_56 rfl (by omega) (by decide) ?_
          refine a_istore_4 (pc := 57) dX5_mark_57 rfl (by decide) ?_
          refine a_aload_0 (pc := 59) dX5_mark_59 ?_
          refine a_getf (ci := 5) (j := 6) rfl win_X5 (by decide) (pc := 60) dX5_mark_60 kf_X5_47 rfl rfl ?_
          refine a_iload_1 (pc := 63) dX5_mark_63 ?_
          refine a_aaldN (k := 0) (pc := 64) dX5_mark_64 rfl (by decide) (by decide) rfl ?_
          refine a_getfN (ci := 3) (j := 0) rfl win_X3 (by decide) (pc := 65) dX5_mark_65 kf_X5_220 rfl rfl ?_
          refine a_iload_2 (pc := 68) dX5_mark_68 ?_
          refine a_iload_3 (pc := 69) dX5_mark_69 ?_
          refine a_i2s (pc := 70) dX5_mark_70 ?_
          refine a_sastN (pc := 71) dX5_mark_71 rfl (by omega) (by decide) ?_
          refine a_iload_4 (pc := 72) dX5_mark_72 ?_
          refine a_i2l (pc := 74) dX5_mark_74 ?_
          exact a_lret (pc := 75) dX5_mark_75 rfl rfl (by
              first
              | exact zret' (σ' := (σ.1, σ.2.1, σ.2.2.1, zuC σ.2.2.2 0 (upd (σ.2.2.2 0) k (zShort v)))) x0 (by unfold o_mark; rw [if_neg c_6]; refine (if_neg c_22).trans ?_; refine (if_neg (fun h => h hcc_)).trans ?_; rw [nI_clamp (by omega)]; rfl) rfl
              | exact zret' (σ' := (σ.1, σ.2.1, σ.2.2.1, zuC σ.2.2.2 1 (upd (σ.2.2.2 1) k (zShort v)))) x0 (by unfold o_mark; rw [if_neg c_6]; refine (if_neg c_22).trans ?_; refine (if_neg (fun h => h hcc_)).trans ?_; rw [nI_clamp (by omega)]; rfl) rfl)
        · refine a_ldc2 (pc := 42) dX5_mark_42 kl_X5_260 ?_
          exact a_lret (pc := 45) dX5_mark_45 rfl rfl (zret' x0 (by unfold o_mark; rw [if_neg c_6]; refine (if_neg c_22).trans ?_; exact if_pos c_39) rfl)
      · refine a_ldc2 (pc := 25) dX5_mark_25 kl_X5_215 ?_
        exact a_lret (pc := 28) dX5_mark_28 rfl rfl (zret' x0 (by unfold o_mark; rw [if_neg c_6]; exact if_pos c_22) rfl)
    · refine a_aload_0 (pc := 13) dX5_mark_13 ?_
      refine a_getf (ci := 5) (j := 6) rfl win_X5 (by decide) (pc := 14) dX5_mark_14 kf_X5_47 rfl rfl ?_
      refine a_iload_1 (pc := 17) dX5_mark_17 ?_
      refine a_aaldN (k := 1) (pc := 18) dX5_mark_18 rfl (by decide) (by decide) rfl ?_
      first
        | refine cV_P (ad := ad) (q0 := 24) (S2 := sX3_isMissing) (c_isMissing l G (zpk ad [24, 25]) (σ.2.2.2 0) (σ.2.2.1 0)) kc_X3_isMissing km_X5_211 ki_X3_isMissing kv_X3_isMissing kini_X3 ⟨kn_X3_isMissing, by decide, by decide⟩ (pc := 19) dX5_mark_19 [24, 25] rfl rfl rfl rfl (Nat.le_of_ble_eq_true rfl) rfl rfl rfl ?_
        | refine cV_P (ad := ad) (q0 := 26) (S2 := sX3_isMissing) (c_isMissing l G (zpk ad [26, 27]) (σ.2.2.2 1) (σ.2.2.1 1)) kc_X3_isMissing km_X5_211 ki_X3_isMissing kv_X3_isMissing kini_X3 ⟨kn_X3_isMissing, by decide, by decide⟩ (pc := 19) dX5_mark_19 [26, 27] rfl rfl rfl rfl (Nat.le_of_ble_eq_true rfl) rfl rfl rfl ?_
      first | refine a_if_eqB (tgt := 29) (pc := 22) dX5_mark_22 (by decide) (fun c_22 => ?_) (fun c_22 => ?_) | refine a_if_eq (tgt := 29) (pc := 22) dX5_mark_22 (by decide) (fun c_22 => ?_) (fun c_22 => ?_)
      · refine a_aload_0 (pc := 29) dX5_mark_29 ?_
        refine a_getf (ci := 5) (j := 6) rfl win_X5 (by decide) (pc := 30) dX5_mark_30 kf_X5_47 rfl rfl ?_
        refine a_iload_1 (pc := 33) dX5_mark_33 ?_
        refine a_aaldN (k := 1) (pc := 34) dX5_mark_34 rfl (by decide) (by decide) rfl ?_
        refine a_iload_2 (pc := 35) dX5_mark_35 ?_
        first
          | refine cV_P (ad := ad) (q0 := 24) (S2 := sX3_has) (c_has l G (zpk ad [24, 25]) (σ.2.2.2 0) (σ.2.2.1 0) p) kc_X3_has km_X5_217 ki_X3_has kv_X3_has kini_X3 ⟨kn_X3_has, by decide, by decide⟩ (pc := 36) dX5_mark_36 [24, 25] rfl rfl rfl rfl (Nat.le_of_ble_eq_true rfl) rfl rfl rfl ?_
          | refine cV_P (ad := ad) (q0 := 26) (S2 := sX3_has) (c_has l G (zpk ad [26, 27]) (σ.2.2.2 1) (σ.2.2.1 1) p) kc_X3_has km_X5_217 ki_X3_has kv_X3_has kini_X3 ⟨kn_X3_has, by decide, by decide⟩ (pc := 36) dX5_mark_36 [26, 27] rfl rfl rfl rfl (Nat.le_of_ble_eq_true rfl) rfl rfl rfl ?_
        first | refine a_if_neB (tgt := 46) (pc := 39) dX5_mark_39 (by decide) (fun c_39 => ?_) (fun c_39 => ?_) | refine a_if_ne (tgt := 46) (pc := 39) dX5_mark_39 (by decide) (fun c_39 => ?_) (fun c_39 => ?_)
        · have hcc_ := c_39
          obtain ⟨k, hk_, rfl⟩ : ∃ k, k < 24 ∧ p = nI k := by first | exact zsize hσ (s := 0) (by decide) hcc_ | exact zsize hσ (s := 1) (by decide) hcc_
          refine a_aload_0 (pc := 46) dX5_mark_46 ?_
          refine a_getf (ci := 5) (j := 6) rfl win_X5 (by decide) (pc := 47) dX5_mark_47 kf_X5_47 rfl rfl ?_
          refine a_iload_1 (pc := 50) dX5_mark_50 ?_
          refine a_aaldN (k := 1) (pc := 51) dX5_mark_51 rfl (by decide) (by decide) rfl ?_
          refine a_getfN (ci := 3) (j := 0) rfl win_X3 (by decide) (pc := 52) dX5_mark_52 kf_X5_220 rfl rfl ?_
          refine a_iload_2 (pc := 55) dX5_mark_55 ?_
          refine a_saldN (pc := 56) dX5_mark_56 rfl (by omega) (by decide) ?_
          refine a_istore_4 (pc := 57) dX5_mark_57 rfl (by decide) ?_
          refine a_aload_0 (pc := 59) dX5_mark_59 ?_
          refine a_getf (ci := 5) (j := 6) rfl win_X5 (by decide) (pc := 60) dX5_mark_60 kf_X5_47 rfl rfl ?_
          refine a_iload_1 (pc := 63) dX5_mark_63 ?_
          refine a_aaldN (k := 1) (pc := 64) dX5_mark_64 rfl (by decide) (by decide) rfl ?_
          refine a_getfN (ci := 3) (j := 0) rfl win_X3 (by decide) (pc := 65) dX5_mark_65 kf_X5_220 rfl rfl ?_
          refine a_iload_2 (pc := 68) dX5_mark_68 ?_
          refine a_iload_3 (pc := 69) dX5_mark_69 ?_
          refine a_i2s (pc := 70) dX5_mark_70 ?_
          refine a_sastN (pc := 71) dX5_mark_71 rfl (by omega) (by decide) ?_
          refine a_iload_4 (pc := 72) dX5_mark_72 ?_
          refine a_i2l (pc := 74) dX5_mark_74 ?_
          exact a_lret (pc := 75) dX5_mark_75 rfl rfl (by
              first
              | exact zret' (σ' := (σ.1, σ.2.1, σ.2.2.1, zuC σ.2.2.2 0 (upd (σ.2.2.2 0) k (zShort v)))) x0 (by unfold o_mark; rw [if_neg c_6]; refine (if_neg c_22).trans ?_; refine (if_neg (fun h => h hcc_)).trans ?_; rw [nI_clamp (by omega)]; rfl) rfl
              | exact zret' (σ' := (σ.1, σ.2.1, σ.2.2.1, zuC σ.2.2.2 1 (upd (σ.2.2.2 1) k (zShort v)))) x0 (by unfold o_mark; rw [if_neg c_6]; refine (if_neg c_22).trans ?_; refine (if_neg (fun h => h hcc_)).trans ?_; rw [nI_clamp (by omega)]; rfl) rfl)
        · refine a_ldc2 (pc := 42) dX5_mark_42 kl_X5_260 ?_
          exact a_lret (pc := 45) dX5_mark_45 rfl rfl (zret' x0 (by unfold o_mark; rw [if_neg c_6]; refine (if_neg c_22).trans ?_; exact if_pos c_39) rfl)
      · refine a_ldc2 (pc := 25) dX5_mark_25 kl_X5_215 ?_
        exact a_lret (pc := 28) dX5_mark_28 rfl rfl (zret' x0 (by unfold o_mark; rw [if_neg c_6]; exact if_pos c_22) rfl)
  · refine a_ldc2 (pc := 9) dX5_mark_9 kl_X5_68 ?_
    exact a_lret (pc := 12) dX5_mark_12 rfl rfl (zret' x0 (if_pos c_6) rfl)

