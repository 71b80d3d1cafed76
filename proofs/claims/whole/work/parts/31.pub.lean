/-! The plant: calls without flows. -/
set_option maxRecDepth 100000 in
set_option maxHeartbeats 4000000 in
theorem p_length (l : Launch) (G : zG) (ad : Nat → Nat) (σ : zσ) (x0 : zX) (hσ : zOk σ) (n : Int32) : zSem l G sX5_length [.ref (ad 0), .int n] (wP G ad σ x0) (zPost G ad (o_length σ n)) := by
  refine zEnterV (L := [some (.ref (ad 0)), some (.int n), none]) (by decide) rfl (Nat.le_of_ble_eq_true rfl) rfl ?_
  refine a_iload_1 (pc := 0) dX5_length_0 ?_
  refine a_iconst (v := 1) (pc := 1) dX5_length_1 (by decide) ?_
  refine a_bipush (v := 6) (pc := 2) dX5_length_2 (by decide) ?_
  refine cS_P (S2 := sX5_outside) (c_outside l G _ _ _) kc_X5_outside km_X5_64 ks_X5_outside kini_X5 ⟨kn_X5_outside, by decide, by decide⟩ (pc := 4) dX5_length_4 [] rfl rfl rfl rfl (Nat.le_of_ble_eq_true rfl) ?_
  first | refine a_if_eqB (tgt := 14) (pc := 7) dX5_length_7 (by decide) (fun c_7 => ?_) (fun c_7 => ?_) | refine a_if_eq (tgt := 14) (pc := 7) dX5_length_7 (by decide) (fun c_7 => ?_) (fun c_7 => ?_)
  · obtain ⟨k, hk_, rfl⟩ := zrange1 (n := 6) (by decide) rfl c_7
    refine a_aload_0 (pc := 14) dX5_length_14 ?_
    refine a_getf (ci := 5) (j := 1) rfl win_X5 (by decide) (pc := 15) dX5_length_15 kf_X5_16 rfl rfl ?_
    refine a_getfN (ci := 2) (j := 1) rfl win_X2 (by decide) (pc := 18) dX5_length_18 kf_X5_73 rfl rfl ?_
    refine a_istore_2 (pc := 21) dX5_length_21 rfl (by decide) ?_
    refine a_aload_0 (pc := 22) dX5_length_22 ?_
    refine a_getf (ci := 5) (j := 1) rfl win_X5 (by decide) (pc := 23) dX5_length_23 kf_X5_16 rfl rfl ?_
    refine a_iload_1 (pc := 26) dX5_length_26 ?_
    refine a_putfN (ci := 2) (j := 1) rfl win_X2 tyX2_ok nmX2 (by decide) (pc := 27) dX5_length_27 kf_X5_73 rfl rfl rfl rfl rfl (Nat.le_of_ble_eq_true rfl) ?_
    refine a_iload_2 (pc := 30) dX5_length_30 ?_
    refine a_i2l (pc := 31) dX5_length_31 ?_
    exact a_lret (pc := 32) dX5_length_32 rfl rfl (by
        have e_ : o_length σ (nI k) = _ := if_neg c_7
        rw [nI_clamp (by omega)] at e_
        exact zret' x0 e_ rfl)
  · refine a_ldc2 (pc := 10) dX5_length_10 kl_X5_68 ?_
    exact a_lret (pc := 13) dX5_length_13 rfl rfl (zret' x0 (if_pos c_7) rfl)

theorem zrule_lo : ∀ k, k < 7 → ([0, 0, 0, 1, 0, 0, 0] : List Int32).getD k 0 = nI (zRuleLo k) := by decide +kernel
theorem zrule_hi : ∀ k, k < 7 → ([9999, 9999, 100, 1000, 30, 200, 200] : List Int32).getD k 0 = nI (zRuleHi k) := by decide +kernel
theorem zrule_hb : ∀ k, k < 7 → zRuleHi k < 2 ^ 31 ∧ (zRuleLo k = 0 ∨ zRuleLo k = 1) := by decide +kernel
theorem zrangeL {x : Int32} {lo n : Nat} (hl : lo < 2 ^ 31) (hn : n < 2 ^ 31) (h : ¬ zOR x (nI lo) (nI n)) : ∃ k, (lo ≤ k ∧ k ≤ n) ∧ x = nI k := by
  have h1 : ¬ x.toInt < lo := fun q => h (Or.inl (Int32.lt_iff_toInt_lt.mpr (by rw [nI_toInt hl]; exact q)))
  have h2 : ¬ (n : Int) < x.toInt := fun q => h (Or.inr (Int32.lt_iff_toInt_lt.mpr (by rw [nI_toInt hn]; exact q)))
  exact ⟨x.toInt.toNat, by omega, i_toNat (by omega)⟩
