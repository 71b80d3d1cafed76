/-! The model: hours, sheets. -/
theorem zrangeW {v w : Int32} (h : ¬ zOR v 0 (if w = 0 then 99 else 999)) : ∃ z, z ≤ 999 ∧ v = nI z := by
  by_cases hw : w = 0
  · rw [if_pos hw] at h
    obtain ⟨z, hz, e⟩ := zrange (n := 99) (by decide) (by decide +kernel) h
    exact ⟨z, by omega, e⟩
  · rw [if_neg hw] at h
    exact zrange (n := 999) (by decide) (by decide +kernel) h
theorem zsz {σ : zσ} (hσ : zOk σ) {s : Nat} (hs : s < 2) (h : 0 ≤ σ.2.2.1 s) : ∃ n, n ≤ 24 ∧ σ.2.2.1 s = nI n := by
  rcases hσ.2.2.2.2.2.2.2.2.2.2.2.2.1 s hs with e | e
  · rw [e] at h; exact absurd h (by decide)
  · exact e
theorem zsz_n {σ : zσ} (hσ : zOk σ) {s : Nat} (hs : s < 2) (h : ¬ 0 ≤ σ.2.2.1 s) : σ.2.2.1 s = -1 := by
  rcases hσ.2.2.2.2.2.2.2.2.2.2.2.2.1 s hs with e | ⟨n, hn, e⟩
  · exact e
  · rw [e] at h; exact absurd ((zI_le (a := 0) (b := n) (by decide) (by omega)).mpr (by omega)) h
theorem zsz_p {x : Int32} (h : 0 ≤ x) : ¬ x = -1 := fun e => by rw [e] at h; exact absurd h (by decide)
theorem zlt_of {a b : Int32} (h : ¬ b ≤ a) : a < b := Int32.lt_iff_toInt_lt.mpr (by have := mt Int32.le_iff_toInt_le.mpr h; omega)
theorem znI_pos {k : Nat} (h : k < 2 ^ 31) : ¬ nI k < 0 := nI_pos h
set_option maxRecDepth 100000 in
set_option maxHeartbeats 4000000 in
/-- isSheet -/
theorem m_isSheet (l : Launch) (G : zG) (s : Int32) : zSem l G sX6_isSheet [.int s] ([]) (zP (.int (zB (¬ zOR s 0 1))) []) := by
  refine zEnterV (L := [some (.int s)]) (by decide) rfl (Nat.le_of_ble_eq_true rfl) rfl ?_
  refine a_iload_0 (pc := 0) dX6_isSheet_0 ?_
  refine a_iconst (v := 0) (pc := 1) dX6_isSheet_1 (by decide) ?_
  refine a_iconst (v := 1) (pc := 2) dX6_isSheet_2 (by decide) ?_
  refine cS_P (S2 := sX6_isIn) (m_isIn l G _ _ _) kc_X6_isIn km_X6_75 ks_X6_isIn kini_X6 ⟨kn_X6_isIn, by decide, by decide⟩ (pc := 3) dX6_isSheet_3 [] rfl rfl rfl rfl (Nat.le_of_ble_eq_true rfl) ?_
  exact a_zret (pc := 6) dX6_isSheet_6 rfl (zB_or _) rfl ⟨rfl, rfl⟩

set_option maxRecDepth 100000 in
set_option maxHeartbeats 4000000 in
theorem m_hour (l : Launch) (G : zG) (ad : Nat → Nat) (σ : zσ) (x0 : zY) (hσ : zOk σ) (hN : zNb σ x0.1) (h : Int32) (w : Int32) (v : Int32) : zSem l G sX6_hour [.ref (ad 0), .int h, .int w, .int v] (wM G ad σ x0) (zPostM G ad (o_hour σ h w v)) := by
  refine zEnterV (L := [some (.ref (ad 0)), some (.int h), some (.int w), some (.int v), none]) (by decide) rfl (Nat.le_of_ble_eq_true rfl) rfl ?_
  refine a_iload_1 (pc := 0) dX6_hour_0 ?_
  refine a_iconst (v := 0) (pc := 1) dX6_hour_1 (by decide) ?_
  refine a_bipush (v := 11) (pc := 2) dX6_hour_2 (by decide) ?_
  refine cS_P (S2 := sX6_isIn) (m_isIn l G _ _ _) kc_X6_isIn km_X6_75 ks_X6_isIn kini_X6 ⟨kn_X6_isIn, by decide, by decide⟩ (pc := 4) dX6_hour_4 [] rfl rfl rfl rfl (Nat.le_of_ble_eq_true rfl) ?_
  first | refine a_if_eqB (tgt := 39) (pc := 7) dX6_hour_7 (by decide) (fun c_7 => ?_) (fun c_7 => ?_) | refine a_if_eq (tgt := 39) (pc := 7) dX6_hour_7 (by decide) (fun c_7 => ?_) (fun c_7 => ?_)
  · refine a_ldc2 (pc := 39) dX6_hour_39 kl_X6_79 ?_
    exact a_lret (pc := 42) dX6_hour_42 rfl rfl (by first | exact mret x0 (if_pos (Or.inl (Decidable.not_not.mp c_7))) hN rfl | exact mret x0 (if_pos (Or.inr (Or.inl (Decidable.not_not.mp c_16)))) hN rfl | exact mret x0 (if_pos (Or.inr (Or.inr (Decidable.not_not.mp c_36)))) hN rfl)
  · refine a_iload_2 (pc := 10) dX6_hour_10 ?_
    refine a_iconst (v := 0) (pc := 11) dX6_hour_11 (by decide) ?_
    refine a_iconst (v := 1) (pc := 12) dX6_hour_12 (by decide) ?_
    refine cS_P (S2 := sX6_isIn) (m_isIn l G _ _ _) kc_X6_isIn km_X6_75 ks_X6_isIn kini_X6 ⟨kn_X6_isIn, by decide, by decide⟩ (pc := 13) dX6_hour_13 [] rfl rfl rfl rfl (Nat.le_of_ble_eq_true rfl) ?_
    first | refine a_if_eqB (tgt := 39) (pc := 16) dX6_hour_16 (by decide) (fun c_16 => ?_) (fun c_16 => ?_) | refine a_if_eq (tgt := 39) (pc := 16) dX6_hour_16 (by decide) (fun c_16 => ?_) (fun c_16 => ?_)
    · refine a_ldc2 (pc := 39) dX6_hour_39 kl_X6_79 ?_
      exact a_lret (pc := 42) dX6_hour_42 rfl rfl (by first | exact mret x0 (if_pos (Or.inl (Decidable.not_not.mp c_7))) hN rfl | exact mret x0 (if_pos (Or.inr (Or.inl (Decidable.not_not.mp c_16)))) hN rfl | exact mret x0 (if_pos (Or.inr (Or.inr (Decidable.not_not.mp c_36)))) hN rfl)
    · have J33_ : ∀ y_ : Int32, y_ = (if w = 0 then 99 else 999) → AV l G sX6_hour (wM G ad σ x0) (zPostM G ad (o_hour σ h w v)) 33 [some (.ref (ad 0)), some (.int h), some (.int w), some (.int v), none] [.int y_, .int 0, .int v] (wM G ad σ x0) := by
        intro y_ hy_; subst hy_
        refine cS_P (S2 := sX6_isIn) (m_isIn l G _ _ _) kc_X6_isIn km_X6_75 ks_X6_isIn kini_X6 ⟨kn_X6_isIn, by decide, by decide⟩ (pc := 33) dX6_hour_33 [] rfl rfl rfl rfl (Nat.le_of_ble_eq_true rfl) ?_
        first | refine a_if_neB (tgt := 43) (pc := 36) dX6_hour_36 (by decide) (fun c_36 => ?_) (fun c_36 => ?_) | refine a_if_ne (tgt := 43) (pc := 36) dX6_hour_36 (by decide) (fun c_36 => ?_) (fun c_36 => ?_)
        · obtain ⟨k, hk_, rfl⟩ := zrange (n := 11) (by decide) rfl c_7
          obtain ⟨z_, hz_, rfl⟩ := zrangeW c_36
          refine a_iload_2 (pc := 43) dX6_hour_43 ?_
          first | refine a_if_neB (tgt := 56) (pc := 44) dX6_hour_44 (by decide) (fun c_44 => ?_) (fun c_44 => ?_) | refine a_if_ne (tgt := 56) (pc := 44) dX6_hour_44 (by decide) (fun c_44 => ?_) (fun c_44 => ?_)
          · refine a_aload_0 (pc := 56) dX6_hour_56 ?_
            refine a_getf (ci := 6) (j := 10) rfl win_X6 (by decide) (pc := 57) dX6_hour_57 kf_X6_38 rfl rfl ?_
            refine a_iload_1 (pc := 60) dX6_hour_60 ?_
            refine a_ialdN (pc := 61) dX6_hour_61 rfl (by omega) (by decide) ?_
            refine a_istore_4 (pc := 62) dX6_hour_62 rfl (by decide) ?_
            refine a_iload_2 (pc := 64) dX6_hour_64 ?_
            first | refine a_if_neB (tgt := 78) (pc := 65) dX6_hour_65 (by decide) (fun c_65 => ?_) (fun c_65 => ?_) | refine a_if_ne (tgt := 78) (pc := 65) dX6_hour_65 (by decide) (fun c_65 => ?_) (fun c_65 => ?_)
            · have hx65_ := c_65
              refine a_aload_0 (pc := 78) dX6_hour_78 ?_
              refine a_getf (ci := 6) (j := 10) rfl win_X6 (by decide) (pc := 79) dX6_hour_79 kf_X6_38 rfl rfl ?_
              refine a_iload_1 (pc := 82) dX6_hour_82 ?_
              refine a_iload_3 (pc := 83) dX6_hour_83 ?_
              refine a_iastN (pc := 84) dX6_hour_84 rfl (by omega) (by decide) ?_
              refine a_iload_4 (pc := 85) dX6_hour_85 ?_
              refine a_i2l (pc := 87) dX6_hour_87 ?_
              exact a_lret (pc := 88) dX6_hour_88 rfl rfl (by
                  first
                  | exact absurd c_65 c_44
                  | exact absurd c_44 c_65
                  | (have e_ : o_hour σ (nI k) w (nI z_) = ((nI (σ.2.1 4 k)).toInt64, (σ.1, zu2 σ.2.1 4 (zuN (σ.2.1 4) k z_), σ.2.2)) := by
                      unfold o_hour
                      rw [if_neg (fun h => h.elim c_7 (fun h => h.elim c_16 c_36)), nI_clamp (by omega), nI_clamp (by omega), if_pos c_44]
                     exact mret x0 e_ hN (by rw [updN]; rfl))
                  | (have e_ : o_hour σ (nI k) w (nI z_) = ((nI (σ.2.1 5 k)).toInt64, (σ.1, zu2 σ.2.1 5 (zuN (σ.2.1 5) k z_), σ.2.2)) := by
                      unfold o_hour
                      rw [if_neg (fun h => h.elim c_7 (fun h => h.elim c_16 c_36)), nI_clamp (by omega), nI_clamp (by omega), if_neg c_44]
                     exact mret x0 e_ hN (by rw [updN]; rfl)))
            · refine a_aload_0 (pc := 68) dX6_hour_68 ?_
              refine a_getf (ci := 6) (j := 9) rfl win_X6 (by decide) (pc := 69) dX6_hour_69 kf_X6_35 rfl rfl ?_
              refine a_iload_1 (pc := 72) dX6_hour_72 ?_
              refine a_iload_3 (pc := 73) dX6_hour_73 ?_
              refine a_iastN (pc := 74) dX6_hour_74 rfl (by omega) (by decide) ?_
              refine a_goto (tgt := 85) (pc := 75) dX6_hour_75 (by decide) ?_
              refine a_iload_4 (pc := 85) dX6_hour_85 ?_
              refine a_i2l (pc := 87) dX6_hour_87 ?_
              exact a_lret (pc := 88) dX6_hour_88 rfl rfl (by
                  first
                  | exact absurd c_65 c_44
                  | exact absurd c_44 c_65
                  | (have e_ : o_hour σ (nI k) w (nI z_) = ((nI (σ.2.1 4 k)).toInt64, (σ.1, zu2 σ.2.1 4 (zuN (σ.2.1 4) k z_), σ.2.2)) := by
                      unfold o_hour
                      rw [if_neg (fun h => h.elim c_7 (fun h => h.elim c_16 c_36)), nI_clamp (by omega), nI_clamp (by omega), if_pos c_44]
                     exact mret x0 e_ hN (by rw [updN]; rfl))
                  | (have e_ : o_hour σ (nI k) w (nI z_) = ((nI (σ.2.1 5 k)).toInt64, (σ.1, zu2 σ.2.1 5 (zuN (σ.2.1 5) k z_), σ.2.2)) := by
                      unfold o_hour
                      rw [if_neg (fun h => h.elim c_7 (fun h => h.elim c_16 c_36)), nI_clamp (by omega), nI_clamp (by omega), if_neg c_44]
                     exact mret x0 e_ hN (by rw [updN]; rfl)))
          · refine a_aload_0 (pc := 47) dX6_hour_47 ?_
            refine a_getf (ci := 6) (j := 9) rfl win_X6 (by decide) (pc := 48) dX6_hour_48 kf_X6_35 rfl rfl ?_
            refine a_iload_1 (pc := 51) dX6_hour_51 ?_
            refine a_ialdN (pc := 52) dX6_hour_52 rfl (by omega) (by decide) ?_
            refine a_goto (tgt := 62) (pc := 53) dX6_hour_53 (by decide) ?_
            refine a_istore_4 (pc := 62) dX6_hour_62 rfl (by decide) ?_
            refine a_iload_2 (pc := 64) dX6_hour_64 ?_
            first | refine a_if_neB (tgt := 78) (pc := 65) dX6_hour_65 (by decide) (fun c_65 => ?_) (fun c_65 => ?_) | refine a_if_ne (tgt := 78) (pc := 65) dX6_hour_65 (by decide) (fun c_65 => ?_) (fun c_65 => ?_)
            · have hx65_ := c_65
              refine a_aload_0 (pc := 78) dX6_hour_78 ?_
              refine a_getf (ci := 6) (j := 10) rfl win_X6 (by decide) (pc := 79) dX6_hour_79 kf_X6_38 rfl rfl ?_
              refine a_iload_1 (pc := 82) dX6_hour_82 ?_
              refine a_iload_3 (pc := 83) dX6_hour_83 ?_
              refine a_iastN (pc := 84) dX6_hour_84 rfl (by omega) (by decide) ?_
              refine a_iload_4 (pc := 85) dX6_hour_85 ?_
              refine a_i2l (pc := 87) dX6_hour_87 ?_
              exact a_lret (pc := 88) dX6_hour_88 rfl rfl (by
                  first
                  | exact absurd c_65 c_44
                  | exact absurd c_44 c_65
                  | (have e_ : o_hour σ (nI k) w (nI z_) = ((nI (σ.2.1 4 k)).toInt64, (σ.1, zu2 σ.2.1 4 (zuN (σ.2.1 4) k z_), σ.2.2)) := by
                      unfold o_hour
                      rw [if_neg (fun h => h.elim c_7 (fun h => h.elim c_16 c_36)), nI_clamp (by omega), nI_clamp (by omega), if_pos c_44]
                     exact mret x0 e_ hN (by rw [updN]; rfl))
                  | (have e_ : o_hour σ (nI k) w (nI z_) = ((nI (σ.2.1 5 k)).toInt64, (σ.1, zu2 σ.2.1 5 (zuN (σ.2.1 5) k z_), σ.2.2)) := by
                      unfold o_hour
                      rw [if_neg (fun h => h.elim c_7 (fun h => h.elim c_16 c_36)), nI_clamp (by omega), nI_clamp (by omega), if_neg c_44]
                     exact mret x0 e_ hN (by rw [updN]; rfl)))
            · refine a_aload_0 (pc := 68) dX6_hour_68 ?_
              refine a_getf (ci := 6) (j := 9) rfl win_X6 (by decide) (pc := 69) dX6_hour_69 kf_X6_35 rfl rfl ?_
              refine a_iload_1 (pc := 72) dX6_hour_72 ?_
              refine a_iload_3 (pc := 73) dX6_hour_73 ?_
              refine a_iastN (pc := 74) dX6_hour_74 rfl (by omega) (by decide) ?_
              refine a_goto (tgt := 85) (pc := 75) dX6_hour_75 (by decide) ?_
              refine a_iload_4 (pc := 85) dX6_hour_85 ?_
              refine a_i2l (pc := 87) dX6_hour_87 ?_
              exact a_lret (pc := 88) dX6_hour_88 rfl rfl (by
                  first
                  | exact absurd c_65 c_44
                  | exact absurd c_44 c_65
                  | (have e_ : o_hour σ (nI k) w (nI z_) = ((nI (σ.2.1 4 k)).toInt64, (σ.1, zu2 σ.2.1 4 (zuN (σ.2.1 4) k z_), σ.2.2)) := by
                      unfold o_hour
                      rw [if_neg (fun h => h.elim c_7 (fun h => h.elim c_16 c_36)), nI_clamp (by omega), nI_clamp (by omega), if_pos c_44]
                     exact mret x0 e_ hN (by rw [updN]; rfl))
                  | (have e_ : o_hour σ (nI k) w (nI z_) = ((nI (σ.2.1 5 k)).toInt64, (σ.1, zu2 σ.2.1 5 (zuN (σ.2.1 5) k z_), σ.2.2)) := by
                      unfold o_hour
                      rw [if_neg (fun h => h.elim c_7 (fun h => h.elim c_16 c_36)), nI_clamp (by omega), nI_clamp (by omega), if_neg c_44]
                     exact mret x0 e_ hN (by rw [updN]; rfl)))
        · refine a_ldc2 (pc := 39) dX6_hour_39 kl_X6_79 ?_
          exact a_lret (pc := 42) dX6_hour_42 rfl rfl (by first | exact mret x0 (if_pos (Or.inl (Decidable.not_not.mp c_7))) hN rfl | exact mret x0 (if_pos (Or.inr (Or.inl (Decidable.not_not.mp c_16)))) hN rfl | exact mret x0 (if_pos (Or.inr (Or.inr (Decidable.not_not.mp c_36)))) hN rfl)
      refine a_iload_3 (pc := 19) dX6_hour_19 ?_
      refine a_iconst (v := 0) (pc := 20) dX6_hour_20 (by decide) ?_
      refine a_iload_2 (pc := 21) dX6_hour_21 ?_
      first | refine a_if_neB (tgt := 30) (pc := 22) dX6_hour_22 (by decide) (fun c_22 => ?_) (fun c_22 => ?_) | refine a_if_ne (tgt := 30) (pc := 22) dX6_hour_22 (by decide) (fun c_22 => ?_) (fun c_22 => ?_)
      · have e33_ : (999 : Int32) = if w = 0 then 99 else 999 := (if_neg c_22).symm
        refine a_sipush (v := 999) (pc := 30) dX6_hour_30 (by decide) ?_
        exact J33_ _ e33_
      · have e33_ : (99 : Int32) = if w = 0 then 99 else 999 := (if_pos c_22).symm
        refine a_bipush (v := 99) (pc := 25) dX6_hour_25 (by decide) ?_
        refine a_goto (tgt := 33) (pc := 27) dX6_hour_27 (by decide) ?_
        exact J33_ _ e33_

theorem zmin12 {x : Int32} (h : 12 ≤ x) : (if (12 : Int32) < x then 12 else x).toInt64 = 12 := by
  by_cases h2 : (12 : Int32) < x
  · rw [if_pos h2]; decide +kernel
  · rw [if_neg h2]
    have e : x = 12 := Int32.toInt_inj.mp (by
      have a := Int32.le_iff_toInt_le.mp h
      have b := mt Int32.lt_iff_toInt_lt.mpr h2
      omega)
    rw [e]; decide +kernel
theorem zmin12n {x : Int32} (h : ¬ 12 ≤ x) : (if (12 : Int32) < x then 12 else x) = x := if_neg (fun h2 => h (Int32.le_iff_toInt_le.mpr (by have := Int32.lt_iff_toInt_lt.mp h2; omega)))
set_option maxRecDepth 100000 in
set_option maxHeartbeats 4000000 in
theorem lm_lay0 (l : Launch) (G : zG) (ad : Nat → Nat) (σ : zσ) (hσ : zOk σ) (x0 : zY) (hN : zNb σ x0.1) (w : Int32) (hw : w = 0) (t : Nat) (ht : t < 2) : ∀ (q i : Nat), i + q = 12 → AV l G sX6_lay (wM G ad σ x0) (zPostM G ad ((if (12 : Int32) < σ.2.2.1 t then 12 else σ.2.2.1 t).toInt64, zLayσ σ 0 t 12)) 35 [some (.ref (ad 0)), some (.int w), some (.int (nI t)), some (.int (nI i)), none] [] (wM G ad (zLayσ σ 0 t i) x0) := by
  intro q_
  induction q_ using Nat.strongRecOn
  rename_i q_ ih_
  intro i hq_
  refine a_iload_3 (pc := 35) dX6_lay_35 ?_
  refine a_bipush (v := 12) (pc := 36) dX6_lay_36 (by decide) ?_
  refine a_icmp_ge (tgt := 126) (pc := 38) dX6_lay_38 (by decide) (fun c_38 => ?_) (fun c_38 => ?_)
  · obtain rfl : i = 12 := by have := (zI_le (a := 12) (b := i) (by decide) (by omega)).mp c_38; omega
    refine a_aload_0 (pc := 126) dX6_lay_126 ?_
    refine a_getf (ci := 6) (j := 11) rfl win_X6 (by decide) (pc := 127) dX6_lay_127 kf_X6_41 rfl rfl ?_
    refine a_iload_2 (pc := 130) dX6_lay_130 ?_
    refine a_ialdN (pc := 131) dX6_lay_131 rfl (by omega) (by decide) ?_
    refine a_bipush (v := 12) (pc := 132) dX6_lay_132 (by decide) ?_
    refine a_icmp_ge (tgt := 147) (pc := 134) dX6_lay_134 (by decide) (fun c_134 => ?_) (fun c_134 => ?_)
    · refine a_ldc2 (pc := 147) dX6_lay_147 kl_X6_175 ?_
      exact a_lret (pc := 150) dX6_lay_150 rfl rfl (by first | exact mret (σ' := zLayσ σ 0 t 12) x0 (Prod.ext (zmin12 c_134) rfl) hN rfl | exact mret (σ' := zLayσ σ 0 t 12) x0 (Prod.ext (congrArg Int32.toInt64 (zmin12n c_134)) rfl) hN rfl)
    · refine a_aload_0 (pc := 137) dX6_lay_137 ?_
      refine a_getf (ci := 6) (j := 11) rfl win_X6 (by decide) (pc := 138) dX6_lay_138 kf_X6_41 rfl rfl ?_
      refine a_iload_2 (pc := 141) dX6_lay_141 ?_
      refine a_ialdN (pc := 142) dX6_lay_142 rfl (by omega) (by decide) ?_
      refine a_i2l (pc := 143) dX6_lay_143 ?_
      refine a_goto (tgt := 150) (pc := 144) dX6_lay_144 (by decide) ?_
      exact a_lret (pc := 150) dX6_lay_150 rfl rfl (by first | exact mret (σ' := zLayσ σ 0 t 12) x0 (Prod.ext (zmin12 c_134) rfl) hN rfl | exact mret (σ' := zLayσ σ 0 t 12) x0 (Prod.ext (congrArg Int32.toInt64 (zmin12n c_134)) rfl) hN rfl)
  · have hi_ : i < 12 := by have := mt (zI_le (a := 12) (b := i) (by decide) (by omega)).mpr c_38; omega
    have J66_ : ∀ x_ : Int32, x_ = zLay1 σ t i → AV l G sX6_lay (wM G ad σ x0) (zPostM G ad ((if (12 : Int32) < σ.2.2.1 t then 12 else σ.2.2.1 t).toInt64, zLayσ σ 0 t 12)) 66 [some (.ref (ad 0)), some (.int w), some (.int (nI t)), some (.int (nI i)), none] [.int x_] (wM G ad (zLayσ σ 0 t i) x0) := by
      intro x_ hx_; subst hx_
      refine a_istore_4 (pc := 66) dX6_lay_66 rfl (by decide) ?_
      refine a_iload_4 (pc := 68) dX6_lay_68 ?_
      refine a_iconst (v := 0) (pc := 70) dX6_lay_70 (by decide) ?_
      refine a_iload_1 (pc := 71) dX6_lay_71 ?_
      first | refine a_if_neB (tgt := 80) (pc := 72) dX6_lay_72 (by decide) (fun c_72 => ?_) (fun c_72 => ?_) | refine a_if_ne (tgt := 80) (pc := 72) dX6_lay_72 (by decide) (fun c_72 => ?_) (fun c_72 => ?_)
      · exact absurd hw c_72
      · refine a_bipush (v := 99) (pc := 75) dX6_lay_75 (by decide) ?_
        refine a_goto (tgt := 83) (pc := 77) dX6_lay_77 (by decide) ?_
        refine cS_P (S2 := sX6_isIn) (m_isIn l G _ _ _) kc_X6_isIn km_X6_75 ks_X6_isIn kini_X6 ⟨kn_X6_isIn, by decide, by decide⟩ (pc := 83) dX6_lay_83 [] rfl rfl rfl rfl (Nat.le_of_ble_eq_true rfl) ?_
        have J95_ : ∀ x_ : Int32, x_ = nI (zLayV σ 0 t i) → AV l G sX6_lay (wM G ad σ x0) (zPostM G ad ((if (12 : Int32) < σ.2.2.1 t then 12 else σ.2.2.1 t).toInt64, zLayσ σ 0 t 12)) 95 [some (.ref (ad 0)), some (.int w), some (.int (nI t)), some (.int (nI i)), some (.int (zLay1 σ t i))] [.int x_] (wM G ad (zLayσ σ 0 t i) x0) := by
          intro x_ hx_; subst hx_
          refine a_istore_4 (pc := 95) dX6_lay_95 rfl (by decide) ?_
          refine a_iload_1 (pc := 97) dX6_lay_97 ?_
          first | refine a_if_neB (tgt := 112) (pc := 98) dX6_lay_98 (by decide) (fun c_98 => ?_) (fun c_98 => ?_) | refine a_if_ne (tgt := 112) (pc := 98) dX6_lay_98 (by decide) (fun c_98 => ?_) (fun c_98 => ?_)
          · exact absurd hw c_98
          · refine a_aload_0 (pc := 101) dX6_lay_101 ?_
            refine a_getf (ci := 6) (j := 9) rfl win_X6 (by decide) (pc := 102) dX6_lay_102 kf_X6_35 rfl rfl ?_
            refine a_iload_3 (pc := 105) dX6_lay_105 ?_
            refine a_iload_4 (pc := 106) dX6_lay_106 ?_
            refine a_iastN (pc := 108) dX6_lay_108 rfl (by omega) (by decide) ?_
            refine a_goto (tgt := 120) (pc := 109) dX6_lay_109 (by decide) ?_
            refine a_iinc_3 (cst := 1) (pc := 120) dX6_lay_120 rfl (by decide) (by decide) ?_
            refine a_goto (tgt := 35) (pc := 123) dX6_lay_123 (by decide) ?_
            rw [← nI_succ]
            refine a_forget_4 (a_to (ih_ (q_ - 1) (by omega) (i + 1) (by omega)) rfl rfl rfl ?_)
            show wM G ad (zLayσ σ 0 t (i + 1)) x0 = (wM G ad (zLayσ σ 0 t i) x0).set 5 (ad 5, .inl (zcI G, 12, .inl (upd (fun j => nI (zfilN (σ.2.1 4) i (zLayV σ 0 t) j)) i (nI (zLayV σ 0 t i)))))
            rw [zfilN_s]
            rfl
        first | refine a_if_eqB (tgt := 94) (pc := 86) dX6_lay_86 (by decide) (fun c_86 => ?_) (fun c_86 => ?_) | refine a_if_eq (tgt := 94) (pc := 86) dX6_lay_86 (by decide) (fun c_86 => ?_) (fun c_86 => ?_)
        · have e95_ : (0 : Int32) = nI (zLayV σ 0 t i) := by rw [zLayV_v]; exact (if_pos (Decidable.not_not.mp c_86)).symm
          refine a_iconst (v := 0) (pc := 94) dX6_lay_94 (by decide) ?_
          exact J95_ _ e95_
        · have e95_ : zLay1 σ t i = nI (zLayV σ 0 t i) := by rw [zLayV_v]; exact (if_neg c_86).symm
          refine a_iload_4 (pc := 89) dX6_lay_89 ?_
          refine a_goto (tgt := 95) (pc := 91) dX6_lay_91 (by decide) ?_
          exact J95_ _ e95_
    refine a_iload_3 (pc := 41) dX6_lay_41 ?_
    refine a_aload_0 (pc := 42) dX6_lay_42 ?_
    refine a_getf (ci := 6) (j := 11) rfl win_X6 (by decide) (pc := 43) dX6_lay_43 kf_X6_41 rfl rfl ?_
    refine a_iload_2 (pc := 46) dX6_lay_46 ?_
    refine a_ialdN (pc := 47) dX6_lay_47 rfl (by omega) (by decide) ?_
    refine a_icmp_ge (tgt := 65) (pc := 48) dX6_lay_48 (by decide) (fun c_48 => ?_) (fun c_48 => ?_)
    · have e66_ : (0 : Int32) = zLay1 σ t i := (if_neg (fun h => h.2 c_48)).symm
      refine a_iconst (v := 0) (pc := 65) dX6_lay_65 (by decide) ?_
      exact J66_ _ e66_
    · have e66_ : σ.2.2.2 t i = zLay1 σ t i := (if_pos ⟨znI_pos (by omega), c_48⟩).symm
      refine a_aload_0 (pc := 51) dX6_lay_51 ?_
      refine a_getf (ci := 6) (j := 12) rfl win_X6 (by decide) (pc := 52) dX6_lay_52 kf_X6_44 rfl rfl ?_
      refine a_bipush (v := 24) (pc := 55) dX6_lay_55 (by decide) ?_
      refine a_iload_2 (pc := 57) dX6_lay_57 ?_
      refine a_imul (pc := 58) dX6_lay_58 ?_
      refine a_iload_3 (pc := 59) dX6_lay_59 ?_
      refine a_iadd (pc := 60) dX6_lay_60 ?_
      rw [show (24 : Int32) = nI 24 from rfl, ← zI_mul, ← zI_add]
      refine a_ialdN (pc := 61) dX6_lay_61 rfl (show 24 * t + i < 48 by omega) (by decide) ?_
      refine a_topI (hN t ht i (by omega) (zlt_of c_48)) ?_
      refine a_goto (tgt := 66) (pc := 62) dX6_lay_62 (by decide) ?_
      exact J66_ _ e66_

set_option maxRecDepth 100000 in
set_option maxHeartbeats 4000000 in
theorem lm_lay1 (l : Launch) (G : zG) (ad : Nat → Nat) (σ : zσ) (hσ : zOk σ) (x0 : zY) (hN : zNb σ x0.1) (w : Int32) (hw : ¬ w = 0) (t : Nat) (ht : t < 2) : ∀ (q i : Nat), i + q = 12 → AV l G sX6_lay (wM G ad σ x0) (zPostM G ad ((if (12 : Int32) < σ.2.2.1 t then 12 else σ.2.2.1 t).toInt64, zLayσ σ 1 t 12)) 35 [some (.ref (ad 0)), some (.int w), some (.int (nI t)), some (.int (nI i)), none] [] (wM G ad (zLayσ σ 1 t i) x0) := by
  intro q_
  induction q_ using Nat.strongRecOn
  rename_i q_ ih_
  intro i hq_
  refine a_iload_3 (pc := 35) dX6_lay_35 ?_
  refine a_bipush (v := 12) (pc := 36) dX6_lay_36 (by decide) ?_
  refine a_icmp_ge (tgt := 126) (pc := 38) dX6_lay_38 (by decide) (fun c_38 => ?_) (fun c_38 => ?_)
  · obtain rfl : i = 12 := by have := (zI_le (a := 12) (b := i) (by decide) (by omega)).mp c_38; omega
    refine a_aload_0 (pc := 126) dX6_lay_126 ?_
    refine a_getf (ci := 6) (j := 11) rfl win_X6 (by decide) (pc := 127) dX6_lay_127 kf_X6_41 rfl rfl ?_
    refine a_iload_2 (pc := 130) dX6_lay_130 ?_
    refine a_ialdN (pc := 131) dX6_lay_131 rfl (by omega) (by decide) ?_
    refine a_bipush (v := 12) (pc := 132) dX6_lay_132 (by decide) ?_
    refine a_icmp_ge (tgt := 147) (pc := 134) dX6_lay_134 (by decide) (fun c_134 => ?_) (fun c_134 => ?_)
    · refine a_ldc2 (pc := 147) dX6_lay_147 kl_X6_175 ?_
      exact a_lret (pc := 150) dX6_lay_150 rfl rfl (by first | exact mret (σ' := zLayσ σ 1 t 12) x0 (Prod.ext (zmin12 c_134) rfl) hN rfl | exact mret (σ' := zLayσ σ 1 t 12) x0 (Prod.ext (congrArg Int32.toInt64 (zmin12n c_134)) rfl) hN rfl)
    · refine a_aload_0 (pc := 137) dX6_lay_137 ?_
      refine a_getf (ci := 6) (j := 11) rfl win_X6 (by decide) (pc := 138) dX6_lay_138 kf_X6_41 rfl rfl ?_
      refine a_iload_2 (pc := 141) dX6_lay_141 ?_
      refine a_ialdN (pc := 142) dX6_lay_142 rfl (by omega) (by decide) ?_
      refine a_i2l (pc := 143) dX6_lay_143 ?_
      refine a_goto (tgt := 150) (pc := 144) dX6_lay_144 (by decide) ?_
      exact a_lret (pc := 150) dX6_lay_150 rfl rfl (by first | exact mret (σ' := zLayσ σ 1 t 12) x0 (Prod.ext (zmin12 c_134) rfl) hN rfl | exact mret (σ' := zLayσ σ 1 t 12) x0 (Prod.ext (congrArg Int32.toInt64 (zmin12n c_134)) rfl) hN rfl)
  · have hi_ : i < 12 := by have := mt (zI_le (a := 12) (b := i) (by decide) (by omega)).mpr c_38; omega
    have J66_ : ∀ x_ : Int32, x_ = zLay1 σ t i → AV l G sX6_lay (wM G ad σ x0) (zPostM G ad ((if (12 : Int32) < σ.2.2.1 t then 12 else σ.2.2.1 t).toInt64, zLayσ σ 1 t 12)) 66 [some (.ref (ad 0)), some (.int w), some (.int (nI t)), some (.int (nI i)), none] [.int x_] (wM G ad (zLayσ σ 1 t i) x0) := by
      intro x_ hx_; subst hx_
      refine a_istore_4 (pc := 66) dX6_lay_66 rfl (by decide) ?_
      refine a_iload_4 (pc := 68) dX6_lay_68 ?_
      refine a_iconst (v := 0) (pc := 70) dX6_lay_70 (by decide) ?_
      refine a_iload_1 (pc := 71) dX6_lay_71 ?_
      first | refine a_if_neB (tgt := 80) (pc := 72) dX6_lay_72 (by decide) (fun c_72 => ?_) (fun c_72 => ?_) | refine a_if_ne (tgt := 80) (pc := 72) dX6_lay_72 (by decide) (fun c_72 => ?_) (fun c_72 => ?_)
      · refine a_sipush (v := 999) (pc := 80) dX6_lay_80 (by decide) ?_
        refine cS_P (S2 := sX6_isIn) (m_isIn l G _ _ _) kc_X6_isIn km_X6_75 ks_X6_isIn kini_X6 ⟨kn_X6_isIn, by decide, by decide⟩ (pc := 83) dX6_lay_83 [] rfl rfl rfl rfl (Nat.le_of_ble_eq_true rfl) ?_
        have J95_ : ∀ x_ : Int32, x_ = nI (zLayV σ 1 t i) → AV l G sX6_lay (wM G ad σ x0) (zPostM G ad ((if (12 : Int32) < σ.2.2.1 t then 12 else σ.2.2.1 t).toInt64, zLayσ σ 1 t 12)) 95 [some (.ref (ad 0)), some (.int w), some (.int (nI t)), some (.int (nI i)), some (.int (zLay1 σ t i))] [.int x_] (wM G ad (zLayσ σ 1 t i) x0) := by
          intro x_ hx_; subst hx_
          refine a_istore_4 (pc := 95) dX6_lay_95 rfl (by decide) ?_
          refine a_iload_1 (pc := 97) dX6_lay_97 ?_
          first | refine a_if_neB (tgt := 112) (pc := 98) dX6_lay_98 (by decide) (fun c_98 => ?_) (fun c_98 => ?_) | refine a_if_ne (tgt := 112) (pc := 98) dX6_lay_98 (by decide) (fun c_98 => ?_) (fun c_98 => ?_)
          · refine a_aload_0 (pc := 112) dX6_lay_112 ?_
            refine a_getf (ci := 6) (j := 10) rfl win_X6 (by decide) (pc := 113) dX6_lay_113 kf_X6_38 rfl rfl ?_
            refine a_iload_3 (pc := 116) dX6_lay_116 ?_
            refine a_iload_4 (pc := 117) dX6_lay_117 ?_
            refine a_iastN (pc := 119) dX6_lay_119 rfl (by omega) (by decide) ?_
            refine a_iinc_3 (cst := 1) (pc := 120) dX6_lay_120 rfl (by decide) (by decide) ?_
            refine a_goto (tgt := 35) (pc := 123) dX6_lay_123 (by decide) ?_
            rw [← nI_succ]
            refine a_forget_4 (a_to (ih_ (q_ - 1) (by omega) (i + 1) (by omega)) rfl rfl rfl ?_)
            show wM G ad (zLayσ σ 1 t (i + 1)) x0 = (wM G ad (zLayσ σ 1 t i) x0).set 6 (ad 6, .inl (zcI G, 12, .inl (upd (fun j => nI (zfilN (σ.2.1 5) i (zLayV σ 1 t) j)) i (nI (zLayV σ 1 t i)))))
            rw [zfilN_s]
            rfl
          · exact absurd c_98 hw
        first | refine a_if_eqB (tgt := 94) (pc := 86) dX6_lay_86 (by decide) (fun c_86 => ?_) (fun c_86 => ?_) | refine a_if_eq (tgt := 94) (pc := 86) dX6_lay_86 (by decide) (fun c_86 => ?_) (fun c_86 => ?_)
        · have e95_ : (0 : Int32) = nI (zLayV σ 1 t i) := by rw [zLayV_v]; exact (if_pos (Decidable.not_not.mp c_86)).symm
          refine a_iconst (v := 0) (pc := 94) dX6_lay_94 (by decide) ?_
          exact J95_ _ e95_
        · have e95_ : zLay1 σ t i = nI (zLayV σ 1 t i) := by rw [zLayV_v]; exact (if_neg c_86).symm
          refine a_iload_4 (pc := 89) dX6_lay_89 ?_
          refine a_goto (tgt := 95) (pc := 91) dX6_lay_91 (by decide) ?_
          exact J95_ _ e95_
      · exact absurd c_72 hw
    refine a_iload_3 (pc := 41) dX6_lay_41 ?_
    refine a_aload_0 (pc := 42) dX6_lay_42 ?_
    refine a_getf (ci := 6) (j := 11) rfl win_X6 (by decide) (pc := 43) dX6_lay_43 kf_X6_41 rfl rfl ?_
    refine a_iload_2 (pc := 46) dX6_lay_46 ?_
    refine a_ialdN (pc := 47) dX6_lay_47 rfl (by omega) (by decide) ?_
    refine a_icmp_ge (tgt := 65) (pc := 48) dX6_lay_48 (by decide) (fun c_48 => ?_) (fun c_48 => ?_)
    · have e66_ : (0 : Int32) = zLay1 σ t i := (if_neg (fun h => h.2 c_48)).symm
      refine a_iconst (v := 0) (pc := 65) dX6_lay_65 (by decide) ?_
      exact J66_ _ e66_
    · have e66_ : σ.2.2.2 t i = zLay1 σ t i := (if_pos ⟨znI_pos (by omega), c_48⟩).symm
      refine a_aload_0 (pc := 51) dX6_lay_51 ?_
      refine a_getf (ci := 6) (j := 12) rfl win_X6 (by decide) (pc := 52) dX6_lay_52 kf_X6_44 rfl rfl ?_
      refine a_bipush (v := 24) (pc := 55) dX6_lay_55 (by decide) ?_
      refine a_iload_2 (pc := 57) dX6_lay_57 ?_
      refine a_imul (pc := 58) dX6_lay_58 ?_
      refine a_iload_3 (pc := 59) dX6_lay_59 ?_
      refine a_iadd (pc := 60) dX6_lay_60 ?_
      rw [show (24 : Int32) = nI 24 from rfl, ← zI_mul, ← zI_add]
      refine a_ialdN (pc := 61) dX6_lay_61 rfl (show 24 * t + i < 48 by omega) (by decide) ?_
      refine a_topI (hN t ht i (by omega) (zlt_of c_48)) ?_
      refine a_goto (tgt := 66) (pc := 62) dX6_lay_62 (by decide) ?_
      exact J66_ _ e66_

theorem zLayσ_0 (σ : zσ) (w s : Nat) : zLayσ σ w s 0 = σ := by unfold zLayσ; rw [zfilN_0, zu2_self]
set_option maxRecDepth 100000 in
set_option maxHeartbeats 4000000 in
theorem m_lay (l : Launch) (G : zG) (ad : Nat → Nat) (σ : zσ) (x0 : zY) (hσ : zOk σ) (hN : zNb σ x0.1) (w : Int32) (s : Int32) : zSem l G sX6_lay [.ref (ad 0), .int w, .int s] (wM G ad σ x0) (zPostM G ad (o_lay σ w s)) := by
  refine zEnterV (L := [some (.ref (ad 0)), some (.int w), some (.int s), none, none]) (by decide) rfl (Nat.le_of_ble_eq_true rfl) rfl ?_
  refine a_iload_1 (pc := 0) dX6_lay_0 ?_
  refine a_iconst (v := 0) (pc := 1) dX6_lay_1 (by decide) ?_
  refine a_iconst (v := 1) (pc := 2) dX6_lay_2 (by decide) ?_
  refine cS_P (S2 := sX6_isIn) (m_isIn l G _ _ _) kc_X6_isIn km_X6_75 ks_X6_isIn kini_X6 ⟨kn_X6_isIn, by decide, by decide⟩ (pc := 3) dX6_lay_3 [] rfl rfl rfl rfl (Nat.le_of_ble_eq_true rfl) ?_
  first | refine a_if_eqB (tgt := 16) (pc := 6) dX6_lay_6 (by decide) (fun c_6 => ?_) (fun c_6 => ?_) | refine a_if_eq (tgt := 16) (pc := 6) dX6_lay_6 (by decide) (fun c_6 => ?_) (fun c_6 => ?_)
  · refine a_ldc2 (pc := 16) dX6_lay_16 kl_X6_79 ?_
    exact a_lret (pc := 19) dX6_lay_19 rfl rfl (by first | exact mret x0 (if_pos (Or.inl (Decidable.not_not.mp c_6))) hN rfl | exact mret x0 (if_pos (Or.inr (Decidable.not_not.mp c_13))) hN rfl)
  · refine a_iload_2 (pc := 9) dX6_lay_9 ?_
    refine cS_P (S2 := sX6_isSheet) (m_isSheet l G _) kc_X6_isSheet km_X6_170 ks_X6_isSheet kini_X6 ⟨kn_X6_isSheet, by decide, by decide⟩ (pc := 10) dX6_lay_10 [] rfl rfl rfl rfl (Nat.le_of_ble_eq_true rfl) ?_
    first | refine a_if_neB (tgt := 20) (pc := 13) dX6_lay_13 (by decide) (fun c_13 => ?_) (fun c_13 => ?_) | refine a_if_ne (tgt := 20) (pc := 13) dX6_lay_13 (by decide) (fun c_13 => ?_) (fun c_13 => ?_)
    · obtain ⟨t, ht_, rfl⟩ := zrange (n := 1) (by decide) rfl c_13
      have ht2_ : t < 2 := by omega
      refine a_aload_0 (pc := 20) dX6_lay_20 ?_
      refine a_getf (ci := 6) (j := 11) rfl win_X6 (by decide) (pc := 21) dX6_lay_21 kf_X6_41 rfl rfl ?_
      refine a_iload_2 (pc := 24) dX6_lay_24 ?_
      refine a_ialdN (pc := 25) dX6_lay_25 rfl (by omega) (by decide) ?_
      refine a_if_ge (tgt := 33) (pc := 26) dX6_lay_26 (by decide) (fun c_26 => ?_) (fun c_26 => ?_)
      · refine a_iconst (v := 0) (pc := 33) dX6_lay_33 (by decide) ?_
        refine a_istore_3 (pc := 34) dX6_lay_34 rfl (by decide) ?_
        rcases zrange2 c_6 with rfl | rfl
        · have e_ : o_lay σ 0 (nI t) = ((if (12 : Int32) < σ.2.2.1 t then 12 else σ.2.2.1 t).toInt64, zLayσ σ 0 t 12) := by
            unfold o_lay
            rw [if_neg (fun h => h.elim c_6 c_13), nI_clamp (by omega)]
            exact if_neg (zsz_p c_26)
          rw [e_]
          exact a_to (lm_lay0 l G ad σ hσ x0 hN 0 rfl t ht2_ 12 0 (by omega)) rfl rfl rfl (by rw [zLayσ_0])
        · have e_ : o_lay σ 1 (nI t) = ((if (12 : Int32) < σ.2.2.1 t then 12 else σ.2.2.1 t).toInt64, zLayσ σ 1 t 12) := by
            unfold o_lay
            rw [if_neg (fun h => h.elim c_6 c_13), nI_clamp (by omega)]
            exact if_neg (zsz_p c_26)
          rw [e_]
          exact a_to (lm_lay1 l G ad σ hσ x0 hN 1 (by decide) t ht2_ 12 0 (by omega)) rfl rfl rfl (by rw [zLayσ_0])
      · refine a_ldc2 (pc := 29) dX6_lay_29 kl_X6_173 ?_
        exact a_lret (pc := 32) dX6_lay_32 rfl rfl (mret x0 (by unfold o_lay; rw [if_neg (fun h => h.elim c_6 c_13), nI_clamp (by omega)]; exact if_pos (zsz_n hσ ht2_ c_26)) hN rfl)
    · refine a_ldc2 (pc := 16) dX6_lay_16 kl_X6_79 ?_
      exact a_lret (pc := 19) dX6_lay_19 rfl rfl (by first | exact mret x0 (if_pos (Or.inl (Decidable.not_not.mp c_6))) hN rfl | exact mret x0 (if_pos (Or.inr (Decidable.not_not.mp c_13))) hN rfl)

def zNbS (f : Nat → Int32) (t i : Nat) : Nat → Int32 := fun k => if 24 * t ≤ k ∧ k < 24 * t + i then 0 else f k
theorem zNbS_0 (f : Nat → Int32) (t : Nat) : zNbS f t 0 = f := by funext k; exact if_neg (by omega)
theorem zNbS_s (f : Nat → Int32) (t i : Nat) : upd (zNbS f t i) (24 * t + i) 0 = zNbS f t (i + 1) := by
  funext k
  unfold upd zNbS
  by_cases h : k = 24 * t + i
  · rw [if_pos h, if_pos (by omega)]
  · rw [if_neg h]
    by_cases h2 : 24 * t ≤ k ∧ k < 24 * t + i
    · rw [if_pos h2, if_pos (by omega)]
    · rw [if_neg h2, if_neg (by omega)]
theorem zNb_sheet {σ : zσ} {nb : Nat → Int32} (hN : zNb σ nb) {t n : Nat} (ht : t < 2) (hn : n ≤ 24) : zNb (σ.1, σ.2.1, zuZ σ.2.2.1 t (nI n), zuC σ.2.2.2 t (zfill (σ.2.2.2 t) 24 0)) (zNbS nb t n) := by
  intro s hs k hk hlt
  show zNbS nb t n (24 * s + k) = zuC σ.2.2.2 t (zfill (σ.2.2.2 t) 24 0) s k
  have hlt2 : nI k < zuZ σ.2.2.1 t (nI n) s := hlt
  unfold zuZ at hlt2
  unfold zNbS zuC
  by_cases h : s = t
  · rw [if_pos h] at hlt2 ⊢
    have h3 := (zI_lt (by omega) (by omega)).mp hlt2
    rw [if_pos (by omega)]
    exact (if_pos hk).symm
  · rw [if_neg h] at hlt2 ⊢
    rw [if_neg (by omega)]
    exact hN s hs k hk hlt2
set_option maxRecDepth 100000 in
set_option maxHeartbeats 4000000 in
theorem lm_sheet (l : Launch) (G : zG) (ad : Nat → Nat) (σ : zσ) (x0 : zY) (hN : zNb σ x0.1) (t n : Nat) (ht : t < 2) (hn : n ≤ 24) : ∀ (q i : Nat), i + q = n → AV l G sX6_sheet (wM G ad σ x0) (zPostM G ad ((nI n).toInt64, (σ.1, σ.2.1, zuZ σ.2.2.1 t (nI n), zuC σ.2.2.2 t (zfill (σ.2.2.2 t) 24 0)))) 34 [some (.ref (ad 0)), some (.int (nI t)), some (.int (nI n)), some (.int (nI i))] [] (wM G ad (σ.1, σ.2.1, zuZ σ.2.2.1 t (nI n), σ.2.2.2) (zNbS x0.1 t i, x0.2)) := by
  intro q_
  induction q_ using Nat.strongRecOn
  rename_i q_ ih_
  intro i hq_
  refine a_iload_3 (pc := 34) dX6_sheet_34 ?_
  refine a_iload_2 (pc := 35) dX6_sheet_35 ?_
  refine a_icmp_ge (tgt := 57) (pc := 36) dX6_sheet_36 (by decide) (fun c_36 => ?_) (fun c_36 => ?_)
  · obtain rfl : i = n := by have := (zI_le (by omega) (by omega)).mp c_36; omega
    refine a_iload_2 (pc := 57) dX6_sheet_57 ?_
    refine a_i2l (pc := 58) dX6_sheet_58 ?_
    exact a_lret (pc := 59) dX6_sheet_59 rfl rfl (mret (σ' := (σ.1, σ.2.1, zuZ σ.2.2.1 t (nI i), zuC σ.2.2.2 t (zfill (σ.2.2.2 t) 24 0))) (zNbS x0.1 t i, x0.2) rfl (zNb_sheet hN ht hn) rfl)
  · have hi_ : i < n := by have := mt (zI_le (a := n) (b := i) (by omega) (by omega)).mpr c_36; omega
    refine a_aload_0 (pc := 39) dX6_sheet_39 ?_
    refine a_getf (ci := 6) (j := 12) rfl win_X6 (by decide) (pc := 40) dX6_sheet_40 kf_X6_44 rfl rfl ?_
    refine a_bipush (v := 24) (pc := 43) dX6_sheet_43 (by decide) ?_
    refine a_iload_1 (pc := 45) dX6_sheet_45 ?_
    refine a_imul (pc := 46) dX6_sheet_46 ?_
    refine a_iload_3 (pc := 47) dX6_sheet_47 ?_
    refine a_iadd (pc := 48) dX6_sheet_48 ?_
    rw [show (24 : Int32) = nI 24 from rfl, ← zI_mul, ← zI_add]
    refine a_iconst (v := 0) (pc := 49) dX6_sheet_49 (by decide) ?_
    refine a_iastN (pc := 50) dX6_sheet_50 rfl (show 24 * t + i < 48 by omega) (by decide) ?_
    refine a_iinc_3 (cst := 1) (pc := 51) dX6_sheet_51 rfl (by decide) (by decide) ?_
    refine a_goto (tgt := 34) (pc := 54) dX6_sheet_54 (by decide) ?_
    rw [← nI_succ]
    exact a_to (ih_ (q_ - 1) (by omega) (i + 1) (by omega)) rfl rfl rfl (congrArg (fun f_ => wM G ad (σ.1, σ.2.1, zuZ σ.2.2.1 t (nI n), σ.2.2.2) (f_, x0.2)) (zNbS_s x0.1 t i).symm)

set_option maxRecDepth 100000 in
set_option maxHeartbeats 4000000 in
theorem m_sheet (l : Launch) (G : zG) (ad : Nat → Nat) (σ : zσ) (x0 : zY) (hσ : zOk σ) (hN : zNb σ x0.1) (s : Int32) (n : Int32) : zSem l G sX6_sheet [.ref (ad 0), .int s, .int n] (wM G ad σ x0) (zPostM G ad (o_sheet σ s n)) := by
  refine zEnterV (L := [some (.ref (ad 0)), some (.int s), some (.int n), none]) (by decide) rfl (Nat.le_of_ble_eq_true rfl) rfl ?_
  refine a_iload_1 (pc := 0) dX6_sheet_0 ?_
  refine cS_P (S2 := sX6_isSheet) (m_isSheet l G _) kc_X6_isSheet km_X6_170 ks_X6_isSheet kini_X6 ⟨kn_X6_isSheet, by decide, by decide⟩ (pc := 1) dX6_sheet_1 [] rfl rfl rfl rfl (Nat.le_of_ble_eq_true rfl) ?_
  first | refine a_if_eqB (tgt := 13) (pc := 4) dX6_sheet_4 (by decide) (fun c_4 => ?_) (fun c_4 => ?_) | refine a_if_eq (tgt := 13) (pc := 4) dX6_sheet_4 (by decide) (fun c_4 => ?_) (fun c_4 => ?_)
  · refine a_ldc2 (pc := 13) dX6_sheet_13 kl_X6_79 ?_
    exact a_lret (pc := 16) dX6_sheet_16 rfl rfl (by first | exact mret x0 (if_pos (Or.inl (Decidable.not_not.mp c_4))) hN rfl | exact mret x0 (if_pos (Or.inr c_10)) hN rfl)
  · refine a_iload_2 (pc := 7) dX6_sheet_7 ?_
    refine a_bipush (v := 24) (pc := 8) dX6_sheet_8 (by decide) ?_
    refine a_icmp_le (tgt := 17) (pc := 10) dX6_sheet_10 (by decide) (fun c_10 => ?_) (fun c_10 => ?_)
    · refine a_iload_2 (pc := 17) dX6_sheet_17 ?_
      refine a_if_ge (tgt := 25) (pc := 18) dX6_sheet_18 (by decide) (fun c_18 => ?_) (fun c_18 => ?_)
      · obtain ⟨t, ht_, rfl⟩ := zrange (n := 1) (by decide) rfl c_4
        obtain ⟨n_, hn_, rfl⟩ : ∃ z, z ≤ 24 ∧ n = nI z := zrange (n := 24) (by decide) rfl (fun h => h.elim (fun h => absurd (Int32.lt_iff_toInt_lt.mp h) (by have := Int32.le_iff_toInt_le.mp c_18; omega)) (fun h => absurd (Int32.lt_iff_toInt_lt.mp h) (by have := Int32.le_iff_toInt_le.mp (show n ≤ nI 24 from c_10); omega)))
        refine a_aload_0 (pc := 25) dX6_sheet_25 ?_
        refine a_getf (ci := 6) (j := 11) rfl win_X6 (by decide) (pc := 26) dX6_sheet_26 kf_X6_41 rfl rfl ?_
        refine a_iload_1 (pc := 29) dX6_sheet_29 ?_
        refine a_iload_2 (pc := 30) dX6_sheet_30 ?_
        refine a_iastN (pc := 31) dX6_sheet_31 rfl (by omega) (by decide) ?_
        refine a_iconst (v := 0) (pc := 32) dX6_sheet_32 (by decide) ?_
        refine a_istore_3 (pc := 33) dX6_sheet_33 rfl (by decide) ?_
        have e_ : o_sheet σ (nI t) (nI n_) = ((nI n_).toInt64, (σ.1, σ.2.1, zuZ σ.2.2.1 t (nI n_), zuC σ.2.2.2 t (zfill (σ.2.2.2 t) 24 0))) := by
          unfold o_sheet
          rw [if_neg (fun h => h.elim c_4 (fun h => h c_10)), if_neg (fun h => h c_18), nI_clamp (by omega)]
        rw [e_]
        exact a_to (lm_sheet l G ad σ x0 hN t n_ (by omega) hn_ n_ 0 (by omega)) rfl rfl rfl (congrArg (fun f_ => wM G ad (σ.1, σ.2.1, zuZ σ.2.2.1 t (nI n_), σ.2.2.2) (f_, x0.2)) (zNbS_0 x0.1 t))
      · refine a_ldc2 (pc := 21) dX6_sheet_21 kl_X6_193 ?_
        exact a_lret (pc := 24) dX6_sheet_24 rfl rfl (mret x0 (by unfold o_sheet; rw [if_neg (fun h => h.elim c_4 (fun h => h c_10)), if_pos c_18]) hN rfl)
    · refine a_ldc2 (pc := 13) dX6_sheet_13 kl_X6_79 ?_
      exact a_lret (pc := 16) dX6_sheet_16 rfl rfl (by first | exact mret x0 (if_pos (Or.inl (Decidable.not_not.mp c_4))) hN rfl | exact mret x0 (if_pos (Or.inr c_10)) hN rfl)

theorem zmark_or {n : Nat} (hn : n ≤ 24) (p : Int32) : zOR p 0 (nI n - 1) ↔ ¬ (¬ p < 0 ∧ ¬ nI n ≤ p) := by
  have e1 : (nI n).toInt = n := nI_toInt (by omega)
  have k1 : (1 : Int32).toInt = 1 := by decide
  have e : (nI n - 1).toInt = (n : Int) - 1 := by rw [i_sub (by rw [e1, k1]; omega) (by rw [e1, k1]; omega), e1, k1]
  rw [zOR, Int32.lt_iff_toInt_lt (x := nI n - 1), Int32.le_iff_toInt_le, e, e1]
  constructor
  · rintro (h | h) ⟨h1, h2⟩
    · exact h1 h
    · omega
  · intro h
    by_cases h1 : p < 0
    · exact Or.inl h1
    · refine Or.inr ?_
      have h2 : ¬ ¬ (n : Int) ≤ p.toInt := fun h3 => h ⟨h1, h3⟩
      omega
theorem zShort_e (v : Int32) : zShort v = v.toInt16.toInt32 := by
  unfold zShort
  rw [vp_nar_short]
  congr 1
  exact Int16.toInt16_toInt32 _
theorem zNb_mark {σ : zσ} {nb : Nat → Int32} (hN : zNb σ nb) {t k : Nat} (x : Int32) (ht : t < 2) (hk : k < 24) : zNb (σ.1, σ.2.1, σ.2.2.1, zuC σ.2.2.2 t (upd (σ.2.2.2 t) k x)) (upd nb (24 * t + k) x) := by
  intro s hs j hj hlt
  show upd nb (24 * t + k) x (24 * s + j) = zuC σ.2.2.2 t (upd (σ.2.2.2 t) k x) s j
  unfold zuC
  by_cases h : s = t
  · rw [if_pos h]
    unfold upd
    by_cases h2 : j = k
    · rw [if_pos (by omega), if_pos h2]
    · rw [if_neg (by omega), if_neg h2]
      rw [← h]; exact hN s hs j hj hlt
  · rw [if_neg h]
    unfold upd
    rw [if_neg (by omega)]
    exact hN s hs j hj hlt
set_option maxRecDepth 100000 in
set_option maxHeartbeats 4000000 in
theorem m_mark (l : Launch) (G : zG) (ad : Nat → Nat) (σ : zσ) (x0 : zY) (hσ : zOk σ) (hN : zNb σ x0.1) (s : Int32) (p : Int32) (v : Int32) : zSem l G sX6_mark [.ref (ad 0), .int s, .int p, .int v] (wM G ad σ x0) (zPostM G ad (o_mark σ s p v)) := by
  refine zEnterV (L := [some (.ref (ad 0)), some (.int s), some (.int p), some (.int v), none]) (by decide) rfl (Nat.le_of_ble_eq_true rfl) rfl ?_
  refine a_iload_1 (pc := 0) dX6_mark_0 ?_
  refine cS_P (S2 := sX6_isSheet) (m_isSheet l G _) kc_X6_isSheet km_X6_170 ks_X6_isSheet kini_X6 ⟨kn_X6_isSheet, by decide, by decide⟩ (pc := 1) dX6_mark_1 [] rfl rfl rfl rfl (Nat.le_of_ble_eq_true rfl) ?_
  first | refine a_if_neB (tgt := 11) (pc := 4) dX6_mark_4 (by decide) (fun c_4 => ?_) (fun c_4 => ?_) | refine a_if_ne (tgt := 11) (pc := 4) dX6_mark_4 (by decide) (fun c_4 => ?_) (fun c_4 => ?_)
  · obtain ⟨t, ht_, rfl⟩ := zrange (n := 1) (by decide) rfl c_4
    have ht2_ : t < 2 := by omega
    refine a_aload_0 (pc := 11) dX6_mark_11 ?_
    refine a_getf (ci := 6) (j := 11) rfl win_X6 (by decide) (pc := 12) dX6_mark_12 kf_X6_41 rfl rfl ?_
    refine a_iload_1 (pc := 15) dX6_mark_15 ?_
    refine a_ialdN (pc := 16) dX6_mark_16 rfl (by omega) (by decide) ?_
    refine a_if_ge (tgt := 24) (pc := 17) dX6_mark_17 (by decide) (fun c_17 => ?_) (fun c_17 => ?_)
    · obtain ⟨n_, hn_, hsz_⟩ := zsz hσ ht2_ c_17
      refine a_iload_2 (pc := 24) dX6_mark_24 ?_
      refine a_iconst (v := 0) (pc := 25) dX6_mark_25 (by decide) ?_
      refine a_aload_0 (pc := 26) dX6_mark_26 ?_
      refine a_getf (ci := 6) (j := 11) rfl win_X6 (by decide) (pc := 27) dX6_mark_27 kf_X6_41 rfl rfl ?_
      refine a_iload_1 (pc := 30) dX6_mark_30 ?_
      refine a_ialdN (pc := 31) dX6_mark_31 rfl (by omega) (by decide) ?_
      refine a_iconst (v := 1) (pc := 32) dX6_mark_32 (by decide) ?_
      refine a_isub (pc := 33) dX6_mark_33 ?_
      refine cS_P (S2 := sX6_isIn) (m_isIn l G _ _ _) kc_X6_isIn km_X6_75 ks_X6_isIn kini_X6 ⟨kn_X6_isIn, by decide, by decide⟩ (pc := 34) dX6_mark_34 [] rfl rfl rfl rfl (Nat.le_of_ble_eq_true rfl) ?_
      first | refine a_if_neB (tgt := 44) (pc := 37) dX6_mark_37 (by decide) (fun c_37 => ?_) (fun c_37 => ?_) | refine a_if_ne (tgt := 44) (pc := 37) dX6_mark_37 (by decide) (fun c_37 => ?_) (fun c_37 => ?_)
      · rw [hsz_] at c_37
        have c37b_ : ¬ p < 0 ∧ ¬ σ.2.2.1 t ≤ p := by
          rw [hsz_]; exact Decidable.not_not.mp (mt (zmark_or hn_ p).mpr c_37)
        obtain ⟨k, hk_, rfl⟩ := zsize hσ ht2_ c37b_
        refine a_aload_0 (pc := 44) dX6_mark_44 ?_
        refine a_getf (ci := 6) (j := 12) rfl win_X6 (by decide) (pc := 45) dX6_mark_45 kf_X6_44 rfl rfl ?_
        refine a_bipush (v := 24) (pc := 48) dX6_mark_48 (by decide) ?_
        refine a_iload_1 (pc := 50) dX6_mark_50 ?_
        refine a_imul (pc := 51) dX6_mark_51 ?_
        refine a_iload_2 (pc := 52) dX6_mark_52 ?_
        refine a_iadd (pc := 53) dX6_mark_53 ?_
        rw [show (24 : Int32) = nI 24 from rfl, ← zI_mul, ← zI_add]
        refine a_ialdN (pc := 54) dX6_mark_54 rfl (show 24 * t + k < 48 by omega) (by decide) ?_
        refine a_topI (hN t ht2_ k hk_ (zlt_of c37b_.2)) ?_
        refine a_istore_4 (pc := 55) dX6_mark_55 rfl (by decide) ?_
        refine a_aload_0 (pc := 57) dX6_mark_57 ?_
        refine a_getf (ci := 6) (j := 12) rfl win_X6 (by decide) (pc := 58) dX6_mark_58 kf_X6_44 rfl rfl ?_
        refine a_bipush (v := 24) (pc := 61) dX6_mark_61 (by decide) ?_
        refine a_iload_1 (pc := 63) dX6_mark_63 ?_
        refine a_imul (pc := 64) dX6_mark_64 ?_
        refine a_iload_2 (pc := 65) dX6_mark_65 ?_
        refine a_iadd (pc := 66) dX6_mark_66 ?_
        rw [show (24 : Int32) = nI 24 from rfl, ← zI_mul, ← zI_add]
        refine a_iload_3 (pc := 67) dX6_mark_67 ?_
        refine a_i2s (pc := 68) dX6_mark_68 ?_
        refine a_iastN (pc := 69) dX6_mark_69 rfl (show 24 * t + k < 48 by omega) (by decide) ?_
        refine a_iload_4 (pc := 70) dX6_mark_70 ?_
        refine a_i2l (pc := 72) dX6_mark_72 ?_
        exact a_lret (pc := 73) dX6_mark_73 rfl rfl (mret (σ' := (σ.1, σ.2.1, σ.2.2.1, zuC σ.2.2.2 t (upd (σ.2.2.2 t) k v.toInt16.toInt32))) (upd x0.1 (24 * t + k) v.toInt16.toInt32, x0.2) (by unfold o_mark; rw [if_neg c_4, nI_clamp (by omega), nI_clamp (by omega), zShort_e]; refine (if_neg (zsz_p c_17)).trans ?_; exact if_neg (fun h => h c37b_)) (zNb_mark hN _ ht2_ hk_) rfl)
      · rw [hsz_] at c_37
        have c37b_ : ¬ (¬ p < 0 ∧ ¬ σ.2.2.1 t ≤ p) := by
          rw [hsz_]; exact (zmark_or hn_ p).mp (Decidable.not_not.mp c_37)
        refine a_ldc2 (pc := 40) dX6_mark_40 kl_X6_195 ?_
        exact a_lret (pc := 43) dX6_mark_43 rfl rfl (mret x0 (by unfold o_mark; rw [if_neg c_4, nI_clamp (by omega)]; refine (if_neg (zsz_p c_17)).trans ?_; exact if_pos c37b_) hN rfl)
    · refine a_ldc2 (pc := 20) dX6_mark_20 kl_X6_173 ?_
      exact a_lret (pc := 23) dX6_mark_23 rfl rfl (mret x0 (by unfold o_mark; rw [if_neg c_4, nI_clamp (by omega)]; exact if_pos (zsz_n hσ ht2_ c_17)) hN rfl)
  · refine a_ldc2 (pc := 7) dX6_mark_7 kl_X6_79 ?_
    exact a_lret (pc := 10) dX6_mark_10 rfl rfl (mret x0 (if_pos (Decidable.not_not.mp c_4)) hN rfl)

