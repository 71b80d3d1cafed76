/-! The model: joint. -/
abbrev zJis (x : Int32) : Prop := 0 ≤ x.toInt ∧ x.toInt / 10 < 3 ∧ x.toInt % 10 < 4
theorem zJp_no {x : Int32} (h : ¬ zJis x) : zJp x = none := by
  unfold zJp
  by_cases hr : zOR x 0 30
  · rw [if_pos hr]
  · rw [if_neg hr]
    obtain ⟨n, hn, rfl⟩ := zrange (n := 30) (by decide) rfl hr
    rw [show (10 : Int32) = nI 10 from rfl, ← zI_mul]
    have e1 : (nI (10 * n)).toInt = 10 * n := by rw [nI_toInt (by omega)]; omega
    have e2 : (nI n).toInt = n := nI_toInt (by omega)
    unfold zJis at h
    rw [e2] at h
    unfold zPl
    rw [e1]
    exact if_neg (by omega)
theorem zJp_yes {x : Int32} (h : zJis x) : ∃ n, n < 30 ∧ n % 10 < 4 ∧ x = nI n ∧ zJp x = some (24 * (n / 10) + 6 * (n % 10)) := by
  obtain ⟨h1, h2, h3⟩ := h
  obtain ⟨n, hn, e⟩ : ∃ n : Nat, (n : Int) = x.toInt ∧ x = nI n := ⟨x.toInt.toNat, by omega, i_toNat h1⟩
  refine ⟨n, by omega, by omega, e, ?_⟩
  have hn30 : n < 30 := by omega
  have hn4 : n % 10 < 4 := by omega
  rw [e]
  unfold zJp
  have hr : ¬ zOR (nI n) 0 30 := fun hh => hh.elim (fun q => absurd q (nI_pos (by omega))) (fun q => absurd ((zI_lt (a := 30) (b := n) (by decide) (by omega)).mp q) (by omega))
  rw [if_neg hr, show (10 : Int32) = nI 10 from rfl, ← zI_mul]
  have e1 : (nI (10 * n)).toInt = 10 * n := by rw [nI_toInt (by omega)]; omega
  unfold zPl
  rw [e1, if_pos (by omega)]
  congr 1
  omega
theorem zJis_i {x : Int32} (h : 0 ≤ x.toInt) : (x / 10).toInt = x.toInt / 10 ∧ (x - x / 10 * 10).toInt = x.toInt % 10 := by
  have k : (10 : Int32).toInt = 10 := by decide
  exact ⟨by rw [i_div h (by rw [k]; decide), k], by rw [i_rem h (by rw [k]; decide), k]⟩
set_option maxRecDepth 100000 in
set_option maxHeartbeats 4000000 in
theorem lm_joint (l : Launch) (G : zG) (ad : Nat → Nat) (σ : zσ) (hσ : zOk σ) (x0 u : zY) (hN : zNb σ u.1) (hu : zRowsM (zPaf σ) (zLef σ) (zMs σ) (σ.1 0) (zS0p σ (nI (σ.1 3))) u.2.1 3) (x off : Int32) (t : Nat) (ht : t < 2) (k : Nat) (hk : k < 72) (h6 : k % 6 = 0) (hH : zHσ σ k) (r : Int64) : ∀ (q i : Nat), i + q = σ.1 0 → zJo σ t k off q i = r → AV l G sX6_joint (wM G ad σ x0) (zPostM G ad (r, σ)) 104 [some (.ref (ad 0)), some (.int x), some (.int (nI t)), some (.int off), some (.int (zB (zJis x))), some (.int (nI k)), some (.int (nI i)), none, none] [] (wM G ad σ u) := by
  have hn_ := hσ.1.2
  intro q_
  induction q_ using Nat.strongRecOn
  rename_i q_ ih_
  intro i hq_ hz_
  refine a_iload_6 (pc := 104) dX6_joint_104 ?_
  refine a_aload_0 (pc := 106) dX6_joint_106 ?_
  refine a_getf (ci := 6) (j := 1) rfl win_X6 (by decide) (pc := 107) dX6_joint_107 kf_X6_13 rfl rfl ?_
  refine a_icmp_ge (tgt := 196) (pc := 110) dX6_joint_110 (by decide) (fun c_110 => ?_) (fun c_110 => ?_)
  · obtain rfl : q_ = 0 := by have := (zI_le (by omega) (by omega)).mp c_110; omega
    refine a_ldc2 (pc := 196) dX6_joint_196 kl_X6_157 ?_
    exact a_lret (pc := 199) dX6_joint_199 rfl rfl (mret (σ' := σ) u (by rw [← hz_] <;> rfl) hN rfl)
  · have hi_ : i < σ.1 0 := by have := mt (zI_le (a := σ.1 0) (b := i) (by omega) (by omega)).mpr c_110; omega
    obtain ⟨q2_, rfl⟩ : ∃ z, q_ = z + 1 := ⟨q_ - 1, by omega⟩
    have hnx_ := zH_next hσ hk h6 hi_ hH
    unfold zJo at hz_
    refine a_iload_6 (pc := 113) dX6_joint_113 ?_
    refine a_aload_0 (pc := 115) dX6_joint_115 ?_
    refine a_getf (ci := 6) (j := 11) rfl win_X6 (by decide) (pc := 116) dX6_joint_116 kf_X6_41 rfl rfl ?_
    refine a_iload_2 (pc := 119) dX6_joint_119 ?_
    refine a_ialdN (pc := 120) dX6_joint_120 rfl (by omega) (by decide) ?_
    refine a_icmp_ge (tgt := 196) (pc := 121) dX6_joint_121 (by decide) (fun c_121 => ?_) (fun c_121 => ?_)
    · rw [if_neg (fun h => h.2 c_121)] at hz_
      refine a_ldc2 (pc := 196) dX6_joint_196 kl_X6_157 ?_
      exact a_lret (pc := 199) dX6_joint_199 rfl rfl (mret (σ' := σ) u (by rw [← hz_] <;> rfl) hN rfl)
    · rw [if_pos (⟨znI_pos (by omega), c_121⟩ : zHas σ t (nI i))] at hz_
      refine a_aload_0 (pc := 124) dX6_joint_124 ?_
      refine a_getf (ci := 6) (j := 13) rfl win_X6 (by decide) (pc := 125) dX6_joint_125 kf_X6_47 rfl rfl ?_
      refine a_iload_5 (pc := 128) dX6_joint_128 ?_
      refine a_iload_6 (pc := 130) dX6_joint_130 ?_
      refine a_iadd (pc := 132) dX6_joint_132 ?_
      rw [← zI_add]
      refine a_laldN (pc := 133) dX6_joint_133 rfl hnx_.1 (by decide) ?_
      refine a_topL (zFlM hσ hu hnx_.1 hnx_.2 (a := 0) (by decide)) ?_
      refine a_aload_0 (pc := 134) dX6_joint_134 ?_
      refine a_getf (ci := 6) (j := 14) rfl win_X6 (by decide) (pc := 135) dX6_joint_135 kf_X6_51 rfl rfl ?_
      refine a_iload_5 (pc := 138) dX6_joint_138 ?_
      refine a_iload_6 (pc := 140) dX6_joint_140 ?_
      refine a_iadd (pc := 142) dX6_joint_142 ?_
      rw [← zI_add]
      refine a_laldN (pc := 143) dX6_joint_143 rfl hnx_.1 (by decide) ?_
      refine a_topL (zFlM hσ hu hnx_.1 hnx_.2 (a := 1) (by decide)) ?_
      refine cS_P (S2 := sX6_saltOf) (m_saltOf l G _ _) kc_X6_saltOf km_X6_100 ks_X6_saltOf kini_X6 ⟨kn_X6_saltOf, by decide, by decide⟩ (pc := 144) dX6_joint_144 [] rfl rfl rfl rfl (Nat.le_of_ble_eq_true rfl) ?_
      refine a_aload_0 (pc := 147) dX6_joint_147 ?_
      refine a_iload_5 (pc := 148) dX6_joint_148 ?_
      refine a_iload_6 (pc := 150) dX6_joint_150 ?_
      refine a_iadd (pc := 152) dX6_joint_152 ?_
      rw [← zI_add]
      refine f_P (ad := ad) (q0 := 0) (S2 := sX6_leak) (m_leak l G ad σ hσ u (k + i) hnx_.1) kc_X6_leak km_X6_92 ki_X6_leak kv_X6_leak kini_X6 ⟨kn_X6_leak, by decide, by decide⟩ (pc := 153) dX6_joint_153 (znd_of rfl znd18) rfl rfl (Nat.le_of_ble_eq_true rfl) rfl rfl rfl ?_
      refine a_i2l (pc := 156) dX6_joint_156 ?_
      refine a_lmul (pc := 157) dX6_joint_157 ?_
      refine a_ldc2 (pc := 158) dX6_joint_158 kl_X6_106 ?_
      refine a_ldiv (pc := 161) dX6_joint_161 (by decide) ?_
      refine a_topL (y := zCell σ 4 (k + i)) rfl ?_
      refine a_lstore_7 (pc := 162) dX6_joint_162 rfl (by decide) ?_
      refine a_aload_0 (pc := 164) dX6_joint_164 ?_
      refine a_getf (ci := 6) (j := 12) rfl win_X6 (by decide) (pc := 165) dX6_joint_165 kf_X6_44 rfl rfl ?_
      refine a_bipush (v := 24) (pc := 168) dX6_joint_168 (by decide) ?_
      refine a_iload_2 (pc := 170) dX6_joint_170 ?_
      refine a_imul (pc := 171) dX6_joint_171 ?_
      refine a_iload_6 (pc := 172) dX6_joint_172 ?_
      refine a_iadd (pc := 174) dX6_joint_174 ?_
      rw [show (24 : Int32) = nI 24 from rfl, ← zI_mul, ← zI_add]
      refine a_ialdN (pc := 175) dX6_joint_175 rfl (show 24 * t + i < 48 by omega) (by decide) ?_
      refine a_topI (hN t ht i (by omega) (zlt_of c_121)) ?_
      refine a_i2l (pc := 176) dX6_joint_176 ?_
      refine a_lload_7 (pc := 177) dX6_joint_177 ?_
      refine a_lsub (pc := 179) dX6_joint_179 ?_
      refine a_iload_3 (pc := 180) dX6_joint_180 ?_
      refine a_i2l (pc := 181) dX6_joint_181 ?_
      refine a_lif_le (tgt := 190) (pc := 182) dX6_joint_182 dX6_joint_183 (by decide) (fun c_182 => ?_) (fun c_182 => ?_)
      · rw [if_pos c_182] at hz_
        refine a_iinc_6 (cst := 1) (pc := 190) dX6_joint_190 rfl (by decide) (by decide) ?_
        refine a_goto (tgt := 104) (pc := 193) dX6_joint_193 (by decide) ?_
        rw [← nI_succ]
        exact a_forget_7 (ih_ q2_ (by omega) (i + 1) (by omega) hz_)
      · rw [if_neg c_182] at hz_
        refine a_iload_6 (pc := 186) dX6_joint_186 ?_
        refine a_i2l (pc := 188) dX6_joint_188 ?_
        exact a_lret (pc := 189) dX6_joint_189 rfl rfl (mret (σ' := σ) u (by rw [← hz_]) hN rfl)

set_option maxRecDepth 100000 in
set_option maxHeartbeats 4000000 in
theorem m_joint (l : Launch) (G : zG) (ad : Nat → Nat) (σ : zσ) (x0 : zY) (hσ : zOk σ) (hN : zNb σ x0.1) (x : Int32) (s : Int32) (off : Int32) : zSem l G sX6_joint [.ref (ad 0), .int x, .int s, .int off] (wM G ad σ x0) (zPostM G ad (o_joint σ x s off)) := by
  refine zEnterV (L := [some (.ref (ad 0)), some (.int x), some (.int s), some (.int off), none, none, none, none, none]) (by decide) rfl (Nat.le_of_ble_eq_true rfl) rfl ?_
  have J25_ : ∀ y_ : Int32, y_ = zB (zJis x) → AV l G sX6_joint (wM G ad σ x0) (zPostM G ad (o_joint σ x s off)) 25 [some (.ref (ad 0)), some (.int x), some (.int s), some (.int off), none, none, none, none, none] [.int y_] (wM G ad σ x0) := by
    intro y_ hy_; subst hy_
    refine a_istore_4 (pc := 25) dX6_joint_25 rfl (by decide) ?_
    refine a_iload_4 (pc := 27) dX6_joint_27 ?_
    first | refine a_if_eqB (tgt := 50) (pc := 29) dX6_joint_29 (by decide) (fun c_29 => ?_) (fun c_29 => ?_) | refine a_if_eq (tgt := 50) (pc := 29) dX6_joint_29 (by decide) (fun c_29 => ?_) (fun c_29 => ?_)
    · have hp0_ := zJp_no c_29
      refine a_ldc2 (pc := 50) dX6_joint_50 kl_X6_79 ?_
      exact a_lret (pc := 53) dX6_joint_53 rfl rfl (by first | exact mret x0 (by unfold o_joint; rw [if_pos (Or.inl hp0_)]) hN rfl | exact mret x0 (by unfold o_joint; rw [if_pos (Or.inr (Or.inl (Decidable.not_not.mp c_36)))]) hN rfl | exact mret x0 (by unfold o_joint; rw [if_pos (Or.inr (Or.inr (Decidable.not_not.mp c_47)))]) hN rfl)
    · refine a_iload_2 (pc := 32) dX6_joint_32 ?_
      refine cS_P (S2 := sX6_isSheet) (m_isSheet l G _) kc_X6_isSheet km_X6_170 ks_X6_isSheet kini_X6 ⟨kn_X6_isSheet, by decide, by decide⟩ (pc := 33) dX6_joint_33 [] rfl rfl rfl rfl (Nat.le_of_ble_eq_true rfl) ?_
      first | refine a_if_eqB (tgt := 50) (pc := 36) dX6_joint_36 (by decide) (fun c_36 => ?_) (fun c_36 => ?_) | refine a_if_eq (tgt := 50) (pc := 36) dX6_joint_36 (by decide) (fun c_36 => ?_) (fun c_36 => ?_)
      · refine a_ldc2 (pc := 50) dX6_joint_50 kl_X6_79 ?_
        exact a_lret (pc := 53) dX6_joint_53 rfl rfl (by first | exact mret x0 (by unfold o_joint; rw [if_pos (Or.inl hp0_)]) hN rfl | exact mret x0 (by unfold o_joint; rw [if_pos (Or.inr (Or.inl (Decidable.not_not.mp c_36)))]) hN rfl | exact mret x0 (by unfold o_joint; rw [if_pos (Or.inr (Or.inr (Decidable.not_not.mp c_47)))]) hN rfl)
      · refine a_iload_3 (pc := 39) dX6_joint_39 ?_
        refine a_iconst (v := 0) (pc := 40) dX6_joint_40 (by decide) ?_
        refine a_sipush (v := 9999) (pc := 41) dX6_joint_41 (by decide) ?_
        refine cS_P (S2 := sX6_isIn) (m_isIn l G _ _ _) kc_X6_isIn km_X6_75 ks_X6_isIn kini_X6 ⟨kn_X6_isIn, by decide, by decide⟩ (pc := 44) dX6_joint_44 [] rfl rfl rfl rfl (Nat.le_of_ble_eq_true rfl) ?_
        first | refine a_if_neB (tgt := 54) (pc := 47) dX6_joint_47 (by decide) (fun c_47 => ?_) (fun c_47 => ?_) | refine a_if_ne (tgt := 54) (pc := 47) dX6_joint_47 (by decide) (fun c_47 => ?_) (fun c_47 => ?_)
        · obtain ⟨n_, hn30_, hn4_, rfl, hp_⟩ := zJp_yes c_29
          obtain ⟨t, ht_, rfl⟩ := zrange (n := 1) (by decide) rfl c_36
          have ht2_ : t < 2 := by omega
          have hk_ := zJp_6 hp_
          have hne_ : ¬ zJp (nI n_) = none := by rw [hp_]; exact fun h => by cases h
          refine a_bipush (v := 24) (pc := 54) dX6_joint_54 (by decide) ?_
          refine a_iload_1 (pc := 56) dX6_joint_56 ?_
          refine a_bipush (v := 10) (pc := 57) dX6_joint_57 (by decide) ?_
          refine a_idiv (pc := 59) dX6_joint_59 (by decide) ?_
          refine a_imul (pc := 60) dX6_joint_60 ?_
          refine a_bipush (v := 6) (pc := 61) dX6_joint_61 (by decide) ?_
          refine a_iload_1 (pc := 63) dX6_joint_63 ?_
          refine a_bipush (v := 10) (pc := 64) dX6_joint_64 (by decide) ?_
          refine a_irem (pc := 66) dX6_joint_66 (by decide) ?_
          refine a_imul (pc := 67) dX6_joint_67 ?_
          refine a_iadd (pc := 68) dX6_joint_68 ?_
          rw [show (24 : Int32) = nI 24 from rfl, show (10 : Int32) = nI 10 from rfl, show (6 : Int32) = nI 6 from rfl, zI_rem (by omega) (by decide) (by decide), zI_div (by omega) (by decide) (by decide), ← zI_mul, ← zI_mul, ← zI_add]
          refine a_istore_5 (pc := 69) dX6_joint_69 rfl (by decide) ?_
          refine a_aload_0 (pc := 71) dX6_joint_71 ?_
          refine a_iload_5 (pc := 72) dX6_joint_72 ?_
          refine f_P (ad := ad) (q0 := 0) (S2 := sX6_isThere) (m_isThere l G ad σ hσ x0 (24 * (n_ / 10) + 6 * (n_ % 10)) hk_.1) kc_X6_isThere km_X6_138 ki_X6_isThere kv_X6_isThere kini_X6 ⟨kn_X6_isThere, by decide, by decide⟩ (pc := 74) dX6_joint_74 (znd_of rfl znd18) rfl rfl (Nat.le_of_ble_eq_true rfl) rfl rfl rfl ?_
          first | refine a_if_neB (tgt := 84) (pc := 77) dX6_joint_77 (by decide) (fun c_77 => ?_) (fun c_77 => ?_) | refine a_if_ne (tgt := 84) (pc := 77) dX6_joint_77 (by decide) (fun c_77 => ?_) (fun c_77 => ?_)
          · refine a_aload_0 (pc := 84) dX6_joint_84 ?_
            refine a_getf (ci := 6) (j := 11) rfl win_X6 (by decide) (pc := 85) dX6_joint_85 kf_X6_41 rfl rfl ?_
            refine a_iload_2 (pc := 88) dX6_joint_88 ?_
            refine a_ialdN (pc := 89) dX6_joint_89 rfl (by omega) (by decide) ?_
            refine a_if_ge (tgt := 97) (pc := 90) dX6_joint_90 (by decide) (fun c_90 => ?_) (fun c_90 => ?_)
            · refine a_aload_0 (pc := 97) dX6_joint_97 ?_
              refine f_0 (ad := ad) (q0 := 0) (S2 := sX6_flowNow) (m_flowNow l G ad σ hσ x0) kc_X6_flowNow km_X6_143 ki_X6_flowNow kv_X6_flowNow kini_X6 ⟨kn_X6_flowNow, by decide, by decide⟩ (pc := 98) dX6_joint_98 (znd_of rfl znd18) rfl rfl (Nat.le_of_ble_eq_true rfl) rfl rfl rfl (fun B_ hB_ => ?_)
              refine a_iconst (v := 0) (pc := 101) dX6_joint_101 (by decide) ?_
              refine a_istore_6 (pc := 102) dX6_joint_102 rfl (by decide) ?_
              have e_ : o_joint σ (nI n_) (nI t) off = (zJo σ t (24 * (n_ / 10) + 6 * (n_ % 10)) off (σ.1 0) 0, σ) := by
                unfold o_joint; rw [if_neg (fun h => h.elim hne_ (fun h => h.elim c_36 c_47)), hp_, Option.getD_some, if_neg (fun h => h c_77), nI_clamp (by omega)]
                exact congrArg (fun z => (z, σ)) (if_neg (zsz_p c_90))
              rw [e_]
              exact lm_joint l G ad σ hσ x0 (x0.1, B_, zJF σ (zFin σ (nI (σ.1 3)) (zMs σ)), x0.2.2.2) hN hB_ (nI n_) off t ht2_ (24 * (n_ / 10) + 6 * (n_ % 10)) hk_.1 hk_.2 c_77 _ (σ.1 0) 0 (by omega) rfl
            · refine a_ldc2 (pc := 93) dX6_joint_93 kl_X6_173 ?_
              exact a_lret (pc := 96) dX6_joint_96 rfl rfl (mret x0 (by unfold o_joint; rw [if_neg (fun h => h.elim hne_ (fun h => h.elim c_36 c_47)), hp_, Option.getD_some, if_neg (fun h => h c_77), nI_clamp (by omega)]; exact congrArg (fun z => (z, σ)) (if_pos (zsz_n hσ ht2_ c_90))) hN rfl)
          · refine a_ldc2 (pc := 80) dX6_joint_80 kl_X6_141 ?_
            exact a_lret (pc := 83) dX6_joint_83 rfl rfl (mret x0 (by unfold o_joint; rw [if_neg (fun h => h.elim hne_ (fun h => h.elim c_36 c_47)), hp_, Option.getD_some, if_pos c_77]) hN rfl)
        · refine a_ldc2 (pc := 50) dX6_joint_50 kl_X6_79 ?_
          exact a_lret (pc := 53) dX6_joint_53 rfl rfl (by first | exact mret x0 (by unfold o_joint; rw [if_pos (Or.inl hp0_)]) hN rfl | exact mret x0 (by unfold o_joint; rw [if_pos (Or.inr (Or.inl (Decidable.not_not.mp c_36)))]) hN rfl | exact mret x0 (by unfold o_joint; rw [if_pos (Or.inr (Or.inr (Decidable.not_not.mp c_47)))]) hN rfl)
  refine a_iload_1 (pc := 0) dX6_joint_0 ?_
  refine a_if_lt (tgt := 24) (pc := 1) dX6_joint_1 (by decide) (fun c_1 => ?_) (fun c_1 => ?_)
  · have hno_ : ¬ zJis x := fun h => by
      have := Int32.lt_iff_toInt_lt.mp c_1
      have k0_ : (0:Int32).toInt = 0 := by decide
      have := h.1
      omega
    refine a_iconst (v := 0) (pc := 24) dX6_joint_24 (by decide) ?_
    first | exact J25_ _ (zB_0 hno_).symm | exact J25_ _ (zB_1 hyes_).symm
  · have h0_ : 0 ≤ x.toInt := by
      have := mt Int32.lt_iff_toInt_lt.mpr c_1
      have k0_ : (0:Int32).toInt = 0 := by decide
      omega
    obtain ⟨e1_, e2_⟩ := zJis_i h0_
    have k3_ : (3:Int32).toInt = 3 := by decide
    have k4_ : (4:Int32).toInt = 4 := by decide
    refine a_iload_1 (pc := 4) dX6_joint_4 ?_
    refine a_bipush (v := 10) (pc := 5) dX6_joint_5 (by decide) ?_
    refine a_idiv (pc := 7) dX6_joint_7 (by decide) ?_
    refine a_iconst (v := 3) (pc := 8) dX6_joint_8 (by decide) ?_
    refine a_icmp_ge (tgt := 24) (pc := 9) dX6_joint_9 (by decide) (fun c_9 => ?_) (fun c_9 => ?_)
    · have f9_ := Int32.le_iff_toInt_le.mp c_9
      rw [e1_, k3_] at f9_
      have hno_ : ¬ zJis x := fun h => by have := h.2.1; omega
      refine a_iconst (v := 0) (pc := 24) dX6_joint_24 (by decide) ?_
      first | exact J25_ _ (zB_0 hno_).symm | exact J25_ _ (zB_1 hyes_).symm
    · have f9_ := mt Int32.le_iff_toInt_le.mpr c_9
      rw [e1_, k3_] at f9_
      refine a_iload_1 (pc := 12) dX6_joint_12 ?_
      refine a_bipush (v := 10) (pc := 13) dX6_joint_13 (by decide) ?_
      refine a_irem (pc := 15) dX6_joint_15 (by decide) ?_
      refine a_iconst (v := 4) (pc := 16) dX6_joint_16 (by decide) ?_
      refine a_icmp_ge (tgt := 24) (pc := 17) dX6_joint_17 (by decide) (fun c_17 => ?_) (fun c_17 => ?_)
      · have f17_ := Int32.le_iff_toInt_le.mp c_17
        rw [e2_, k4_] at f17_
        have hno_ : ¬ zJis x := fun h => by have := h.2.2; omega
        refine a_iconst (v := 0) (pc := 24) dX6_joint_24 (by decide) ?_
        first | exact J25_ _ (zB_0 hno_).symm | exact J25_ _ (zB_1 hyes_).symm
      · have f17_ := mt Int32.le_iff_toInt_le.mpr c_17
        rw [e2_, k4_] at f17_
        have hyes_ : zJis x := ⟨h0_, by omega, by omega⟩
        refine a_iconst (v := 1) (pc := 20) dX6_joint_20 (by decide) ?_
        refine a_goto (tgt := 25) (pc := 21) dX6_joint_21 (by decide) ?_
        first | exact J25_ _ (zB_0 hno_).symm | exact J25_ _ (zB_1 hyes_).symm

