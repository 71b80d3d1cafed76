/-! The plant: joint. -/
def zJp (x : Int32) : Option Nat := if zOR x 0 30 then none else zPl (10 * x)
theorem zJp_6 {x : Int32} {k : Nat} (h : zJp x = some k) : k < 72 ∧ k % 6 = 0 := by
  unfold zJp at h
  split at h
  · cases h
  · rename_i hr
    obtain ⟨n, hn, rfl⟩ := zrange (n := 30) (by decide) rfl hr
    refine ⟨zPl_lt h, ?_⟩
    rw [show (10 : Int32) = nI 10 from rfl, ← zI_mul] at h
    unfold zPl at h
    rw [nI_toInt (by omega)] at h
    split at h
    · have := Option.some.inj h
      omega
    · cases h
theorem zH_next {σ : zσ} (hσ : zOk σ) {k i : Nat} (hk : k < 72) (h6 : k % 6 = 0) (hi : i < σ.1 0) (h : zHσ σ k) : k + i < 72 ∧ zHσ σ (k + i) := by
  have hn := hσ.1.2
  have e := (zHd_N hσ.2.2.2.2.2.1 hσ.1.2 hk).mp h
  have hk2 : k + i < 72 := by omega
  refine ⟨hk2, (zHd_N hσ.2.2.2.2.2.1 hσ.1.2 hk2).mpr ⟨by omega, ?_⟩⟩
  rw [show (k + i) % 24 / 6 = k % 24 / 6 by omega, show (k + i) / 24 = k / 24 by omega]
  exact e.2
def zJo (σ : zσ) (s k : Nat) (off : Int32) : Nat → Nat → Int64
  | 0, _ => zNONE
  | q + 1, i => if zHas σ s (nI i) then (if (σ.2.2.2 s i).toInt64 - zCell σ 4 (k + i) ≤ off.toInt64 then zJo σ s k off q (i + 1) else (nI i).toInt64) else zNONE
def o_joint (σ : zσ) (x s off : Int32) : Int64 × zσ := (if zJp x = none ∨ zOR s 0 1 ∨ zOR off 0 9999 then zBAD else if ¬ zHσ σ ((zJp x).getD 0) then zNO else if σ.2.2.1 s.toNatClampNeg = -1 then zNOTH else zJo σ s.toNatClampNeg ((zJp x).getD 0) off (σ.1 0) 0, σ)
set_option maxRecDepth 100000 in
set_option maxHeartbeats 4000000 in
theorem lp_joint0 (l : Launch) (G : zG) (ad : Nat → Nat) (σ : zσ) (hσ : zOk σ) (x0 u : zX) (hu : zFlow σ (nI (σ.1 3)) (zMs σ) u) (x off : Int32) (k : Nat) (hk : k < 72) (h6 : k % 6 = 0) (hH : zHσ σ k) (r : Int64) : ∀ (q i : Nat), i + q = σ.1 0 → zJo σ 0 k off q i = r → AV l G sX5_joint (wP G ad σ x0) (zPost G ad (r, σ)) 95 [some (.ref (ad 0)), some (.int x), some (.int 0), some (.int off), some (.int (nI k)), some (.ref (ad 24)), some (.int (nI i))] [] (wP G ad σ u) := by
  have hn_ := hσ.1.2
  intro q_
  induction q_ using Nat.strongRecOn
  rename_i q_ ih_
  intro i hq_ hz_
  refine a_iload_6 (pc := 95) dX5_joint_95 ?_
  refine a_aload_0 (pc := 97) dX5_joint_97 ?_
  refine a_getf (ci := 5) (j := 1) rfl win_X5 (by decide) (pc := 98) dX5_joint_98 kf_X5_16 rfl rfl ?_
  refine a_getfN (ci := 2) (j := 1) rfl win_X2 (by decide) (pc := 101) dX5_joint_101 kf_X5_73 rfl rfl ?_
  refine a_icmp_ge (tgt := 156) (pc := 104) dX5_joint_104 (by decide) (fun c_104 => ?_) (fun c_104 => ?_)
  · obtain rfl : q_ = 0 := by have := (zI_le (by omega) (by omega)).mp c_104; omega
    refine a_ldc2 (pc := 156) dX5_joint_156 kl_X5_170 ?_
    exact a_lret (pc := 159) dX5_joint_159 rfl rfl (zret' u (by rw [← hz_] <;> rfl) rfl)
  · have hi_ : i < σ.1 0 := by have := mt (zI_le (a := σ.1 0) (b := i) (by omega) (by omega)).mpr c_104; omega
    obtain ⟨q2_, rfl⟩ : ∃ z, q_ = z + 1 := ⟨q_ - 1, by omega⟩
    have hnx_ := zH_next hσ hk h6 hi_ hH
    unfold zJo at hz_
    refine a_aload_5 (pc := 107) dX5_joint_107 ?_
    refine a_iload_6 (pc := 109) dX5_joint_109 ?_
    refine cV_P (ad := ad) (q0 := 24) (S2 := sX3_has) (c_has l G (zpk ad [24, 25]) (σ.2.2.2 0) (σ.2.2.1 0) (nI i)) kc_X3_has km_X5_217 ki_X3_has kv_X3_has kini_X3 ⟨kn_X3_has, by decide, by decide⟩ (pc := 111) dX5_joint_111 [24, 25] rfl rfl rfl rfl (Nat.le_of_ble_eq_true rfl) rfl rfl rfl ?_
    first | refine a_if_eqB (tgt := 156) (pc := 114) dX5_joint_114 (by decide) (fun c_114 => ?_) (fun c_114 => ?_) | refine a_if_eq (tgt := 156) (pc := 114) dX5_joint_114 (by decide) (fun c_114 => ?_) (fun c_114 => ?_)
    · rw [if_neg c_114] at hz_
      refine a_ldc2 (pc := 156) dX5_joint_156 kl_X5_170 ?_
      exact a_lret (pc := 159) dX5_joint_159 rfl rfl (zret' u (by rw [← hz_] <;> rfl) rfl)
    · rw [if_pos c_114] at hz_
      refine a_aload_5 (pc := 117) dX5_joint_117 ?_
      refine a_getfN (ci := 3) (j := 0) rfl win_X3 (by decide) (pc := 119) dX5_joint_119 kf_X5_220 rfl rfl ?_
      refine a_iload_6 (pc := 122) dX5_joint_122 ?_
      refine a_saldN (pc := 124) dX5_joint_124 rfl (by omega) (by decide) ?_
      refine a_i2l (pc := 125) dX5_joint_125 ?_
      refine a_aload_0 (pc := 126) dX5_joint_126 ?_
      refine a_getf (ci := 5) (j := 4) rfl win_X5 (by decide) (pc := 127) dX5_joint_127 kf_X5_33 rfl rfl ?_
      refine a_getfN (ci := 0) (j := 6) rfl win_X0 (by decide) (pc := 130) dX5_joint_130 kf_X5_251 rfl rfl ?_
      refine a_iload_4 (pc := 133) dX5_joint_133 ?_
      refine a_iload_6 (pc := 135) dX5_joint_135 ?_
      refine a_iadd (pc := 137) dX5_joint_137 ?_
      rw [← zI_add]
      refine a_laldN (pc := 138) dX5_joint_138 rfl hnx_.1 (by decide) ?_
      rw [zFlow_at hσ hu hnx_.1 hnx_.2 (a := 4) (by decide)]
      refine a_lsub (pc := 139) dX5_joint_139 ?_
      refine a_iload_3 (pc := 140) dX5_joint_140 ?_
      refine a_i2l (pc := 141) dX5_joint_141 ?_
      refine a_lif_le (tgt := 150) (pc := 142) dX5_joint_142 dX5_joint_143 (by decide) (fun c_142 => ?_) (fun c_142 => ?_)
      · rw [if_pos c_142] at hz_
        refine a_iinc_6 (cst := 1) (pc := 150) dX5_joint_150 rfl (by decide) (by decide) ?_
        refine a_goto (tgt := 95) (pc := 153) dX5_joint_153 (by decide) ?_
        rw [← nI_succ]
        exact ih_ q2_ (by omega) (i + 1) (by omega) hz_
      · rw [if_neg c_142] at hz_
        refine a_iload_6 (pc := 146) dX5_joint_146 ?_
        refine a_i2l (pc := 148) dX5_joint_148 ?_
        exact a_lret (pc := 149) dX5_joint_149 rfl rfl (zret' u (by rw [← hz_]) rfl)

set_option maxRecDepth 100000 in
set_option maxHeartbeats 4000000 in
theorem lp_joint1 (l : Launch) (G : zG) (ad : Nat → Nat) (σ : zσ) (hσ : zOk σ) (x0 u : zX) (hu : zFlow σ (nI (σ.1 3)) (zMs σ) u) (x off : Int32) (k : Nat) (hk : k < 72) (h6 : k % 6 = 0) (hH : zHσ σ k) (r : Int64) : ∀ (q i : Nat), i + q = σ.1 0 → zJo σ 1 k off q i = r → AV l G sX5_joint (wP G ad σ x0) (zPost G ad (r, σ)) 95 [some (.ref (ad 0)), some (.int x), some (.int 1), some (.int off), some (.int (nI k)), some (.ref (ad 26)), some (.int (nI i))] [] (wP G ad σ u) := by
  have hn_ := hσ.1.2
  intro q_
  induction q_ using Nat.strongRecOn
  rename_i q_ ih_
  intro i hq_ hz_
  refine a_iload_6 (pc := 95) dX5_joint_95 ?_
  refine a_aload_0 (pc := 97) dX5_joint_97 ?_
  refine a_getf (ci := 5) (j := 1) rfl win_X5 (by decide) (pc := 98) dX5_joint_98 kf_X5_16 rfl rfl ?_
  refine a_getfN (ci := 2) (j := 1) rfl win_X2 (by decide) (pc := 101) dX5_joint_101 kf_X5_73 rfl rfl ?_
  refine a_icmp_ge (tgt := 156) (pc := 104) dX5_joint_104 (by decide) (fun c_104 => ?_) (fun c_104 => ?_)
  · obtain rfl : q_ = 0 := by have := (zI_le (by omega) (by omega)).mp c_104; omega
    refine a_ldc2 (pc := 156) dX5_joint_156 kl_X5_170 ?_
    exact a_lret (pc := 159) dX5_joint_159 rfl rfl (zret' u (by rw [← hz_] <;> rfl) rfl)
  · have hi_ : i < σ.1 0 := by have := mt (zI_le (a := σ.1 0) (b := i) (by omega) (by omega)).mpr c_104; omega
    obtain ⟨q2_, rfl⟩ : ∃ z, q_ = z + 1 := ⟨q_ - 1, by omega⟩
    have hnx_ := zH_next hσ hk h6 hi_ hH
    unfold zJo at hz_
    refine a_aload_5 (pc := 107) dX5_joint_107 ?_
    refine a_iload_6 (pc := 109) dX5_joint_109 ?_
    refine cV_P (ad := ad) (q0 := 26) (S2 := sX3_has) (c_has l G (zpk ad [26, 27]) (σ.2.2.2 1) (σ.2.2.1 1) (nI i)) kc_X3_has km_X5_217 ki_X3_has kv_X3_has kini_X3 ⟨kn_X3_has, by decide, by decide⟩ (pc := 111) dX5_joint_111 [26, 27] rfl rfl rfl rfl (Nat.le_of_ble_eq_true rfl) rfl rfl rfl ?_
    first | refine a_if_eqB (tgt := 156) (pc := 114) dX5_joint_114 (by decide) (fun c_114 => ?_) (fun c_114 => ?_) | refine a_if_eq (tgt := 156) (pc := 114) dX5_joint_114 (by decide) (fun c_114 => ?_) (fun c_114 => ?_)
    · rw [if_neg c_114] at hz_
      refine a_ldc2 (pc := 156) dX5_joint_156 kl_X5_170 ?_
      exact a_lret (pc := 159) dX5_joint_159 rfl rfl (zret' u (by rw [← hz_] <;> rfl) rfl)
    · rw [if_pos c_114] at hz_
      refine a_aload_5 (pc := 117) dX5_joint_117 ?_
      refine a_getfN (ci := 3) (j := 0) rfl win_X3 (by decide) (pc := 119) dX5_joint_119 kf_X5_220 rfl rfl ?_
      refine a_iload_6 (pc := 122) dX5_joint_122 ?_
      refine a_saldN (pc := 124) dX5_joint_124 rfl (by omega) (by decide) ?_
      refine a_i2l (pc := 125) dX5_joint_125 ?_
      refine a_aload_0 (pc := 126) dX5_joint_126 ?_
      refine a_getf (ci := 5) (j := 4) rfl win_X5 (by decide) (pc := 127) dX5_joint_127 kf_X5_33 rfl rfl ?_
      refine a_getfN (ci := 0) (j := 6) rfl win_X0 (by decide) (pc := 130) dX5_joint_130 kf_X5_251 rfl rfl ?_
      refine a_iload_4 (pc := 133) dX5_joint_133 ?_
      refine a_iload_6 (pc := 135) dX5_joint_135 ?_
      refine a_iadd (pc := 137) dX5_joint_137 ?_
      rw [← zI_add]
      refine a_laldN (pc := 138) dX5_joint_138 rfl hnx_.1 (by decide) ?_
      rw [zFlow_at hσ hu hnx_.1 hnx_.2 (a := 4) (by decide)]
      refine a_lsub (pc := 139) dX5_joint_139 ?_
      refine a_iload_3 (pc := 140) dX5_joint_140 ?_
      refine a_i2l (pc := 141) dX5_joint_141 ?_
      refine a_lif_le (tgt := 150) (pc := 142) dX5_joint_142 dX5_joint_143 (by decide) (fun c_142 => ?_) (fun c_142 => ?_)
      · rw [if_pos c_142] at hz_
        refine a_iinc_6 (cst := 1) (pc := 150) dX5_joint_150 rfl (by decide) (by decide) ?_
        refine a_goto (tgt := 95) (pc := 153) dX5_joint_153 (by decide) ?_
        rw [← nI_succ]
        exact ih_ q2_ (by omega) (i + 1) (by omega) hz_
      · rw [if_neg c_142] at hz_
        refine a_iload_6 (pc := 146) dX5_joint_146 ?_
        refine a_i2l (pc := 148) dX5_joint_148 ?_
        exact a_lret (pc := 149) dX5_joint_149 rfl rfl (zret' u (by rw [← hz_]) rfl)

set_option maxRecDepth 100000 in
set_option maxHeartbeats 4000000 in
theorem p_joint (l : Launch) (G : zG) (ad : Nat → Nat) (σ : zσ) (x0 : zX) (hσ : zOk σ) (x : Int32) (s : Int32) (off : Int32) : zSem l G sX5_joint [.ref (ad 0), .int x, .int s, .int off] (wP G ad σ x0) (zPost G ad (o_joint σ x s off)) := by
  refine zEnterV (L := [some (.ref (ad 0)), some (.int x), some (.int s), some (.int off), none, none, none]) (by decide) rfl (Nat.le_of_ble_eq_true rfl) rfl ?_
  have J21_ : ∀ y_ : Int32, y_ = zplace (zJp x) → AV l G sX5_joint (wP G ad σ x0) (zPost G ad (o_joint σ x s off)) 21 [some (.ref (ad 0)), some (.int x), some (.int s), some (.int off), none, none, none] [.int y_] (wP G ad σ x0) := by
    intro y_ hy_; subst hy_
    refine a_istore_4 (pc := 21) dX5_joint_21 rfl (by decide) ?_
    refine a_iload_4 (pc := 23) dX5_joint_23 ?_
    rcases hp_ : zJp x with _ | k
    · refine a_if_lt (tgt := 48) (pc := 25) dX5_joint_25 (by decide) (fun _ => ?_) (fun c_ => absurd (show zplace none < 0 by decide) c_)
      refine a_ldc2 (pc := 48) dX5_joint_48 kl_X5_68 ?_
      exact a_lret (pc := 51) dX5_joint_51 rfl rfl (by first | exact zret' x0 (by unfold o_joint; rw [if_pos (Or.inl hp_)]) rfl | exact zret' x0 (by unfold o_joint; rw [if_pos (Or.inr (Or.inl c_34))]) rfl | exact zret' x0 (by unfold o_joint; rw [if_pos (Or.inr (Or.inr c_45))]) rfl)
    · have hk_ := zJp_6 hp_
      have hne_ : ¬ zJp x = none := by rw [hp_]; exact fun h => by cases h
      dsimp only [zplace]
      refine a_if_lt (tgt := 48) (pc := 25) dX5_joint_25 (by decide) (fun c_ => absurd c_ (nI_pos (by omega))) (fun _ => ?_)
      refine a_iload_2 (pc := 28) dX5_joint_28 ?_
      refine a_iconst (v := 0) (pc := 29) dX5_joint_29 (by decide) ?_
      refine a_iconst (v := 1) (pc := 30) dX5_joint_30 (by decide) ?_
      refine cS_P (S2 := sX5_outside) (c_outside l G _ _ _) kc_X5_outside km_X5_64 ks_X5_outside kini_X5 ⟨kn_X5_outside, by decide, by decide⟩ (pc := 31) dX5_joint_31 [] rfl rfl rfl rfl (Nat.le_of_ble_eq_true rfl) ?_
      first | refine a_if_neB (tgt := 48) (pc := 34) dX5_joint_34 (by decide) (fun c_34 => ?_) (fun c_34 => ?_) | refine a_if_ne (tgt := 48) (pc := 34) dX5_joint_34 (by decide) (fun c_34 => ?_) (fun c_34 => ?_)
      · refine a_ldc2 (pc := 48) dX5_joint_48 kl_X5_68 ?_
        exact a_lret (pc := 51) dX5_joint_51 rfl rfl (by first | exact zret' x0 (by unfold o_joint; rw [if_pos (Or.inl hp_)]) rfl | exact zret' x0 (by unfold o_joint; rw [if_pos (Or.inr (Or.inl c_34))]) rfl | exact zret' x0 (by unfold o_joint; rw [if_pos (Or.inr (Or.inr c_45))]) rfl)
      · refine a_iload_3 (pc := 37) dX5_joint_37 ?_
        refine a_iconst (v := 0) (pc := 38) dX5_joint_38 (by decide) ?_
        refine a_sipush (v := 9999) (pc := 39) dX5_joint_39 (by decide) ?_
        refine cS_P (S2 := sX5_outside) (c_outside l G _ _ _) kc_X5_outside km_X5_64 ks_X5_outside kini_X5 ⟨kn_X5_outside, by decide, by decide⟩ (pc := 42) dX5_joint_42 [] rfl rfl rfl rfl (Nat.le_of_ble_eq_true rfl) ?_
        first | refine a_if_eqB (tgt := 52) (pc := 45) dX5_joint_45 (by decide) (fun c_45 => ?_) (fun c_45 => ?_) | refine a_if_eq (tgt := 52) (pc := 45) dX5_joint_45 (by decide) (fun c_45 => ?_) (fun c_45 => ?_)
        · refine a_aload_0 (pc := 52) dX5_joint_52 ?_
          refine a_getf (ci := 5) (j := 1) rfl win_X5 (by decide) (pc := 53) dX5_joint_53 kf_X5_16 rfl rfl ?_
          refine a_iload_4 (pc := 56) dX5_joint_56 ?_
          refine cV_P (ad := ad) (q0 := 2) (S2 := sX2_holdsSkin) (c_holdsSkin l G (zpk ad [2, 3]) (zVesf σ) (nI (σ.1 0)) k hk_.1) kc_X2_holdsSkin km_X5_105 ki_X2_holdsSkin kv_X2_holdsSkin kini_X2 ⟨kn_X2_holdsSkin, by decide, by decide⟩ (pc := 58) dX5_joint_58 [2, 3] rfl rfl rfl rfl (Nat.le_of_ble_eq_true rfl) rfl rfl rfl ?_
          first | refine a_if_neB (tgt := 68) (pc := 61) dX5_joint_61 (by decide) (fun c_61 => ?_) (fun c_61 => ?_) | refine a_if_ne (tgt := 68) (pc := 61) dX5_joint_61 (by decide) (fun c_61 => ?_) (fun c_61 => ?_)
          · rcases zrange2 c_34 with rfl | rfl
            · refine a_aload_0 (pc := 68) dX5_joint_68 ?_
              refine a_getf (ci := 5) (j := 6) rfl win_X5 (by decide) (pc := 69) dX5_joint_69 kf_X5_47 rfl rfl ?_
              refine a_iload_2 (pc := 72) dX5_joint_72 ?_
              refine a_aaldN (k := 0) (pc := 73) dX5_joint_73 rfl (by decide) (by decide) rfl ?_
              refine a_astore_5 (pc := 74) dX5_joint_74 rfl (by decide) ?_
              refine a_aload_5 (pc := 76) dX5_joint_76 ?_
              first
                | refine cV_P (ad := ad) (q0 := 24) (S2 := sX3_isMissing) (c_isMissing l G (zpk ad [24, 25]) (σ.2.2.2 0) (σ.2.2.1 0)) kc_X3_isMissing km_X5_211 ki_X3_isMissing kv_X3_isMissing kini_X3 ⟨kn_X3_isMissing, by decide, by decide⟩ (pc := 78) dX5_joint_78 [24, 25] rfl rfl rfl rfl (Nat.le_of_ble_eq_true rfl) rfl rfl rfl ?_
                | refine cV_P (ad := ad) (q0 := 26) (S2 := sX3_isMissing) (c_isMissing l G (zpk ad [26, 27]) (σ.2.2.2 1) (σ.2.2.1 1)) kc_X3_isMissing km_X5_211 ki_X3_isMissing kv_X3_isMissing kini_X3 ⟨kn_X3_isMissing, by decide, by decide⟩ (pc := 78) dX5_joint_78 [26, 27] rfl rfl rfl rfl (Nat.le_of_ble_eq_true rfl) rfl rfl rfl ?_
              first | refine a_if_eqB (tgt := 88) (pc := 81) dX5_joint_81 (by decide) (fun c_81 => ?_) (fun c_81 => ?_) | refine a_if_eq (tgt := 88) (pc := 81) dX5_joint_81 (by decide) (fun c_81 => ?_) (fun c_81 => ?_)
              · refine a_aload_0 (pc := 88) dX5_joint_88 ?_
                refine f_0 (ad := ad) (q0 := 0) (S2 := sX5_letFlow) (p_letFlow l G ad σ x0 hσ) kc_X5_letFlow km_X5_111 ki_X5_letFlow kv_X5_letFlow kini_X5 ⟨kn_X5_letFlow, by decide, by decide⟩ (pc := 89) dX5_joint_89 (znd_of rfl znd28) rfl rfl (Nat.le_of_ble_eq_true rfl) rfl rfl rfl (fun u_ hu_ => ?_)
                refine a_iconst (v := 0) (pc := 92) dX5_joint_92 (by decide) ?_
                refine a_istore_6 (pc := 93) dX5_joint_93 rfl (by decide) ?_
                first
                  | (have e_ : o_joint σ x 0 off = (zJo σ 0 k off (σ.1 0) 0, σ) := by
                       unfold o_joint
                       rw [if_neg (fun h => h.elim hne_ (fun h => h.elim c_34 c_45)), hp_, Option.getD_some, if_neg (fun h => h c_61)]
                       exact congrArg (fun z => (z, σ)) (if_neg c_81)
                     rw [e_]
                     exact lp_joint0 l G ad σ hσ x0 u_ hu_.1 x off k hk_.1 hk_.2 c_61 _ (σ.1 0) 0 (by omega) rfl)
                  | (have e_ : o_joint σ x 1 off = (zJo σ 1 k off (σ.1 0) 0, σ) := by
                       unfold o_joint
                       rw [if_neg (fun h => h.elim hne_ (fun h => h.elim c_34 c_45)), hp_, Option.getD_some, if_neg (fun h => h c_61)]
                       exact congrArg (fun z => (z, σ)) (if_neg c_81)
                     rw [e_]
                     exact lp_joint1 l G ad σ hσ x0 u_ hu_.1 x off k hk_.1 hk_.2 c_61 _ (σ.1 0) 0 (by omega) rfl)
              · refine a_ldc2 (pc := 84) dX5_joint_84 kl_X5_215 ?_
                exact a_lret (pc := 87) dX5_joint_87 rfl rfl (zret' x0 (by unfold o_joint; rw [if_neg (fun h => h.elim hne_ (fun h => h.elim c_34 c_45)), hp_, Option.getD_some, if_neg (fun h => h c_61)]; exact congrArg (fun z => (z, σ)) (if_pos c_81)) rfl)
            · refine a_aload_0 (pc := 68) dX5_joint_68 ?_
              refine a_getf (ci := 5) (j := 6) rfl win_X5 (by decide) (pc := 69) dX5_joint_69 kf_X5_47 rfl rfl ?_
              refine a_iload_2 (pc := 72) dX5_joint_72 ?_
              refine a_aaldN (k := 1) (pc := 73) dX5_joint_73 rfl (by decide) (by decide) rfl ?_
              refine a_astore_5 (pc := 74) dX5_joint_74 rfl (by decide) ?_
              refine a_aload_5 (pc := 76) dX5_joint_76 ?_
              first
                | refine cV_P (ad := ad) (q0 := 24) (S2 := sX3_isMissing) (c_isMissing l G (zpk ad [24, 25]) (σ.2.2.2 0) (σ.2.2.1 0)) kc_X3_isMissing km_X5_211 ki_X3_isMissing kv_X3_isMissing kini_X3 ⟨kn_X3_isMissing, by decide, by decide⟩ (pc := 78) dX5_joint_78 [24, 25] rfl rfl rfl rfl (Nat.le_of_ble_eq_true rfl) rfl rfl rfl ?_
                | refine cV_P (ad := ad) (q0 := 26) (S2 := sX3_isMissing) (c_isMissing l G (zpk ad [26, 27]) (σ.2.2.2 1) (σ.2.2.1 1)) kc_X3_isMissing km_X5_211 ki_X3_isMissing kv_X3_isMissing kini_X3 ⟨kn_X3_isMissing, by decide, by decide⟩ (pc := 78) dX5_joint_78 [26, 27] rfl rfl rfl rfl (Nat.le_of_ble_eq_true rfl) rfl rfl rfl ?_
              first | refine a_if_eqB (tgt := 88) (pc := 81) dX5_joint_81 (by decide) (fun c_81 => ?_) (fun c_81 => ?_) | refine a_if_eq (tgt := 88) (pc := 81) dX5_joint_81 (by decide) (fun c_81 => ?_) (fun c_81 => ?_)
              · refine a_aload_0 (pc := 88) dX5_joint_88 ?_
                refine f_0 (ad := ad) (q0 := 0) (S2 := sX5_letFlow) (p_letFlow l G ad σ x0 hσ) kc_X5_letFlow km_X5_111 ki_X5_letFlow kv_X5_letFlow kini_X5 ⟨kn_X5_letFlow, by decide, by decide⟩ (pc := 89) dX5_joint_89 (znd_of rfl znd28) rfl rfl (Nat.le_of_ble_eq_true rfl) rfl rfl rfl (fun u_ hu_ => ?_)
                refine a_iconst (v := 0) (pc := 92) dX5_joint_92 (by decide) ?_
                refine a_istore_6 (pc := 93) dX5_joint_93 rfl (by decide) ?_
                first
                  | (have e_ : o_joint σ x 0 off = (zJo σ 0 k off (σ.1 0) 0, σ) := by
                       unfold o_joint
                       rw [if_neg (fun h => h.elim hne_ (fun h => h.elim c_34 c_45)), hp_, Option.getD_some, if_neg (fun h => h c_61)]
                       exact congrArg (fun z => (z, σ)) (if_neg c_81)
                     rw [e_]
                     exact lp_joint0 l G ad σ hσ x0 u_ hu_.1 x off k hk_.1 hk_.2 c_61 _ (σ.1 0) 0 (by omega) rfl)
                  | (have e_ : o_joint σ x 1 off = (zJo σ 1 k off (σ.1 0) 0, σ) := by
                       unfold o_joint
                       rw [if_neg (fun h => h.elim hne_ (fun h => h.elim c_34 c_45)), hp_, Option.getD_some, if_neg (fun h => h c_61)]
                       exact congrArg (fun z => (z, σ)) (if_neg c_81)
                     rw [e_]
                     exact lp_joint1 l G ad σ hσ x0 u_ hu_.1 x off k hk_.1 hk_.2 c_61 _ (σ.1 0) 0 (by omega) rfl)
              · refine a_ldc2 (pc := 84) dX5_joint_84 kl_X5_215 ?_
                exact a_lret (pc := 87) dX5_joint_87 rfl rfl (zret' x0 (by unfold o_joint; rw [if_neg (fun h => h.elim hne_ (fun h => h.elim c_34 c_45)), hp_, Option.getD_some, if_neg (fun h => h c_61)]; exact congrArg (fun z => (z, σ)) (if_pos c_81)) rfl)
          · refine a_ldc2 (pc := 64) dX5_joint_64 kl_X5_109 ?_
            exact a_lret (pc := 67) dX5_joint_67 rfl rfl (zret' x0 (by unfold o_joint; rw [if_neg (fun h => h.elim hne_ (fun h => h.elim c_34 c_45)), hp_, Option.getD_some, if_pos c_61]) rfl)
        · refine a_ldc2 (pc := 48) dX5_joint_48 kl_X5_68 ?_
          exact a_lret (pc := 51) dX5_joint_51 rfl rfl (by first | exact zret' x0 (by unfold o_joint; rw [if_pos (Or.inl hp_)]) rfl | exact zret' x0 (by unfold o_joint; rw [if_pos (Or.inr (Or.inl c_34))]) rfl | exact zret' x0 (by unfold o_joint; rw [if_pos (Or.inr (Or.inr c_45))]) rfl)
  refine a_iload_1 (pc := 0) dX5_joint_0 ?_
  refine a_iconst (v := 0) (pc := 1) dX5_joint_1 (by decide) ?_
  refine a_bipush (v := 30) (pc := 2) dX5_joint_2 (by decide) ?_
  refine cS_P (S2 := sX5_outside) (c_outside l G _ _ _) kc_X5_outside km_X5_64 ks_X5_outside kini_X5 ⟨kn_X5_outside, by decide, by decide⟩ (pc := 4) dX5_joint_4 [] rfl rfl rfl rfl (Nat.le_of_ble_eq_true rfl) ?_
  first | refine a_if_eqB (tgt := 14) (pc := 7) dX5_joint_7 (by decide) (fun c_7 => ?_) (fun c_7 => ?_) | refine a_if_eq (tgt := 14) (pc := 7) dX5_joint_7 (by decide) (fun c_7 => ?_) (fun c_7 => ?_)
  · refine a_bipush (v := 10) (pc := 14) dX5_joint_14 (by decide) ?_
    refine a_iload_1 (pc := 16) dX5_joint_16 ?_
    refine a_imul (pc := 17) dX5_joint_17 ?_
    refine cS_P (S2 := sX5_placeOf) (c_placeOf l G _) kc_X5_placeOf km_X5_76 ks_X5_placeOf kini_X5 ⟨kn_X5_placeOf, by decide, by decide⟩ (pc := 18) dX5_joint_18 [] rfl rfl rfl rfl (Nat.le_of_ble_eq_true rfl) ?_
    first | exact J21_ _ (by unfold zJp; rw [if_pos c_7]; rfl) | exact J21_ _ (by unfold zJp; rw [if_neg c_7])
  · refine a_iconst (v := -1) (pc := 10) dX5_joint_10 (by decide) ?_
    refine a_goto (tgt := 21) (pc := 11) dX5_joint_11 (by decide) ?_
    first | exact J21_ _ (by unfold zJp; rw [if_pos c_7]; rfl) | exact J21_ _ (by unfold zJp; rw [if_neg c_7])

