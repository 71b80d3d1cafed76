/-! The model: a skin. -/
/-- what the model's five rows hold of a skin -/
def zOutM (pa le : Int32) (s : zSt3) (a : Nat) : Int64 := if a = 0 then s.1 else if a = 1 then s.2.1 else if a = 2 then s.2.2 else if a = 3 then zThr pa s.1 s.2.1 s.2.2 else zThr pa s.1 s.2.1 s.2.2 * zThS le s.1 s.2.1
theorem zThr_le {q w : Int64} (h : q ≤ w) : (if q < w then q else w) = q := by
  by_cases h2 : q < w
  · exact if_pos h2
  · rw [if_neg h2]
    apply Int64.toInt_inj.mp
    have a := Int64.le_iff_toInt_le.mp h
    have b := mt Int64.lt_iff_toInt_lt.mpr h2
    omega
theorem zThr_nle {q w : Int64} (h : ¬ q ≤ w) : (if q < w then q else w) = w := if_neg (fun h2 => h (Int64.le_iff_toInt_le.mpr (by have := Int64.lt_iff_toInt_lt.mp h2; omega)))
theorem zPush_ge {x : Int64} (h : 0 ≤ x) : (if x < 0 then 0 else x) = x := if_neg (fun h2 => by
  have a := Int64.le_iff_toInt_le.mp h
  have b := Int64.lt_iff_toInt_lt.mp h2
  omega)
theorem zPush_nge {x : Int64} (h : ¬ 0 ≤ x) : (if x < 0 then 0 else x) = 0 := if_pos (Int64.lt_iff_toInt_lt.mpr (by
  have a := mt Int64.le_iff_toInt_le.mpr h
  omega))
set_option maxRecDepth 100000 in
set_option maxHeartbeats 4000000 in
/-- skin -/
theorem m_skin (l : Launch) (G : zG) (ad : Nat → Nat) (σ : zσ) (hσ : zOk σ) (x0 : zY) (k : Nat) (hk : k < 72) (w g p : Int64) : zSem l G sX6_skin [.ref (ad 0), .int (nI k), .long w, .long g, .long p] (wM G ad σ x0) (z0 (fun _ : Unit => True) (fun _ => wM G ad σ (x0.1, zup6 x0.2.1 k (zOutM (zPaf σ k) (zLef σ k) (w, g, p)), zJ2 x0.2.2.1 (x0.2.2.1 0 + zThr (zPaf σ k) w g p) (x0.2.2.1 1 + zThr (zPaf σ k) w g p * zThS (zLef σ k) w g), x0.2.2.2))) := by
  refine zEnterV (L := [some (.ref (ad 0)), some (.int (nI k)), some (.long w), none, some (.long g), none, some (.long p), none, none, none, none, none, none, none]) (by decide) rfl (Nat.le_of_ble_eq_true rfl) rfl ?_
  refine a_lload_2 (pc := 0) dX6_skin_0 ?_
  refine a_lload_4 (pc := 1) dX6_skin_1 ?_
  refine cS_P (S2 := sX6_saltOf) (m_saltOf l G _ _) kc_X6_saltOf km_X6_100 ks_X6_saltOf kini_X6 ⟨kn_X6_saltOf, by decide, by decide⟩ (pc := 3) dX6_skin_3 [] rfl rfl rfl rfl (Nat.le_of_ble_eq_true rfl) ?_
  refine a_lstore_8 (pc := 6) dX6_skin_6 rfl (by decide) ?_
  refine a_lload_6 (pc := 8) dX6_skin_8 ?_
  refine a_lload_8 (pc := 10) dX6_skin_10 ?_
  refine a_ldc2 (pc := 12) dX6_skin_12 kl_X6_104 ?_
  refine a_ldiv (pc := 15) dX6_skin_15 (by decide) ?_
  refine a_lsub (pc := 16) dX6_skin_16 ?_
  refine a_lstore_10 (pc := 17) dX6_skin_17 rfl (by decide) ?_
  have J32_ : ∀ y_ : Int64, y_ = zPush w g p → AV l G sX6_skin (wM G ad σ x0) (z0 (fun _ : Unit => True) (fun _ => wM G ad σ (x0.1, zup6 x0.2.1 k (zOutM (zPaf σ k) (zLef σ k) (w, g, p)), zJ2 x0.2.2.1 (x0.2.2.1 0 + zThr (zPaf σ k) w g p) (x0.2.2.1 1 + zThr (zPaf σ k) w g p * zThS (zLef σ k) w g), x0.2.2.2))) 32 [some (.ref (ad 0)), some (.int (nI k)), some (.long w), none, some (.long g), none, some (.long p), none, some (.long (zSalt w g)), none, some (.long (p - zSalt w g / 100)), none, none, none] [.long y_] (wM G ad σ x0) := by
    intro y_ hy_; subst hy_
    refine a_lstore_10 (pc := 32) dX6_skin_32 rfl (by decide) ?_
    refine a_lload_10 (pc := 34) dX6_skin_34 ?_
    refine a_aload_0 (pc := 36) dX6_skin_36 ?_
    refine a_iload_1 (pc := 37) dX6_skin_37 ?_
    refine f_P (ad := ad) (q0 := 0) (S2 := sX6_pass) (m_pass l G ad σ hσ x0 k hk) kc_X6_pass km_X6_89 ki_X6_pass kv_X6_pass kini_X6 ⟨kn_X6_pass, by decide, by decide⟩ (pc := 38) dX6_skin_38 (znd_of rfl znd18) rfl rfl (Nat.le_of_ble_eq_true rfl) rfl rfl rfl ?_
    refine a_i2l (pc := 41) dX6_skin_41 ?_
    refine a_lmul (pc := 42) dX6_skin_42 ?_
    refine a_ldc2 (pc := 43) dX6_skin_43 kl_X6_104 ?_
    refine a_ldiv (pc := 46) dX6_skin_46 (by decide) ?_
    refine a_lstore_12 (pc := 47) dX6_skin_47 rfl (by decide) ?_
    have J62_ : ∀ y_ : Int64, y_ = zThr (zPaf σ k) w g p → AV l G sX6_skin (wM G ad σ x0) (z0 (fun _ : Unit => True) (fun _ => wM G ad σ (x0.1, zup6 x0.2.1 k (zOutM (zPaf σ k) (zLef σ k) (w, g, p)), zJ2 x0.2.2.1 (x0.2.2.1 0 + zThr (zPaf σ k) w g p) (x0.2.2.1 1 + zThr (zPaf σ k) w g p * zThS (zLef σ k) w g), x0.2.2.2))) 62 [some (.ref (ad 0)), some (.int (nI k)), some (.long w), none, some (.long g), none, some (.long p), none, some (.long (zSalt w g)), none, some (.long (zPush w g p)), none, some (.long (zPush w g p * (zPaf σ k).toInt64 / 100)), none] [.long y_] (wM G ad σ x0) := by
      intro y_ hy_; subst hy_
      refine a_lstore_12 (pc := 62) dX6_skin_62 rfl (by decide) ?_
      refine a_aload_0 (pc := 64) dX6_skin_64 ?_
      refine a_getf (ci := 6) (j := 13) rfl win_X6 (by decide) (pc := 65) dX6_skin_65 kf_X6_47 rfl rfl ?_
      refine a_iload_1 (pc := 68) dX6_skin_68 ?_
      refine a_lload_2 (pc := 69) dX6_skin_69 ?_
      refine a_lastN (pc := 70) dX6_skin_70 rfl (by omega) (by decide) ?_
      refine a_aload_0 (pc := 71) dX6_skin_71 ?_
      refine a_getf (ci := 6) (j := 14) rfl win_X6 (by decide) (pc := 72) dX6_skin_72 kf_X6_51 rfl rfl ?_
      refine a_iload_1 (pc := 75) dX6_skin_75 ?_
      refine a_lload_4 (pc := 76) dX6_skin_76 ?_
      refine a_lastN (pc := 78) dX6_skin_78 rfl (by omega) (by decide) ?_
      refine a_aload_0 (pc := 79) dX6_skin_79 ?_
      refine a_getf (ci := 6) (j := 15) rfl win_X6 (by decide) (pc := 80) dX6_skin_80 kf_X6_54 rfl rfl ?_
      refine a_iload_1 (pc := 83) dX6_skin_83 ?_
      refine a_lload_6 (pc := 84) dX6_skin_84 ?_
      refine a_lastN (pc := 86) dX6_skin_86 rfl (by omega) (by decide) ?_
      refine a_aload_0 (pc := 87) dX6_skin_87 ?_
      refine a_getf (ci := 6) (j := 16) rfl win_X6 (by decide) (pc := 88) dX6_skin_88 kf_X6_57 rfl rfl ?_
      refine a_iload_1 (pc := 91) dX6_skin_91 ?_
      refine a_lload_12 (pc := 92) dX6_skin_92 ?_
      refine a_lastN (pc := 94) dX6_skin_94 rfl (by omega) (by decide) ?_
      refine a_aload_0 (pc := 95) dX6_skin_95 ?_
      refine a_getf (ci := 6) (j := 17) rfl win_X6 (by decide) (pc := 96) dX6_skin_96 kf_X6_60 rfl rfl ?_
      refine a_iload_1 (pc := 99) dX6_skin_99 ?_
      refine a_lload_12 (pc := 100) dX6_skin_100 ?_
      refine a_lload_8 (pc := 102) dX6_skin_102 ?_
      refine a_aload_0 (pc := 104) dX6_skin_104 ?_
      refine a_iload_1 (pc := 105) dX6_skin_105 ?_
      refine cV_P (ad := ad) (q0 := 0) (S2 := sX6_leak) (m_leak l G ad σ hσ (x0.1, (fun a => if a = 4 then x0.2.1 4 else vp_updL (x0.2.1 a) k (zOutM (zPaf σ k) (zLef σ k) (w, g, p) a)), x0.2.2) k hk) kc_X6_leak km_X6_92 ki_X6_leak kv_X6_leak kini_X6 ⟨kn_X6_leak, by decide, by decide⟩ (pc := 106) dX6_skin_106 [0, 1, 2, 3, 4, 5, 6, 7, 8, 9, 10, 11, 12, 13, 14, 15, 16, 17] rfl rfl rfl rfl (Nat.le_of_ble_eq_true rfl) rfl rfl rfl ?_
      refine a_i2l (pc := 109) dX6_skin_109 ?_
      refine a_lmul (pc := 110) dX6_skin_110 ?_
      refine a_ldc2 (pc := 111) dX6_skin_111 kl_X6_106 ?_
      refine a_ldiv (pc := 114) dX6_skin_114 (by decide) ?_
      refine a_lmul (pc := 115) dX6_skin_115 ?_
      refine a_lastN (pc := 116) dX6_skin_116 rfl (by omega) (by decide) ?_
      refine a_aload_0 (pc := 117) dX6_skin_117 ?_
      refine a_dup (pc := 118) dX6_skin_118 rfl ?_
      refine a_getf (ci := 6) (j := 18) rfl win_X6 (by decide) (pc := 119) dX6_skin_119 kf_X6_108 rfl rfl ?_
      refine a_lload_12 (pc := 122) dX6_skin_122 ?_
      refine a_ladd (pc := 124) dX6_skin_124 ?_
      refine a_putf (ci := 6) (j := 18) rfl win_X6 tyX6_ok nmX6 (by decide) (pc := 125) dX6_skin_125 kf_X6_108 rfl rfl rfl rfl rfl (Nat.le_of_ble_eq_true rfl) ?_
      refine a_aload_0 (pc := 128) dX6_skin_128 ?_
      refine a_dup (pc := 129) dX6_skin_129 rfl ?_
      refine a_getf (ci := 6) (j := 19) rfl win_X6 (by decide) (pc := 130) dX6_skin_130 kf_X6_112 rfl rfl ?_
      refine a_aload_0 (pc := 133) dX6_skin_133 ?_
      refine a_getf (ci := 6) (j := 17) rfl win_X6 (by decide) (pc := 134) dX6_skin_134 kf_X6_60 rfl rfl ?_
      refine a_iload_1 (pc := 137) dX6_skin_137 ?_
      refine a_laldN (pc := 138) dX6_skin_138 rfl (by omega) (by decide) ?_
      rw [updL_same]
      refine a_ladd (pc := 139) dX6_skin_139 ?_
      refine a_putf (ci := 6) (j := 19) rfl win_X6 tyX6_ok nmX6 (by decide) (pc := 140) dX6_skin_140 kf_X6_112 rfl rfl rfl rfl rfl (Nat.le_of_ble_eq_true rfl) ?_
      exact a_vret (pc := 143) dX6_skin_143 rfl rfl ⟨(), trivial, rfl, rfl⟩
    refine a_lload_12 (pc := 49) dX6_skin_49 ?_
    refine a_lload_2 (pc := 51) dX6_skin_51 ?_
    refine a_lif_le (tgt := 60) (pc := 52) dX6_skin_52 dX6_skin_53 (by decide) (fun c_52 => ?_) (fun c_52 => ?_)
    · refine a_lload_12 (pc := 60) dX6_skin_60 ?_
      first | exact J62_ _ (zThr_le c_52).symm | exact J62_ _ (zThr_nle c_52).symm
    · refine a_lload_2 (pc := 56) dX6_skin_56 ?_
      refine a_goto (tgt := 62) (pc := 57) dX6_skin_57 (by decide) ?_
      first | exact J62_ _ (zThr_le c_52).symm | exact J62_ _ (zThr_nle c_52).symm
  refine a_lload_10 (pc := 19) dX6_skin_19 ?_
  refine a_lconst (v := 0) (pc := 21) dX6_skin_21 (by decide) ?_
  refine a_lif_ge (tgt := 30) (pc := 22) dX6_skin_22 dX6_skin_23 (by decide) (fun c_22 => ?_) (fun c_22 => ?_)
  · refine a_lload_10 (pc := 30) dX6_skin_30 ?_
    first | exact J32_ _ (zPush_ge c_22).symm | exact J32_ _ (zPush_nge c_22).symm
  · refine a_lconst (v := 0) (pc := 26) dX6_skin_26 (by decide) ?_
    refine a_goto (tgt := 32) (pc := 27) dX6_skin_27 (by decide) ?_
    first | exact J32_ _ (zPush_ge c_22).symm | exact J32_ _ (zPush_nge c_22).symm

