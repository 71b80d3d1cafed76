/-! Flows: a stage, the whole run, the first failure. -/
def zWv (W : Int64) (m v : Nat) : Int64 := if W - W / (nI m).toInt64 * (nI m).toInt64 ≤ (nI v).toInt64 then W / (nI m).toInt64 else W / (nI m).toInt64 + 1
def zGv (W g : Int64) (m v : Nat) : Int64 := if v = 0 then zWv W m v * zSalt W g + (g - W * zSalt W g) else zWv W m v * zSalt W g
def zIn (st : zSt3) (m v : Nat) : zSt3 := (zWv st.1 m v, zGv st.1 st.2.1 m v, st.2.2)
def zStg (pa le : Nat → Int32) (s m n : Nat) (st : zSt3) : Nat → Int64 × Int64
  | 0 => (0, 0)
  | v + 1 => ((zStg pa le s m n st v).1 + (zVs pa le (s * 24 + v * 6) (zIn st m v) n).1, (zStg pa le s m n st v).2 + (zVs pa le (s * 24 + v * 6) (zIn st m v) n).2.1)
def zStN (pa le : Nat → Int32) (s m n : Nat) (st : zSt3) : zSt3 := if m = 0 then st else ((zStg pa le s m n st m).1, (zStg pa le s m n st m).2, zLess st.2.2 (2 * nI n).toInt64)
theorem zStN_pos {pa le : Nat → Int32} {s m n : Nat} {st : zSt3} (h : 0 < m) : zStN pa le s m n st = ((zStg pa le s m n st m).1, (zStg pa le s m n st m).2, zLess st.2.2 (2 * nI n).toInt64) := if_neg (by omega)
def zJ3 (J : Nat → Int64) (st : zSt3) : Nat → Int64 := fun a => if a = 0 then st.1 else if a = 1 then st.2.1 else if a = 2 then st.2.2 else J a
/-- the rows hold what the skins of the first vessels of a stage got and let through -/
def zRow (pa le : Nat → Int32) (s m n : Nat) (st : zSt3) (B : Nat → Nat → Int64) (c : Nat) : Prop := ∀ v, v < c → ∀ j, j < n → ∀ a, a < 6 → B a (s * 24 + v * 6 + j) = zOut (pa (s * 24 + v * 6 + j)) (le (s * 24 + v * 6 + j)) (zVs pa le (s * 24 + v * 6) (zIn st m v) j) a
theorem zRow_s {pa le : Nat → Int32} {s m n c : Nat} {st : zSt3} {B u : Nat → Nat → Int64} (hn : n ≤ 6) (h : zRow pa le s m n st B c) (h1 : ∀ a k, ¬ (s * 24 + c * 6 ≤ k ∧ k < s * 24 + c * 6 + n) → u a k = B a k) (h2 : ∀ j, j < n → ∀ a, a < 6 → u a (s * 24 + c * 6 + j) = zOut (pa (s * 24 + c * 6 + j)) (le (s * 24 + c * 6 + j)) (zVs pa le (s * 24 + c * 6) (zIn st m c) j) a) : zRow pa le s m n st u (c + 1) := by
  intro v hv j hj a ha
  by_cases h : v = c
  · subst h; exact h2 j hj a ha
  · rw [h1 a _ (by omega)]
    exact ‹zRow pa le s m n st B c› v (by omega) j hj a ha
theorem zRow_k {pa le : Nat → Int32} {s m n c t : Nat} {st : zSt3} {B u : Nat → Nat → Int64} (hn : n ≤ 6) (hc : c ≤ 4) (hs : s < t) (h : zRow pa le s m n st B c) (h1 : ∀ a k, ¬ (t * 24 ≤ k ∧ k < t * 24 + 24) → u a k = B a k) : zRow pa le s m n st u c := by
  intro v hv j hj a ha
  rw [h1 a _ (by omega)]
  exact h v hv j hj a ha
set_option maxRecDepth 100000 in
set_option maxHeartbeats 4000000 in
theorem lp_runStage (l : Launch) (G : zG) (ad : Nat → Nat) (pa le : Nat → Int32) (B0 : Nat → Nat → Int64) (J : Nat → Int64) (s m n : Nat) (hs : s < 3) (hm : m ≤ 4) (hn : n ≤ 6) (hm0 : 0 < m) : ∀ (q v : Nat) (B : Nat → Nat → Int64), v + q = m → ((∀ a k, ¬ (s * 24 ≤ k ∧ k < s * 24 + v * 6) → B a k = B0 a k) ∧ zRow pa le s m n (J 0, J 1, J 2) B v) → AV l G sX0_runStage (wFl G ad pa le B0 J) (z0 (fun u : Nat → Nat → Int64 => (∀ a k, ¬ (s * 24 ≤ k ∧ k < s * 24 + m * 6) → u a k = B0 a k) ∧ zRow pa le s m n (J 0, J 1, J 2) u m) (fun u => wFl G ad pa le u (zJ3 J (zStN pa le s m n (J 0, J 1, J 2))))) 64 [some (.ref (ad 0)), some (.int (nI s)), some (.int (nI m)), some (.int (nI n)), some (.long (J 0 / (nI m).toInt64)), none, some (.long (J 0 - J 0 / (nI m).toInt64 * (nI m).toInt64)), none, some (.long (zSalt (J 0) (J 1))), none, some (.long (J 1 - J 0 * zSalt (J 0) (J 1))), none, some (.int (nI v)), none, none, none, none] [] (wFl G ad pa le B (zJ2 J (zStg pa le s m n (J 0, J 1, J 2) v).1 (zStg pa le s m n (J 0, J 1, J 2) v).2)) := by
  intro q_
  induction q_ using Nat.strongRecOn
  rename_i q_ ih_
  intro v B hq_ hB_
  refine a_iload_12 (pc := 64) dX0_runStage_64 ?_
  refine a_iload_2 (pc := 66) dX0_runStage_66 ?_
  refine a_icmp_ge (tgt := 138) (pc := 67) dX0_runStage_67 (by decide) (fun c_67 => ?_) (fun c_67 => ?_)
  · obtain rfl : v = m := by have := (zI_le (by omega) (by omega)).mp c_67; omega
    refine a_aload_0 (pc := 138) dX0_runStage_138 ?_
    refine a_lconst (v := 0) (pc := 139) dX0_runStage_139 (by decide) ?_
    refine a_aload_0 (pc := 140) dX0_runStage_140 ?_
    refine a_getf (ci := 0) (j := 10) rfl win_X0 (by decide) (pc := 141) dX0_runStage_141 kf_X0_44 rfl rfl ?_
    refine a_iconst (v := 2) (pc := 144) dX0_runStage_144 (by decide) ?_
    refine a_iload_3 (pc := 145) dX0_runStage_145 ?_
    refine a_imul (pc := 146) dX0_runStage_146 ?_
    refine a_i2l (pc := 147) dX0_runStage_147 ?_
    refine a_lsub (pc := 148) dX0_runStage_148 ?_
    refine a_maxJ (pc := 149) dX0_runStage_149 km_X0_83 (by decide) (Nat.le_of_ble_eq_true rfl) ?_
    refine a_putf (ci := 0) (j := 10) rfl win_X0 tyX0_ok nmX0 (by decide) (pc := 152) dX0_runStage_152 kf_X0_44 rfl rfl rfl rfl rfl (Nat.le_of_ble_eq_true rfl) ?_
    exact a_vret (pc := 155) dX0_runStage_155 rfl rfl ⟨B, hB_, rfl, by rw [zStN_pos hm0]; rfl⟩
  · have hi_ : v < m := by have := mt (zI_le (a := m) (b := v) (by omega) (by omega)).mpr c_67; omega
    have J88_ : ∀ x_ : Int64, x_ = zWv (J 0) m v → AV l G sX0_runStage (wFl G ad pa le B0 J) (z0 (fun u : Nat → Nat → Int64 => (∀ a k, ¬ (s * 24 ≤ k ∧ k < s * 24 + m * 6) → u a k = B0 a k) ∧ zRow pa le s m n (J 0, J 1, J 2) u m) (fun u => wFl G ad pa le u (zJ3 J (zStN pa le s m n (J 0, J 1, J 2))))) 88 [some (.ref (ad 0)), some (.int (nI s)), some (.int (nI m)), some (.int (nI n)), some (.long (J 0 / (nI m).toInt64)), none, some (.long (J 0 - J 0 / (nI m).toInt64 * (nI m).toInt64)), none, some (.long (zSalt (J 0) (J 1))), none, some (.long (J 1 - J 0 * zSalt (J 0) (J 1))), none, some (.int (nI v)), none, none, none, none] [.long x_] (wFl G ad pa le B (zJ2 J (zStg pa le s m n (J 0, J 1, J 2) v).1 (zStg pa le s m n (J 0, J 1, J 2) v).2)) := by
      intro x_ hx_; subst hx_
      refine a_lstore_13 (pc := 88) dX0_runStage_88 rfl (by decide) ?_
      have J111_ : ∀ x_ : Int64, x_ = zGv (J 0) (J 1) m v → AV l G sX0_runStage (wFl G ad pa le B0 J) (z0 (fun u : Nat → Nat → Int64 => (∀ a k, ¬ (s * 24 ≤ k ∧ k < s * 24 + m * 6) → u a k = B0 a k) ∧ zRow pa le s m n (J 0, J 1, J 2) u m) (fun u => wFl G ad pa le u (zJ3 J (zStN pa le s m n (J 0, J 1, J 2))))) 111 [some (.ref (ad 0)), some (.int (nI s)), some (.int (nI m)), some (.int (nI n)), some (.long (J 0 / (nI m).toInt64)), none, some (.long (J 0 - J 0 / (nI m).toInt64 * (nI m).toInt64)), none, some (.long (zSalt (J 0) (J 1))), none, some (.long (J 1 - J 0 * zSalt (J 0) (J 1))), none, some (.int (nI v)), some (.long (zWv (J 0) m v)), none, none, none] [.long x_] (wFl G ad pa le B (zJ2 J (zStg pa le s m n (J 0, J 1, J 2) v).1 (zStg pa le s m n (J 0, J 1, J 2) v).2)) := by
        intro x_ hx_; subst hx_
        refine a_lstore_15 (pc := 111) dX0_runStage_111 rfl (by decide) ?_
        refine a_aload_0 (pc := 113) dX0_runStage_113 ?_
        refine a_iload_1 (pc := 114) dX0_runStage_114 ?_
        refine a_bipush (v := 24) (pc := 115) dX0_runStage_115 (by decide) ?_
        refine a_imul (pc := 117) dX0_runStage_117 ?_
        refine a_iload_12 (pc := 118) dX0_runStage_118 ?_
        refine a_bipush (v := 6) (pc := 120) dX0_runStage_120 (by decide) ?_
        refine a_imul (pc := 122) dX0_runStage_122 ?_
        refine a_iadd (pc := 123) dX0_runStage_123 ?_
        rw [show (24 : Int32) = nI 24 from rfl, show (6 : Int32) = nI 6 from rfl, ← zI_mul, ← zI_mul, ← zI_add]
        refine a_iload_3 (pc := 124) dX0_runStage_124 ?_
        refine a_lload_13 (pc := 125) dX0_runStage_125 ?_
        refine a_lload_15 (pc := 127) dX0_runStage_127 ?_
        refine cV_0 (ad := ad) (q0 := 0) (S2 := sX0_runVessel) (c_runVessel l G ad pa le B (zJ2 J (zStg pa le s m n (J 0, J 1, J 2) v).1 (zStg pa le s m n (J 0, J 1, J 2) v).2) (s * 24 + v * 6) n (by omega) (zWv (J 0) m v) (zGv (J 0) (J 1) m v)) kc_X0_runVessel km_X0_79 ki_X0_runVessel kv_X0_runVessel kini_X0 ⟨kn_X0_runVessel, by decide, by decide⟩ (pc := 129) dX0_runStage_129 [0, 1, 2, 3, 4, 5, 6, 7, 8] rfl rfl rfl rfl (Nat.le_of_ble_eq_true rfl) rfl rfl rfl (fun u => wFl G ad pa le u (zJ2 J (zStg pa le s m n (J 0, J 1, J 2) (v + 1)).1 (zStg pa le s m n (J 0, J 1, J 2) (v + 1)).2)) (fun _ => rfl) ?_
        intro u_ hu_
        refine a_iinc_12 (cst := 1) (pc := 132) dX0_runStage_132 rfl (by decide) (by decide) ?_
        refine a_goto (tgt := 64) (pc := 135) dX0_runStage_135 (by decide) ?_
        rw [← nI_succ]
        refine a_forget_13 (a_forget_15 ?_)
        exact ih_ (q_ - 1) (by omega) (v + 1) u_ (by omega) ⟨fun a k hk => (hu_.1 a k (by omega)).trans (hB_.1 a k (by omega)), zRow_s hn hB_.2 hu_.1 hu_.2⟩
      refine a_iload_12 (pc := 90) dX0_runStage_90 ?_
      first | refine a_if_neB (tgt := 106) (pc := 92) dX0_runStage_92 (by decide) (fun c_92 => ?_) (fun c_92 => ?_) | refine a_if_ne (tgt := 106) (pc := 92) dX0_runStage_92 (by decide) (fun c_92 => ?_) (fun c_92 => ?_)
      · have g_ : ¬ v = 0 := mt (zI_eq (a := v) (b := 0) (by omega) (by decide)).mpr c_92
        refine a_lload_13 (pc := 106) dX0_runStage_106 ?_
        refine a_lload_8 (pc := 108) dX0_runStage_108 ?_
        refine a_lmul (pc := 110) dX0_runStage_110 ?_
        first | exact J111_ _ (if_pos g_).symm | exact J111_ _ (if_neg g_).symm
      · have g_ : v = 0 := (zI_eq (a := v) (b := 0) (by omega) (by decide)).mp c_92
        refine a_lload_13 (pc := 95) dX0_runStage_95 ?_
        refine a_lload_8 (pc := 97) dX0_runStage_97 ?_
        refine a_lmul (pc := 99) dX0_runStage_99 ?_
        refine a_lload_10 (pc := 100) dX0_runStage_100 ?_
        refine a_ladd (pc := 102) dX0_runStage_102 ?_
        refine a_goto (tgt := 111) (pc := 103) dX0_runStage_103 (by decide) ?_
        first | exact J111_ _ (if_pos g_).symm | exact J111_ _ (if_neg g_).symm
    refine a_iload_12 (pc := 70) dX0_runStage_70 ?_
    refine a_i2l (pc := 72) dX0_runStage_72 ?_
    refine a_lload_6 (pc := 73) dX0_runStage_73 ?_
    refine a_lif_ge (tgt := 86) (pc := 75) dX0_runStage_75 dX0_runStage_76 (by decide) (fun c_75 => ?_) (fun c_75 => ?_)
    · refine a_lload_4 (pc := 86) dX0_runStage_86 ?_
      first | exact J88_ _ (if_pos c_75).symm | exact J88_ _ (if_neg c_75).symm
    · refine a_lload_4 (pc := 79) dX0_runStage_79 ?_
      refine a_lconst (v := 1) (pc := 81) dX0_runStage_81 (by decide) ?_
      refine a_ladd (pc := 82) dX0_runStage_82 ?_
      refine a_goto (tgt := 88) (pc := 83) dX0_runStage_83 (by decide) ?_
      first | exact J88_ _ (if_pos c_75).symm | exact J88_ _ (if_neg c_75).symm

set_option maxRecDepth 100000 in
set_option maxHeartbeats 4000000 in
/-- runStage -/
theorem c_runStage (l : Launch) (G : zG) (ad : Nat → Nat) (pa le : Nat → Int32) (B0 : Nat → Nat → Int64) (J : Nat → Int64) (s m n : Nat) (hs : s < 3) (hm : m ≤ 4) (hn : n ≤ 6) : zSem l G sX0_runStage [.ref (ad 0), .int (nI s), .int (nI m), .int (nI n)] (wFl G ad pa le B0 J) (z0 (fun u : Nat → Nat → Int64 => (∀ a k, ¬ (s * 24 ≤ k ∧ k < s * 24 + m * 6) → u a k = B0 a k) ∧ zRow pa le s m n (J 0, J 1, J 2) u m) (fun u => wFl G ad pa le u (zJ3 J (zStN pa le s m n (J 0, J 1, J 2))))) := by
  refine zEnterV (L := [some (.ref (ad 0)), some (.int (nI s)), some (.int (nI m)), some (.int (nI n)), none, none, none, none, none, none, none, none, none, none, none, none, none]) (by decide) rfl (Nat.le_of_ble_eq_true rfl) rfl ?_
  refine a_iload_2 (pc := 0) dX0_runStage_0 ?_
  refine a_iconst (v := 1) (pc := 1) dX0_runStage_1 (by decide) ?_
  refine a_icmp_ge (tgt := 6) (pc := 2) dX0_runStage_2 (by decide) (fun c_2 => ?_) (fun c_2 => ?_)
  · have hm0_ : 0 < m := by have := (zI_le (a := 1) (b := m) (by decide) (by omega)).mp c_2; omega
    have hne_ : ¬ (nI m).toInt64 = 0 := fun h => by
      have := congrArg Int64.toInt h
      rw [Int32.toInt_toInt64, nI_toInt (by omega)] at this
      have h2 : (0 : Int64).toInt = 0 := by decide
      omega
    refine a_aload_0 (pc := 6) dX0_runStage_6 ?_
    refine a_getf (ci := 0) (j := 8) rfl win_X0 (by decide) (pc := 7) dX0_runStage_7 kf_X0_37 rfl rfl ?_
    refine a_iload_2 (pc := 10) dX0_runStage_10 ?_
    refine a_i2l (pc := 11) dX0_runStage_11 ?_
    refine a_ldiv (pc := 12) dX0_runStage_12 hne_ ?_
    refine a_lstore_4 (pc := 13) dX0_runStage_13 rfl (by decide) ?_
    refine a_aload_0 (pc := 15) dX0_runStage_15 ?_
    refine a_getf (ci := 0) (j := 8) rfl win_X0 (by decide) (pc := 16) dX0_runStage_16 kf_X0_37 rfl rfl ?_
    refine a_iload_2 (pc := 19) dX0_runStage_19 ?_
    refine a_i2l (pc := 20) dX0_runStage_20 ?_
    refine a_lrem (pc := 21) dX0_runStage_21 hne_ ?_
    refine a_lstore_6 (pc := 22) dX0_runStage_22 rfl (by decide) ?_
    refine a_aload_0 (pc := 24) dX0_runStage_24 ?_
    refine a_getf (ci := 0) (j := 8) rfl win_X0 (by decide) (pc := 25) dX0_runStage_25 kf_X0_37 rfl rfl ?_
    refine a_aload_0 (pc := 28) dX0_runStage_28 ?_
    refine a_getf (ci := 0) (j := 9) rfl win_X0 (by decide) (pc := 29) dX0_runStage_29 kf_X0_41 rfl rfl ?_
    refine cS_P (S2 := sX0_saltOf) (c_saltOf l G _ _) kc_X0_saltOf km_X0_75 ks_X0_saltOf kini_X0 ⟨kn_X0_saltOf, by decide, by decide⟩ (pc := 32) dX0_runStage_32 [] rfl rfl rfl rfl (Nat.le_of_ble_eq_true rfl) ?_
    refine a_lstore_8 (pc := 35) dX0_runStage_35 rfl (by decide) ?_
    refine a_aload_0 (pc := 37) dX0_runStage_37 ?_
    refine a_getf (ci := 0) (j := 9) rfl win_X0 (by decide) (pc := 38) dX0_runStage_38 kf_X0_41 rfl rfl ?_
    refine a_aload_0 (pc := 41) dX0_runStage_41 ?_
    refine a_getf (ci := 0) (j := 8) rfl win_X0 (by decide) (pc := 42) dX0_runStage_42 kf_X0_37 rfl rfl ?_
    refine a_lload_8 (pc := 45) dX0_runStage_45 ?_
    refine a_lmul (pc := 47) dX0_runStage_47 ?_
    refine a_lsub (pc := 48) dX0_runStage_48 ?_
    refine a_lstore_10 (pc := 49) dX0_runStage_49 rfl (by decide) ?_
    refine a_aload_0 (pc := 51) dX0_runStage_51 ?_
    refine a_lconst (v := 0) (pc := 52) dX0_runStage_52 (by decide) ?_
    refine a_putf (ci := 0) (j := 8) rfl win_X0 tyX0_ok nmX0 (by decide) (pc := 53) dX0_runStage_53 kf_X0_37 rfl rfl rfl rfl rfl (Nat.le_of_ble_eq_true rfl) ?_
    refine a_aload_0 (pc := 56) dX0_runStage_56 ?_
    refine a_lconst (v := 0) (pc := 57) dX0_runStage_57 (by decide) ?_
    refine a_putf (ci := 0) (j := 9) rfl win_X0 tyX0_ok nmX0 (by decide) (pc := 58) dX0_runStage_58 kf_X0_41 rfl rfl rfl rfl rfl (Nat.le_of_ble_eq_true rfl) ?_
    refine a_iconst (v := 0) (pc := 61) dX0_runStage_61 (by decide) ?_
    refine a_istore_12 (pc := 62) dX0_runStage_62 rfl (by decide) ?_
    exact lp_runStage l G ad pa le B0 J s m n hs hm hn hm0_ m 0 B0 (by omega) ⟨fun _ _ _ => rfl, fun v hv => absurd hv (Nat.not_lt_zero v)⟩
  · have hm0_ : m = 0 := by have := mt (zI_le (a := 1) (b := m) (by decide) (by omega)).mpr c_2; omega
    subst hm0_
    exact a_vret (pc := 5) dX0_runStage_5 rfl rfl ⟨B0, ⟨fun _ _ _ => rfl, fun v hv => absurd hv (Nat.not_lt_zero v)⟩, rfl, rfl⟩

abbrev wRn (G : zG) (ad : Nat → Nat) (pa le : Nat → Int32) (B : Nat → Nat → Int64) (J : Nat → Int64) (v : Nat → Int32) (n : Int32) : va_W := [(ad 0, .inr (0, [.ref (ad 1), .ref (ad 2), .ref (ad 3), .ref (ad 4), .ref (ad 5), .ref (ad 6), .ref (ad 7), .ref (ad 8), .long (J 0), .long (J 1), .long (J 2), .long (J 3), .long (J 4)])), (ad 1, .inl (zcI G, 72, .inl pa)), (ad 2, .inl (zcI G, 72, .inl le)), (ad 3, .inl (zcJ G, 72, .inr (.inl (B 0)))), (ad 4, .inl (zcJ G, 72, .inr (.inl (B 1)))), (ad 5, .inl (zcJ G, 72, .inr (.inl (B 2)))), (ad 6, .inl (zcJ G, 72, .inr (.inl (B 3)))), (ad 7, .inl (zcJ G, 72, .inr (.inl (B 4)))), (ad 8, .inl (zcJ G, 72, .inr (.inl (B 5)))), (ad 9, .inr (2, [.ref (ad 10), .int n])), (ad 10, .inl (zcI G, 3, .inl v))]
def zRn (pa le : Nat → Int32) (m : Nat → Nat) (n : Nat) (st : zSt3) : Nat → zSt3
  | 0 => st
  | s + 1 => zStN pa le s (m s) n (zRn pa le m n st s)
def zJ5 (J : Nat → Int64) (st : zSt3) (x y : Int64) : Nat → Int64 := fun a => if a = 0 then st.1 else if a = 1 then st.2.1 else if a = 2 then st.2.2 else if a = 3 then x else if a = 4 then y else J a
/-- all rows, behind the first stages -/
def zRows (pa le : Nat → Int32) (m : Nat → Nat) (n : Nat) (st : zSt3) (B : Nat → Nat → Int64) (c : Nat) : Prop := ∀ s, s < c → zRow pa le s (m s) n (zRn pa le m n st s) B (m s)
set_option maxRecDepth 100000 in
set_option maxHeartbeats 4000000 in
theorem lp_run (l : Launch) (G : zG) (ad : Nat → Nat) (pa le : Nat → Int32) (B0 : Nat → Nat → Int64) (J : Nat → Int64) (v : Nat → Int32) (m : Nat → Nat) (n : Nat) (hm : ∀ s, s < 3 → zVin v s = nI (m s) ∧ m s ≤ 4) (hn : n ≤ 6) (fw fs fp : Int64) : ∀ (q i : Nat) (B : Nat → Nat → Int64), i + q = 3 → zRows pa le m n (fw, fw * fs, fp) B i → AV l G sX0_run (wRn G ad pa le B0 J v (nI n)) (z0 (fun u : Nat → Nat → Int64 => zRows pa le m n (fw, fw * fs, fp) u 3) (fun u => wRn G ad pa le u (zJ5 J (zRn pa le m n (fw, fw * fs, fp) 3) (fw - (zRn pa le m n (fw, fw * fs, fp) 3).1) (fw * fs - (zRn pa le m n (fw, fw * fs, fp) 3).2.1)) v (nI n))) 22 [some (.ref (ad 0)), some (.ref (ad 9)), some (.long fw), none, some (.long fs), none, some (.long fp), none, some (.int (nI i))] [] (wRn G ad pa le B (zJ3 J (zRn pa le m n (fw, fw * fs, fp) i)) v (nI n)) := by
  intro q_
  induction q_ using Nat.strongRecOn
  rename_i q_ ih_
  intro i B hq_ hB_
  refine a_iload_8 (pc := 22) dX0_run_22 ?_
  refine a_iconst (v := 3) (pc := 24) dX0_run_24 (by decide) ?_
  refine a_icmp_ge (tgt := 50) (pc := 25) dX0_run_25 (by decide) (fun c_25 => ?_) (fun c_25 => ?_)
  · obtain rfl : i = 3 := by have := (zI_le (a := 3) (b := i) (by decide) (by omega)).mp c_25; omega
    refine a_aload_0 (pc := 50) dX0_run_50 ?_
    refine a_lload_2 (pc := 51) dX0_run_51 ?_
    refine a_aload_0 (pc := 52) dX0_run_52 ?_
    refine a_getf (ci := 0) (j := 8) rfl win_X0 (by decide) (pc := 53) dX0_run_53 kf_X0_37 rfl rfl ?_
    refine a_lsub (pc := 56) dX0_run_56 ?_
    refine a_putf (ci := 0) (j := 11) rfl win_X0 tyX0_ok nmX0 (by decide) (pc := 57) dX0_run_57 kf_X0_47 rfl rfl rfl rfl rfl (Nat.le_of_ble_eq_true rfl) ?_
    refine a_aload_0 (pc := 60) dX0_run_60 ?_
    refine a_lload_2 (pc := 61) dX0_run_61 ?_
    refine a_lload_4 (pc := 62) dX0_run_62 ?_
    refine a_lmul (pc := 64) dX0_run_64 ?_
    refine a_aload_0 (pc := 65) dX0_run_65 ?_
    refine a_getf (ci := 0) (j := 9) rfl win_X0 (by decide) (pc := 66) dX0_run_66 kf_X0_41 rfl rfl ?_
    refine a_lsub (pc := 69) dX0_run_69 ?_
    refine a_putf (ci := 0) (j := 12) rfl win_X0 tyX0_ok nmX0 (by decide) (pc := 70) dX0_run_70 kf_X0_50 rfl rfl rfl rfl rfl (Nat.le_of_ble_eq_true rfl) ?_
    exact a_vret (pc := 73) dX0_run_73 rfl rfl ⟨B, hB_, rfl, rfl⟩
  · have hi_ : i < 3 := by have := mt (zI_le (a := 3) (b := i) (by decide) (by omega)).mpr c_25; omega
    refine a_aload_0 (pc := 28) dX0_run_28 ?_
    refine a_iload_8 (pc := 29) dX0_run_29 ?_
    refine a_aload_1 (pc := 31) dX0_run_31 ?_
    refine a_iload_8 (pc := 32) dX0_run_32 ?_
    refine cV_P (ad := ad) (q0 := 9) (S2 := sX2_vesselsIn) (c_vesselsIn l G (zpk ad [9, 10]) v (nI n) i hi_) kc_X2_vesselsIn km_X0_62 ki_X2_vesselsIn kv_X2_vesselsIn kini_X2 ⟨kn_X2_vesselsIn, by decide, by decide⟩ (pc := 34) dX0_run_34 [9, 10] rfl rfl rfl rfl (Nat.le_of_ble_eq_true rfl) rfl rfl rfl ?_
    rw [(hm i hi_).1]
    refine a_aload_1 (pc := 37) dX0_run_37 ?_
    refine a_getfN (ci := 2) (j := 1) rfl win_X2 (by decide) (pc := 38) dX0_run_38 kf_X0_67 rfl rfl ?_
    refine cV_0 (ad := ad) (q0 := 0) (S2 := sX0_runStage) (c_runStage l G ad pa le B (zJ3 J (zRn pa le m n (fw, fw * fs, fp) i)) i (m i) n hi_ (hm i hi_).2 hn) kc_X0_runStage km_X0_71 ki_X0_runStage kv_X0_runStage kini_X0 ⟨kn_X0_runStage, by decide, by decide⟩ (pc := 41) dX0_run_41 [0, 1, 2, 3, 4, 5, 6, 7, 8] rfl rfl rfl rfl (Nat.le_of_ble_eq_true rfl) rfl rfl rfl (fun u => wRn G ad pa le u (zJ3 J (zRn pa le m n (fw, fw * fs, fp) (i + 1))) v (nI n)) (fun _ => rfl) ?_
    intro u_ hu_
    refine a_iinc_8 (cst := 1) (pc := 44) dX0_run_44 rfl (by decide) (by decide) ?_
    refine a_goto (tgt := 22) (pc := 47) dX0_run_47 (by decide) ?_
    rw [← nI_succ]
    exact ih_ (q_ - 1) (by omega) (i + 1) u_ (by omega) (fun s_ hs_ => by
      by_cases h : s_ = i
      · subst h; exact hu_.2
      · exact zRow_k hn (hm s_ (by omega)).2 (show s_ < i by omega) (hB_ s_ (by omega)) (fun a k hk => hu_.1 a k (by have := (hm i hi_).2; omega)))

set_option maxRecDepth 100000 in
set_option maxHeartbeats 4000000 in
/-- run -/
theorem c_run (l : Launch) (G : zG) (ad : Nat → Nat) (pa le : Nat → Int32) (B0 : Nat → Nat → Int64) (J : Nat → Int64) (v : Nat → Int32) (m : Nat → Nat) (n : Nat) (hm : ∀ s, s < 3 → zVin v s = nI (m s) ∧ m s ≤ 4) (hn : n ≤ 6) (fw fs fp : Int64) : zSem l G sX0_run [.ref (ad 0), .ref (ad 9), .long fw, .long fs, .long fp] (wRn G ad pa le B0 J v (nI n)) (z0 (fun u : Nat → Nat → Int64 => zRows pa le m n (fw, fw * fs, fp) u 3) (fun u => wRn G ad pa le u (zJ5 J (zRn pa le m n (fw, fw * fs, fp) 3) (fw - (zRn pa le m n (fw, fw * fs, fp) 3).1) (fw * fs - (zRn pa le m n (fw, fw * fs, fp) 3).2.1)) v (nI n))) := by
  refine zEnterV (L := [some (.ref (ad 0)), some (.ref (ad 9)), some (.long fw), none, some (.long fs), none, some (.long fp), none, none]) (by decide) rfl (Nat.le_of_ble_eq_true rfl) rfl ?_
  refine a_aload_0 (pc := 0) dX0_run_0 ?_
  refine a_lload_2 (pc := 1) dX0_run_1 ?_
  refine a_putf (ci := 0) (j := 8) rfl win_X0 tyX0_ok nmX0 (by decide) (pc := 2) dX0_run_2 kf_X0_37 rfl rfl rfl rfl rfl (Nat.le_of_ble_eq_true rfl) ?_
  refine a_aload_0 (pc := 5) dX0_run_5 ?_
  refine a_lload_2 (pc := 6) dX0_run_6 ?_
  refine a_lload_4 (pc := 7) dX0_run_7 ?_
  refine a_lmul (pc := 9) dX0_run_9 ?_
  refine a_putf (ci := 0) (j := 9) rfl win_X0 tyX0_ok nmX0 (by decide) (pc := 10) dX0_run_10 kf_X0_41 rfl rfl rfl rfl rfl (Nat.le_of_ble_eq_true rfl) ?_
  refine a_aload_0 (pc := 13) dX0_run_13 ?_
  refine a_lload_6 (pc := 14) dX0_run_14 ?_
  refine a_putf (ci := 0) (j := 10) rfl win_X0 tyX0_ok nmX0 (by decide) (pc := 16) dX0_run_16 kf_X0_44 rfl rfl rfl rfl rfl (Nat.le_of_ble_eq_true rfl) ?_
  refine a_iconst (v := 0) (pc := 19) dX0_run_19 (by decide) ?_
  refine a_istore_8 (pc := 20) dX0_run_20 rfl (by decide) ?_
  exact lp_run l G ad pa le B0 J v m n hm hn fw fs fp 3 0 B0 (by omega) (fun s_ hs_ => absurd hs_ (Nat.not_lt_zero s_))

abbrev zHd (v : Nat → Int32) (n : Int32) (k : Nat) : Prop := nI (k % 6) < n ∧ nI (k % 24 / 6) < zVin v (k / 24)
def zFf (v : Nat → Int32) (n : Int32) (W T : Nat → Int64) (least most : Int32) : Nat → Nat → Int64
  | 0, _ => -9000000000000000005
  | q + 1, i => if zHd v n i then (if least.toInt64 ≤ W i - T i then (if T i ≤ most.toInt64 then zFf v n W T least most q (i + 1) else 10 * (nI (zNum i)).toInt64 + 2) else 10 * (nI (zNum i)).toInt64 + 1) else zFf v n W T least most q (i + 1)
set_option maxRecDepth 100000 in
set_option maxHeartbeats 4000000 in
theorem lp_ff (l : Launch) (G : zG) (ad : Nat → Nat) (pa le : Nat → Int32) (B : Nat → Nat → Int64) (J : Nat → Int64) (v : Nat → Int32) (n : Int32) (least most : Int32) (r : Int64) : ∀ (q i : Nat), i + q = 72 → zFf v n (B 0) (B 3) least most q i = r → AV l G sX0_firstFailure (wRn G ad pa le B J v n) (zP (.long r) (wRn G ad pa le B J v n)) 3 [some (.ref (ad 0)), some (.ref (ad 9)), some (.int least), some (.int most), some (.int (nI i))] [] (wRn G ad pa le B J v n) := by
  intro q_
  induction q_ using Nat.strongRecOn
  rename_i q_ ih_
  intro i hq_ hz_
  refine a_iload_4 (pc := 3) dX0_firstFailure_3 ?_
  refine a_bipush (v := 72) (pc := 5) dX0_firstFailure_5 (by decide) ?_
  refine a_icmp_ge (tgt := 87) (pc := 7) dX0_firstFailure_7 (by decide) (fun c_7 => ?_) (fun c_7 => ?_)
  · obtain rfl : q_ = 0 := by have := (zI_le (a := 72) (b := i) (by decide) (by omega)).mp c_7; omega
    refine a_ldc2 (pc := 87) dX0_firstFailure_87 kl_X0_106 ?_
    exact a_lret (pc := 90) dX0_firstFailure_90 rfl rfl ⟨congrArg (fun z => some (Value.long z)) hz_, rfl⟩
  · have hi_ : i < 72 := by have := mt (zI_le (a := 72) (b := i) (by decide) (by omega)).mpr c_7; omega
    obtain ⟨q2_, rfl⟩ : ∃ z, q_ = z + 1 := ⟨q_ - 1, by omega⟩
    unfold zFf at hz_
    refine a_aload_1 (pc := 10) dX0_firstFailure_10 ?_
    refine a_iload_4 (pc := 11) dX0_firstFailure_11 ?_
    refine cV_P (ad := ad) (q0 := 9) (S2 := sX2_holdsSkin) (c_holdsSkin l G (zpk ad [9, 10]) v n i hi_) kc_X2_holdsSkin km_X0_97 ki_X2_holdsSkin kv_X2_holdsSkin kini_X2 ⟨kn_X2_holdsSkin, by decide, by decide⟩ (pc := 13) dX0_firstFailure_13 [9, 10] rfl rfl rfl rfl (Nat.le_of_ble_eq_true rfl) rfl rfl rfl ?_
    first | refine a_if_eqB (tgt := 81) (pc := 16) dX0_firstFailure_16 (by decide) (fun c_16 => ?_) (fun c_16 => ?_) | refine a_if_eq (tgt := 81) (pc := 16) dX0_firstFailure_16 (by decide) (fun c_16 => ?_) (fun c_16 => ?_)
    · rw [if_neg c_16] at hz_
      refine a_iinc_4 (cst := 1) (pc := 81) dX0_firstFailure_81 rfl (by decide) (by decide) ?_
      refine a_goto (tgt := 3) (pc := 84) dX0_firstFailure_84 (by decide) ?_
      rw [← nI_succ]
      exact ih_ q2_ (by omega) (i + 1) (by omega) hz_
    · rw [if_pos c_16] at hz_
      refine a_aload_0 (pc := 19) dX0_firstFailure_19 ?_
      refine a_getf (ci := 0) (j := 2) rfl win_X0 (by decide) (pc := 20) dX0_firstFailure_20 kf_X0_18 rfl rfl ?_
      refine a_iload_4 (pc := 23) dX0_firstFailure_23 ?_
      refine a_laldN (pc := 25) dX0_firstFailure_25 rfl (by omega) (by decide) ?_
      refine a_aload_0 (pc := 26) dX0_firstFailure_26 ?_
      refine a_getf (ci := 0) (j := 5) rfl win_X0 (by decide) (pc := 27) dX0_firstFailure_27 kf_X0_28 rfl rfl ?_
      refine a_iload_4 (pc := 30) dX0_firstFailure_30 ?_
      refine a_laldN (pc := 32) dX0_firstFailure_32 rfl (by omega) (by decide) ?_
      refine a_lsub (pc := 33) dX0_firstFailure_33 ?_
      refine a_iload_2 (pc := 34) dX0_firstFailure_34 ?_
      refine a_i2l (pc := 35) dX0_firstFailure_35 ?_
      refine a_lif_ge (tgt := 53) (pc := 36) dX0_firstFailure_36 dX0_firstFailure_37 (by decide) (fun c_36 => ?_) (fun c_36 => ?_)
      · rw [if_pos c_36] at hz_
        refine a_aload_0 (pc := 53) dX0_firstFailure_53 ?_
        refine a_getf (ci := 0) (j := 5) rfl win_X0 (by decide) (pc := 54) dX0_firstFailure_54 kf_X0_28 rfl rfl ?_
        refine a_iload_4 (pc := 57) dX0_firstFailure_57 ?_
        refine a_laldN (pc := 59) dX0_firstFailure_59 rfl (by omega) (by decide) ?_
        refine a_iload_3 (pc := 60) dX0_firstFailure_60 ?_
        refine a_i2l (pc := 61) dX0_firstFailure_61 ?_
        refine a_lif_le (tgt := 81) (pc := 62) dX0_firstFailure_62 dX0_firstFailure_63 (by decide) (fun c_62 => ?_) (fun c_62 => ?_)
        · rw [if_pos c_62] at hz_
          refine a_iinc_4 (cst := 1) (pc := 81) dX0_firstFailure_81 rfl (by decide) (by decide) ?_
          refine a_goto (tgt := 3) (pc := 84) dX0_firstFailure_84 (by decide) ?_
          rw [← nI_succ]
          exact ih_ q2_ (by omega) (i + 1) (by omega) hz_
        · rw [if_neg c_62] at hz_
          refine a_ldc2 (pc := 66) dX0_firstFailure_66 kl_X0_101 ?_
          refine a_iload_4 (pc := 69) dX0_firstFailure_69 ?_
          refine cSN_P (S2 := sX5_numberOf) (c_numberOf l G i hi_) kc_X5_numberOf km_X0_103 ks_X5_numberOf kini_X5 ⟨kn_X5_numberOf, by decide, by decide⟩ (pc := 71) dX0_firstFailure_71 [] rfl rfl rfl rfl (Nat.le_of_ble_eq_true rfl) ?_
          refine a_i2l (pc := 74) dX0_firstFailure_74 ?_
          refine a_lmul (pc := 75) dX0_firstFailure_75 ?_
          refine a_ldc2 (pc := 76) dX0_firstFailure_76 kl_X0_95 ?_
          refine a_ladd (pc := 79) dX0_firstFailure_79 ?_
          exact a_lret (pc := 80) dX0_firstFailure_80 rfl rfl ⟨congrArg (fun z => some (Value.long z)) hz_, rfl⟩
      · rw [if_neg c_36] at hz_
        refine a_ldc2 (pc := 40) dX0_firstFailure_40 kl_X0_101 ?_
        refine a_iload_4 (pc := 43) dX0_firstFailure_43 ?_
        refine cSN_P (S2 := sX5_numberOf) (c_numberOf l G i hi_) kc_X5_numberOf km_X0_103 ks_X5_numberOf kini_X5 ⟨kn_X5_numberOf, by decide, by decide⟩ (pc := 45) dX0_firstFailure_45 [] rfl rfl rfl rfl (Nat.le_of_ble_eq_true rfl) ?_
        refine a_i2l (pc := 48) dX0_firstFailure_48 ?_
        refine a_lmul (pc := 49) dX0_firstFailure_49 ?_
        refine a_lconst (v := 1) (pc := 50) dX0_firstFailure_50 (by decide) ?_
        refine a_ladd (pc := 51) dX0_firstFailure_51 ?_
        exact a_lret (pc := 52) dX0_firstFailure_52 rfl rfl ⟨congrArg (fun z => some (Value.long z)) hz_, rfl⟩

set_option maxRecDepth 100000 in
set_option maxHeartbeats 4000000 in
/-- firstFailure -/
theorem c_firstFailure (l : Launch) (G : zG) (ad : Nat → Nat) (pa le : Nat → Int32) (B : Nat → Nat → Int64) (J : Nat → Int64) (v : Nat → Int32) (n : Int32) (least most : Int32) : zSem l G sX0_firstFailure [.ref (ad 0), .ref (ad 9), .int least, .int most] (wRn G ad pa le B J v n) (zP (.long (zFf v n (B 0) (B 3) least most 72 0)) (wRn G ad pa le B J v n)) := by
  refine zEnterV (L := [some (.ref (ad 0)), some (.ref (ad 9)), some (.int least), some (.int most), none]) (by decide) rfl (Nat.le_of_ble_eq_true rfl) rfl ?_
  refine a_iconst (v := 0) (pc := 0) dX0_firstFailure_0 (by decide) ?_
  refine a_istore_4 (pc := 1) dX0_firstFailure_1 rfl (by decide) ?_
  exact lp_ff l G ad pa le B J v n least most _ 72 0 (by omega) rfl

