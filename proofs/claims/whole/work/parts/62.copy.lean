/-! The model: copy, count. -/
theorem zcopy_hr {n : Nat} (hn : n ≤ 24) {p m : Int32} (h1 : ¬ p < 0) (h2 : ¬ m < 0) : zHR (nI n) p m ↔ p.toInt64 + m.toInt64 ≤ (nI n).toInt64 := by
  have k0 : (0:Int32).toInt = 0 := by decide
  have a1 : 0 ≤ p.toInt := by have := mt Int32.lt_iff_toInt_lt.mpr h1; omega
  have a2 : 0 ≤ m.toInt := by have := mt Int32.lt_iff_toInt_lt.mpr h2; omega
  have b1 := i_bd p
  have b2 := i_bd m
  have e1 : (nI n).toInt = n := nI_toInt (by omega)
  have e : (nI n - m).toInt = (n : Int) - m.toInt := by rw [i_sub (by rw [e1]; omega) (by rw [e1]; omega), e1]
  have f1 : p.toInt64.toInt = p.toInt := Int32.toInt_toInt64 p
  have f2 : m.toInt64.toInt = m.toInt := Int32.toInt_toInt64 m
  have f3 : (p.toInt64 + m.toInt64).toInt = p.toInt + m.toInt := by rw [j_add (by rw [f1, f2]; omega) (by rw [f1, f2]; omega), f1, f2]
  rw [Int64.le_iff_toInt_le, f3, nI64 (by omega)]
  constructor
  · intro h
    have := mt Int32.lt_iff_toInt_lt.mpr h.2.2
    rw [e] at this
    omega
  · intro h
    refine ⟨h1, h2, fun h3 => ?_⟩
    have := Int32.lt_iff_toInt_lt.mp h3
    rw [e] at this
    omega
/-- the second loop's numbers -/
def zNbC (f c : Nat → Int32) (b i : Nat) : Nat → Int32 := fun k => if b ≤ k ∧ k < b + i then c (k - b) else f k
theorem zNbC_0 (f c : Nat → Int32) (b : Nat) : zNbC f c b 0 = f := by funext k; exact if_neg (by omega)
theorem zNbC_s (f c : Nat → Int32) (b i : Nat) : upd (zNbC f c b i) (b + i) (c i) = zNbC f c b (i + 1) := by
  funext k
  unfold upd zNbC
  by_cases h : k = b + i
  · rw [if_pos h, if_pos (by omega), h, show b + i - b = i by omega]
  · rw [if_neg h]
    by_cases h2 : b ≤ k ∧ k < b + i
    · rw [if_pos h2, if_pos (by omega)]
    · rw [if_neg h2, if_neg (by omega)]
theorem zNb_copy {σ : zσ} {nb c : Nat → Int32} (hN : zNb σ nb) {f t p a m n : Nat} (hf : f < 2) (ht : t < 2) (hn : n ≤ 24) (hfs : σ.2.2.1 f = nI n) (hp : p + m ≤ n) (ha : a + m ≤ 24) (hc : ∀ j, j < m → c j = nb (24 * f + p + j)) : zNb (σ.1, σ.2.1, σ.2.2.1, zuC σ.2.2.2 t (va_cpy (σ.2.2.2 f) (σ.2.2.2 t) p a m)) (zNbC nb c (24 * t + a) m) := by
  intro s hs k hk hlt
  have hlt2 : nI k < σ.2.2.1 s := hlt
  show zNbC nb c (24 * t + a) m (24 * s + k) = zuC σ.2.2.2 t (va_cpy (σ.2.2.2 f) (σ.2.2.2 t) p a m) s k
  unfold zNbC zuC
  by_cases h : s = t
  · rw [if_pos h]
    show _ = if a ≤ k ∧ k < a + m then σ.2.2.2 f (p + (k - a)) else σ.2.2.2 t k
    by_cases h2 : a ≤ k ∧ k < a + m
    · rw [if_pos h2, if_pos (by omega), hc _ (by omega), show 24 * f + p + (24 * s + k - (24 * t + a)) = 24 * f + (p + (k - a)) by omega]
      exact hN f hf (p + (k - a)) (by omega) (by rw [hfs]; exact (zI_lt (by omega) (by omega)).mpr (by omega))
    · rw [if_neg h2, if_neg (by omega), ← h]
      exact hN s hs k hk hlt2
  · rw [if_neg h, if_neg (by omega)]
    exact hN s hs k hk hlt2
set_option maxRecDepth 100000 in
set_option maxHeartbeats 4000000 in
theorem lm_copy2 (l : Launch) (G : zG) (ad : Nat → Nat) (σ : zσ) (x0 : zY) (hN : zNb σ x0.1) (f p t a m n : Nat) (hf : f < 2) (ht : t < 2) (hn : n ≤ 24) (hfs : σ.2.2.1 f = nI n) (hp : p + m ≤ n) (ha : a + m ≤ 24) (c : Nat → Int32) (hc : ∀ j, j < m → c j = x0.1 (24 * f + p + j)) : ∀ (q i : Nat), i + q = m → AV l G sX6_copy (wM G ad σ x0) (zPostM G ad ((nI m).toInt64, (σ.1, σ.2.1, σ.2.2.1, zuC σ.2.2.2 t (va_cpy (σ.2.2.2 f) (σ.2.2.2 t) p a m)))) 133 [some (.ref (ad 0)), some (.int (nI f)), some (.int (nI p)), some (.int (nI t)), some (.int (nI a)), some (.int (nI m)), some (.int (nI i))] [] (wM G ad σ (zNbC x0.1 c (24 * t + a) i, x0.2.1, x0.2.2.1, x0.2.2.2.1, x0.2.2.2.2.1, x0.2.2.2.2.2.1, c)) := by
  intro q_
  induction q_ using Nat.strongRecOn
  rename_i q_ ih_
  intro i hq_
  refine a_iload_6 (pc := 133) dX6_copy_133 ?_
  refine a_iload_5 (pc := 135) dX6_copy_135 ?_
  refine a_icmp_ge (tgt := 168) (pc := 137) dX6_copy_137 (by decide) (fun c_137 => ?_) (fun c_137 => ?_)
  · obtain rfl : i = m := by have := (zI_le (by omega) (by omega)).mp c_137; omega
    refine a_iload_5 (pc := 168) dX6_copy_168 ?_
    refine a_i2l (pc := 170) dX6_copy_170 ?_
    exact a_lret (pc := 171) dX6_copy_171 rfl rfl (mret (σ' := (σ.1, σ.2.1, σ.2.2.1, zuC σ.2.2.2 t (va_cpy (σ.2.2.2 f) (σ.2.2.2 t) p a i))) (zNbC x0.1 c (24 * t + a) i, x0.2.1, x0.2.2.1, x0.2.2.2.1, x0.2.2.2.2.1, x0.2.2.2.2.2.1, c) rfl (zNb_copy hN hf ht hn hfs hp ha hc) rfl)
  · have hi_ : i < m := by have := mt (zI_le (a := m) (b := i) (by omega) (by omega)).mpr c_137; omega
    refine a_aload_0 (pc := 140) dX6_copy_140 ?_
    refine a_getf (ci := 6) (j := 12) rfl win_X6 (by decide) (pc := 141) dX6_copy_141 kf_X6_44 rfl rfl ?_
    refine a_bipush (v := 24) (pc := 144) dX6_copy_144 (by decide) ?_
    refine a_iload_3 (pc := 146) dX6_copy_146 ?_
    refine a_imul (pc := 147) dX6_copy_147 ?_
    refine a_iload_4 (pc := 148) dX6_copy_148 ?_
    refine a_iadd (pc := 150) dX6_copy_150 ?_
    refine a_iload_6 (pc := 151) dX6_copy_151 ?_
    refine a_iadd (pc := 153) dX6_copy_153 ?_
    rw [show (24 : Int32) = nI 24 from rfl, ← zI_mul, ← zI_add, ← zI_add]
    refine a_aload_0 (pc := 154) dX6_copy_154 ?_
    refine a_getf (ci := 6) (j := 26) rfl win_X6 (by decide) (pc := 155) dX6_copy_155 kf_X6_72 rfl rfl ?_
    refine a_iload_6 (pc := 158) dX6_copy_158 ?_
    refine a_ialdN (pc := 160) dX6_copy_160 rfl (show i < 24 by omega) (by decide) ?_
    refine a_iastN (pc := 161) dX6_copy_161 rfl (show 24 * t + a + i < 48 by omega) (by decide) ?_
    refine a_iinc_6 (cst := 1) (pc := 162) dX6_copy_162 rfl (by decide) (by decide) ?_
    refine a_goto (tgt := 133) (pc := 165) dX6_copy_165 (by decide) ?_
    rw [← nI_succ]
    exact a_to (ih_ (q_ - 1) (by omega) (i + 1) (by omega)) rfl rfl rfl (congrArg (fun f_ => wM G ad σ (f_, x0.2.1, x0.2.2.1, x0.2.2.2.1, x0.2.2.2.2.1, x0.2.2.2.2.2.1, c)) (zNbC_s x0.1 c (24 * t + a) i).symm)

set_option maxRecDepth 100000 in
set_option maxHeartbeats 4000000 in
theorem lm_copy1 (l : Launch) (G : zG) (ad : Nat → Nat) (σ : zσ) (x0 : zY) (hN : zNb σ x0.1) (f p t a m n : Nat) (hf : f < 2) (ht : t < 2) (hn : n ≤ 24) (hfs : σ.2.2.1 f = nI n) (hp : p + m ≤ n) (ha : a + m ≤ 24) : ∀ (q i : Nat) (c : Nat → Int32), i + q = m → (∀ j, j < i → c j = x0.1 (24 * f + p + j)) → AV l G sX6_copy (wM G ad σ x0) (zPostM G ad ((nI m).toInt64, (σ.1, σ.2.1, σ.2.2.1, zuC σ.2.2.2 t (va_cpy (σ.2.2.2 f) (σ.2.2.2 t) p a m)))) 96 [some (.ref (ad 0)), some (.int (nI f)), some (.int (nI p)), some (.int (nI t)), some (.int (nI a)), some (.int (nI m)), some (.int (nI i))] [] (wM G ad σ (x0.1, x0.2.1, x0.2.2.1, x0.2.2.2.1, x0.2.2.2.2.1, x0.2.2.2.2.2.1, c)) := by
  intro q_
  induction q_ using Nat.strongRecOn
  rename_i q_ ih_
  intro i c hq_ hc_
  refine a_iload_6 (pc := 96) dX6_copy_96 ?_
  refine a_iload_5 (pc := 98) dX6_copy_98 ?_
  refine a_icmp_ge (tgt := 130) (pc := 100) dX6_copy_100 (by decide) (fun c_100 => ?_) (fun c_100 => ?_)
  · obtain rfl : i = m := by have := (zI_le (by omega) (by omega)).mp c_100; omega
    refine a_iconst (v := 0) (pc := 130) dX6_copy_130 (by decide) ?_
    refine a_istore_6 (pc := 131) dX6_copy_131 rfl (by decide) ?_
    exact a_to (lm_copy2 l G ad σ x0 hN f p t a i n hf ht hn hfs hp ha c hc_ i 0 (by omega)) rfl rfl rfl (congrArg (fun f_ => wM G ad σ (f_, x0.2.1, x0.2.2.1, x0.2.2.2.1, x0.2.2.2.2.1, x0.2.2.2.2.2.1, c)) (zNbC_0 x0.1 c (24 * t + a)))
  · have hi_ : i < m := by have := mt (zI_le (a := m) (b := i) (by omega) (by omega)).mpr c_100; omega
    refine a_aload_0 (pc := 103) dX6_copy_103 ?_
    refine a_getf (ci := 6) (j := 26) rfl win_X6 (by decide) (pc := 104) dX6_copy_104 kf_X6_72 rfl rfl ?_
    refine a_iload_6 (pc := 107) dX6_copy_107 ?_
    refine a_aload_0 (pc := 109) dX6_copy_109 ?_
    refine a_getf (ci := 6) (j := 12) rfl win_X6 (by decide) (pc := 110) dX6_copy_110 kf_X6_44 rfl rfl ?_
    refine a_bipush (v := 24) (pc := 113) dX6_copy_113 (by decide) ?_
    refine a_iload_1 (pc := 115) dX6_copy_115 ?_
    refine a_imul (pc := 116) dX6_copy_116 ?_
    refine a_iload_2 (pc := 117) dX6_copy_117 ?_
    refine a_iadd (pc := 118) dX6_copy_118 ?_
    refine a_iload_6 (pc := 119) dX6_copy_119 ?_
    refine a_iadd (pc := 121) dX6_copy_121 ?_
    rw [show (24 : Int32) = nI 24 from rfl, ← zI_mul, ← zI_add, ← zI_add]
    refine a_ialdN (pc := 122) dX6_copy_122 rfl (show 24 * f + p + i < 48 by omega) (by decide) ?_
    refine a_iastN (pc := 123) dX6_copy_123 rfl (show i < 24 by omega) (by decide) ?_
    refine a_iinc_6 (cst := 1) (pc := 124) dX6_copy_124 rfl (by decide) (by decide) ?_
    refine a_goto (tgt := 96) (pc := 127) dX6_copy_127 (by decide) ?_
    rw [← nI_succ]
    exact ih_ (q_ - 1) (by omega) (i + 1) (upd c i (x0.1 (24 * f + p + i))) (by omega) (fun j hj => by by_cases h : j = i; (subst h; exact upd_same _ _ _); rw [upd_ne _ _ h]; exact hc_ j (by omega))

set_option maxRecDepth 100000 in
set_option maxHeartbeats 4000000 in
theorem m_copy (l : Launch) (G : zG) (ad : Nat → Nat) (σ : zσ) (x0 : zY) (hσ : zOk σ) (hN : zNb σ x0.1) (f : Int32) (p : Int32) (t : Int32) (a : Int32) (m : Int32) : zSem l G sX6_copy [.ref (ad 0), .int f, .int p, .int t, .int a, .int m] (wM G ad σ x0) (zPostM G ad (o_copy σ f p t a m)) := by
  refine zEnterV (L := [some (.ref (ad 0)), some (.int f), some (.int p), some (.int t), some (.int a), some (.int m), none]) (by decide) rfl (Nat.le_of_ble_eq_true rfl) rfl ?_
  refine a_iload_1 (pc := 0) dX6_copy_0 ?_
  refine cS_P (S2 := sX6_isSheet) (m_isSheet l G _) kc_X6_isSheet km_X6_170 ks_X6_isSheet kini_X6 ⟨kn_X6_isSheet, by decide, by decide⟩ (pc := 1) dX6_copy_1 [] rfl rfl rfl rfl (Nat.le_of_ble_eq_true rfl) ?_
  first | refine a_if_eqB (tgt := 14) (pc := 4) dX6_copy_4 (by decide) (fun c_4 => ?_) (fun c_4 => ?_) | refine a_if_eq (tgt := 14) (pc := 4) dX6_copy_4 (by decide) (fun c_4 => ?_) (fun c_4 => ?_)
  · refine a_ldc2 (pc := 14) dX6_copy_14 kl_X6_79 ?_
    exact a_lret (pc := 17) dX6_copy_17 rfl rfl (by first | exact mret x0 (if_pos (Or.inl (Decidable.not_not.mp c_4))) hN rfl | exact mret x0 (if_pos (Or.inr (Decidable.not_not.mp c_11))) hN rfl)
  · refine a_iload_3 (pc := 7) dX6_copy_7 ?_
    refine cS_P (S2 := sX6_isSheet) (m_isSheet l G _) kc_X6_isSheet km_X6_170 ks_X6_isSheet kini_X6 ⟨kn_X6_isSheet, by decide, by decide⟩ (pc := 8) dX6_copy_8 [] rfl rfl rfl rfl (Nat.le_of_ble_eq_true rfl) ?_
    first | refine a_if_neB (tgt := 18) (pc := 11) dX6_copy_11 (by decide) (fun c_11 => ?_) (fun c_11 => ?_) | refine a_if_ne (tgt := 18) (pc := 11) dX6_copy_11 (by decide) (fun c_11 => ?_) (fun c_11 => ?_)
    · obtain ⟨f_, hf_, rfl⟩ := zrange (n := 1) (by decide) rfl c_4
      obtain ⟨t_, ht_, rfl⟩ := zrange (n := 1) (by decide) rfl c_11
      have hf2_ : f_ < 2 := by omega
      have ht2_ : t_ < 2 := by omega
      refine a_aload_0 (pc := 18) dX6_copy_18 ?_
      refine a_getf (ci := 6) (j := 11) rfl win_X6 (by decide) (pc := 19) dX6_copy_19 kf_X6_41 rfl rfl ?_
      refine a_iload_1 (pc := 22) dX6_copy_22 ?_
      refine a_ialdN (pc := 23) dX6_copy_23 rfl (by omega) (by decide) ?_
      refine a_if_lt (tgt := 36) (pc := 24) dX6_copy_24 (by decide) (fun c_24 => ?_) (fun c_24 => ?_)
      · have hm_ : σ.2.2.1 f_ = -1 ∨ σ.2.2.1 t_ = -1 := Or.inl (zsz_n hσ hf2_ (fun h => absurd (Int32.le_iff_toInt_le.mp h) (by have := Int32.lt_iff_toInt_lt.mp c_24; omega)))
        refine a_ldc2 (pc := 36) dX6_copy_36 kl_X6_173 ?_
        exact a_lret (pc := 39) dX6_copy_39 rfl rfl (mret x0 (by unfold o_copy; rw [if_neg (fun h => h.elim c_4 c_11), nI_clamp (by omega), nI_clamp (by omega)]; exact if_pos hm_) hN rfl)
      · refine a_aload_0 (pc := 27) dX6_copy_27 ?_
        refine a_getf (ci := 6) (j := 11) rfl win_X6 (by decide) (pc := 28) dX6_copy_28 kf_X6_41 rfl rfl ?_
        refine a_iload_3 (pc := 31) dX6_copy_31 ?_
        refine a_ialdN (pc := 32) dX6_copy_32 rfl (by omega) (by decide) ?_
        refine a_if_ge (tgt := 40) (pc := 33) dX6_copy_33 (by decide) (fun c_33 => ?_) (fun c_33 => ?_)
        · have hnm_ : ¬ (σ.2.2.1 f_ = -1 ∨ σ.2.2.1 t_ = -1) := fun h => h.elim (fun h => c_24 (by rw [h]; decide)) (zsz_p c_33)
          obtain ⟨n_, hn_, hsf_⟩ := zsz hσ hf2_ (Int32.le_iff_toInt_le.mpr (by have := mt Int32.lt_iff_toInt_lt.mpr c_24; omega))
          obtain ⟨n2_, hn2_, hst_⟩ := zsz hσ ht2_ c_33
          refine a_iload_2 (pc := 40) dX6_copy_40 ?_
          refine a_if_lt (tgt := 89) (pc := 41) dX6_copy_41 (by decide) (fun c_41 => ?_) (fun c_41 => ?_)
          · have hr_ : ¬ zHR (σ.2.2.1 f_) p m ∨ ¬ zHR (σ.2.2.1 t_) a m := Or.inl (fun h => h.1 c_41)
            refine a_ldc2 (pc := 89) dX6_copy_89 kl_X6_195 ?_
            exact a_lret (pc := 92) dX6_copy_92 rfl rfl (mret x0 (by unfold o_copy; rw [if_neg (fun h => h.elim c_4 c_11), nI_clamp (by omega), nI_clamp (by omega)]; exact (if_neg hnm_).trans (if_pos hr_)) hN rfl)
          · refine a_iload_4 (pc := 44) dX6_copy_44 ?_
            refine a_if_lt (tgt := 89) (pc := 46) dX6_copy_46 (by decide) (fun c_46 => ?_) (fun c_46 => ?_)
            · have hr_ : ¬ zHR (σ.2.2.1 f_) p m ∨ ¬ zHR (σ.2.2.1 t_) a m := Or.inr (fun h => h.1 c_46)
              refine a_ldc2 (pc := 89) dX6_copy_89 kl_X6_195 ?_
              exact a_lret (pc := 92) dX6_copy_92 rfl rfl (mret x0 (by unfold o_copy; rw [if_neg (fun h => h.elim c_4 c_11), nI_clamp (by omega), nI_clamp (by omega)]; exact (if_neg hnm_).trans (if_pos hr_)) hN rfl)
            · refine a_iload_5 (pc := 49) dX6_copy_49 ?_
              refine a_if_lt (tgt := 89) (pc := 51) dX6_copy_51 (by decide) (fun c_51 => ?_) (fun c_51 => ?_)
              · have hr_ : ¬ zHR (σ.2.2.1 f_) p m ∨ ¬ zHR (σ.2.2.1 t_) a m := Or.inl (fun h => h.2.1 c_51)
                refine a_ldc2 (pc := 89) dX6_copy_89 kl_X6_195 ?_
                exact a_lret (pc := 92) dX6_copy_92 rfl rfl (mret x0 (by unfold o_copy; rw [if_neg (fun h => h.elim c_4 c_11), nI_clamp (by omega), nI_clamp (by omega)]; exact (if_neg hnm_).trans (if_pos hr_)) hN rfl)
              · refine a_iload_2 (pc := 54) dX6_copy_54 ?_
                refine a_i2l (pc := 55) dX6_copy_55 ?_
                refine a_iload_5 (pc := 56) dX6_copy_56 ?_
                refine a_i2l (pc := 58) dX6_copy_58 ?_
                refine a_ladd (pc := 59) dX6_copy_59 ?_
                refine a_aload_0 (pc := 60) dX6_copy_60 ?_
                refine a_getf (ci := 6) (j := 11) rfl win_X6 (by decide) (pc := 61) dX6_copy_61 kf_X6_41 rfl rfl ?_
                refine a_iload_1 (pc := 64) dX6_copy_64 ?_
                refine a_ialdN (pc := 65) dX6_copy_65 rfl (by omega) (by decide) ?_
                refine a_i2l (pc := 66) dX6_copy_66 ?_
                refine a_lif_gt (tgt := 89) (pc := 67) dX6_copy_67 dX6_copy_68 (by decide) (fun c_67 => ?_) (fun c_67 => ?_)
                · have hr_ : ¬ zHR (σ.2.2.1 f_) p m ∨ ¬ zHR (σ.2.2.1 t_) a m := Or.inl (fun h => by
                    rw [hsf_] at h c_67
                    have h2 := Int64.le_iff_toInt_le.mp ((zcopy_hr hn_ c_41 c_51).mp h)
                    have h3 := Int64.lt_iff_toInt_lt.mp c_67
                    omega)
                  refine a_ldc2 (pc := 89) dX6_copy_89 kl_X6_195 ?_
                  exact a_lret (pc := 92) dX6_copy_92 rfl rfl (mret x0 (by unfold o_copy; rw [if_neg (fun h => h.elim c_4 c_11), nI_clamp (by omega), nI_clamp (by omega)]; exact (if_neg hnm_).trans (if_pos hr_)) hN rfl)
                · have hrf_ : zHR (σ.2.2.1 f_) p m := by
                    rw [hsf_] at c_67 ⊢
                    exact (zcopy_hr hn_ c_41 c_51).mpr (Int64.le_iff_toInt_le.mpr (by have := mt Int64.lt_iff_toInt_lt.mpr c_67; omega))
                  refine a_iload_4 (pc := 71) dX6_copy_71 ?_
                  refine a_i2l (pc := 73) dX6_copy_73 ?_
                  refine a_iload_5 (pc := 74) dX6_copy_74 ?_
                  refine a_i2l (pc := 76) dX6_copy_76 ?_
                  refine a_ladd (pc := 77) dX6_copy_77 ?_
                  refine a_aload_0 (pc := 78) dX6_copy_78 ?_
                  refine a_getf (ci := 6) (j := 11) rfl win_X6 (by decide) (pc := 79) dX6_copy_79 kf_X6_41 rfl rfl ?_
                  refine a_iload_3 (pc := 82) dX6_copy_82 ?_
                  refine a_ialdN (pc := 83) dX6_copy_83 rfl (by omega) (by decide) ?_
                  refine a_i2l (pc := 84) dX6_copy_84 ?_
                  refine a_lif_le (tgt := 93) (pc := 85) dX6_copy_85 dX6_copy_86 (by decide) (fun c_85 => ?_) (fun c_85 => ?_)
                  · have hrt_ : zHR (σ.2.2.1 t_) a m := by
                      rw [hst_] at c_85 ⊢
                      exact (zcopy_hr hn2_ c_46 c_51).mpr c_85
                    refine a_iconst (v := 0) (pc := 93) dX6_copy_93 (by decide) ?_
                    refine a_istore_6 (pc := 94) dX6_copy_94 rfl (by decide) ?_
                    have k0_ : (0:Int32).toInt = 0 := by decide
                    obtain ⟨p_, hpb_, rfl⟩ : ∃ z, z < 2 ^ 31 ∧ p = nI z := ⟨p.toInt.toNat, by have := i_bd p; omega, i_toNat (by have := mt Int32.lt_iff_toInt_lt.mpr c_41; omega)⟩
                    obtain ⟨a_, hab_, rfl⟩ : ∃ z, z < 2 ^ 31 ∧ a = nI z := ⟨a.toInt.toNat, by have := i_bd a; omega, i_toNat (by have := mt Int32.lt_iff_toInt_lt.mpr c_46; omega)⟩
                    obtain ⟨m_, hmb_, rfl⟩ : ∃ z, z < 2 ^ 31 ∧ m = nI z := ⟨m.toInt.toNat, by have := i_bd m; omega, i_toNat (by have := mt Int32.lt_iff_toInt_lt.mpr c_51; omega)⟩
                    have hpl_ : p_ + m_ ≤ n_ := by
                      rw [hsf_] at hrf_
                      have h2 := Int64.le_iff_toInt_le.mp ((zcopy_hr hn_ c_41 c_51).mp hrf_)
                      have e1_ := nI64 hpb_
                      have e2_ := nI64 hmb_
                      rw [j_add (by rw [e1_, e2_]; omega) (by rw [e1_, e2_]; omega), e1_, e2_, nI64 (by omega)] at h2
                      omega
                    have hal_ : a_ + m_ ≤ 24 := by
                      rw [hst_] at hrt_
                      have h2 := Int64.le_iff_toInt_le.mp ((zcopy_hr hn2_ c_46 c_51).mp hrt_)
                      have e1_ := nI64 hab_
                      have e2_ := nI64 hmb_
                      rw [j_add (by rw [e1_, e2_]; omega) (by rw [e1_, e2_]; omega), e1_, e2_, nI64 (by omega)] at h2
                      omega
                    have e_ : o_copy σ (nI f_) (nI p_) (nI t_) (nI a_) (nI m_) = ((nI m_).toInt64, (σ.1, σ.2.1, σ.2.2.1, zuC σ.2.2.2 t_ (va_cpy (σ.2.2.2 f_) (σ.2.2.2 t_) p_ a_ m_))) := by
                      unfold o_copy
                      rw [if_neg (fun h => h.elim c_4 c_11), nI_clamp (n := f_) (by omega), nI_clamp (n := t_) (by omega), nI_clamp (n := p_) (by omega), nI_clamp (n := a_) (by omega), nI_clamp (n := m_) (by omega)]
                      exact (if_neg hnm_).trans (if_neg (fun h => h.elim (fun h => h hrf_) (fun h => h hrt_)))
                    rw [e_]
                    exact lm_copy1 l G ad σ x0 hN f_ p_ t_ a_ m_ n_ hf2_ ht2_ hn_ hsf_ hpl_ hal_ m_ 0 x0.2.2.2.2.2.2 (by omega) (fun j hj => absurd hj (Nat.not_lt_zero j))
                  · have hr_ : ¬ zHR (σ.2.2.1 f_) p m ∨ ¬ zHR (σ.2.2.1 t_) a m := Or.inr (fun h => by
                      rw [hst_] at h c_85
                      exact c_85 ((zcopy_hr hn2_ c_46 c_51).mp h))
                    refine a_ldc2 (pc := 89) dX6_copy_89 kl_X6_195 ?_
                    exact a_lret (pc := 92) dX6_copy_92 rfl rfl (mret x0 (by unfold o_copy; rw [if_neg (fun h => h.elim c_4 c_11), nI_clamp (by omega), nI_clamp (by omega)]; exact (if_neg hnm_).trans (if_pos hr_)) hN rfl)
        · have hm_ : σ.2.2.1 f_ = -1 ∨ σ.2.2.1 t_ = -1 := Or.inr (zsz_n hσ ht2_ c_33)
          refine a_ldc2 (pc := 36) dX6_copy_36 kl_X6_173 ?_
          exact a_lret (pc := 39) dX6_copy_39 rfl rfl (mret x0 (by unfold o_copy; rw [if_neg (fun h => h.elim c_4 c_11), nI_clamp (by omega), nI_clamp (by omega)]; exact if_pos hm_) hN rfl)
    · refine a_ldc2 (pc := 14) dX6_copy_14 kl_X6_79 ?_
      exact a_lret (pc := 17) dX6_copy_17 rfl rfl (by first | exact mret x0 (if_pos (Or.inl (Decidable.not_not.mp c_4))) hN rfl | exact mret x0 (if_pos (Or.inr (Decidable.not_not.mp c_11))) hN rfl)

def zCn (a b c n w : Nat) : Nat → Nat
  | 0 => 0
  | i + 1 => zCn a b c n w i + if (i % 6 < n ∧ i % 24 / 6 < (if i / 24 = 0 then a else if i / 24 = 1 then b else c)) ∧ (w = 1 ∨ i % 6 = 0) then 1 else 0
theorem zCn_1 : ∀ a, a < 5 → ∀ b, b < 5 → ∀ c, c < 5 → ∀ n, n < 7 → zCn a b c n 1 72 = (a + b + c) * n := by decide +kernel
theorem zCn_0 : ∀ a, a < 5 → ∀ b, b < 5 → ∀ c, c < 5 → ∀ n, n < 6 → zCn a b c (n + 1) 0 72 = a + b + c := by decide +kernel
abbrev zCnσ (σ : zσ) (w : Nat) : Nat → Nat := zCn (zMs σ 0) (zMs σ 1) (zMs σ 2) (σ.1 0) w
theorem zCn_iff {σ : zσ} (hσ : zOk σ) {i : Nat} (hi : i < 72) : zHσ σ i ↔ (i % 6 < σ.1 0 ∧ i % 24 / 6 < (if i / 24 = 0 then zMs σ 0 else if i / 24 = 1 then zMs σ 1 else zMs σ 2)) := by
  rw [show zHσ σ i ↔ _ from zHd_N hσ.2.2.2.2.2.1 hσ.1.2 hi]
  rcases (show i / 24 = 0 ∨ i / 24 = 1 ∨ i / 24 = 2 by omega) with e | e | e
  · rw [e, if_pos rfl]
  · rw [e, if_neg (by decide), if_pos rfl]
  · rw [e, if_neg (by decide), if_neg (by decide)]
theorem zCn_y {σ : zσ} (hσ : zOk σ) {w i : Nat} (hi : i < 72) (h1 : zHσ σ i) (h2 : w = 1 ∨ i % 6 = 0) : zCnσ σ w (i + 1) = zCnσ σ w i + 1 := by
  show zCn _ _ _ _ _ i + _ = _
  rw [if_pos ⟨(zCn_iff hσ hi).mp h1, h2⟩]
theorem zCn_n {σ : zσ} (hσ : zOk σ) {w i : Nat} (hi : i < 72) (h : ¬ (zHσ σ i ∧ (w = 1 ∨ i % 6 = 0))) : zCnσ σ w (i + 1) = zCnσ σ w i + 0 := by
  show zCn _ _ _ _ _ i + _ = _
  rw [if_neg (fun h2 => h ⟨(zCn_iff hσ hi).mpr h2.1, h2.2⟩)]
theorem zSum3_N {σ : zσ} (hσ : zOk σ) : zSum3 (zVesf σ) 3 = nI (zMs σ 0 + zMs σ 1 + zMs σ 2) := by
  show ((0 : Int32) + zVin (zVesf σ) 0) + zVin (zVesf σ) 1 + zVin (zVesf σ) 2 = _
  rw [(zVin_N hσ.2.2.2.2.2.1 (s := 0) (by decide)).1, (zVin_N hσ.2.2.2.2.2.1 (s := 1) (by decide)).1, (zVin_N hσ.2.2.2.2.2.1 (s := 2) (by decide)).1, show (0 : Int32) = nI 0 from rfl, ← zI_add, ← zI_add, ← zI_add, Nat.zero_add]
theorem zcount_0 {σ : zσ} (hσ : zOk σ) : (nI (zCnσ σ 0 72)).toInt64 = (o_count σ 0).1 := by
  have h1 := hσ.1
  have m0 : zMs σ 0 ≤ 4 := (zVin_N hσ.2.2.2.2.2.1 (s := 0) (by decide)).2
  have m1 : zMs σ 1 ≤ 4 := (zVin_N hσ.2.2.2.2.2.1 (s := 1) (by decide)).2
  have m2 : zMs σ 2 ≤ 4 := (zVin_N hσ.2.2.2.2.2.1 (s := 2) (by decide)).2
  have e := zCn_0 _ (show zMs σ 0 < 5 by omega) _ (show zMs σ 1 < 5 by omega) _ (show zMs σ 2 < 5 by omega) _ (show σ.1 0 - 1 < 6 by omega)
  rw [show σ.1 0 - 1 + 1 = σ.1 0 by omega] at e
  show (nI (zCn _ _ _ _ 0 72)).toInt64 = (zSum3 (zVesf σ) 3).toInt64
  rw [e, zSum3_N hσ]
theorem zcount_1 {σ : zσ} (hσ : zOk σ) : (nI (zCnσ σ 1 72)).toInt64 = (o_count σ 1).1 := by
  have h1 := hσ.1
  have m0 : zMs σ 0 ≤ 4 := (zVin_N hσ.2.2.2.2.2.1 (s := 0) (by decide)).2
  have m1 : zMs σ 1 ≤ 4 := (zVin_N hσ.2.2.2.2.2.1 (s := 1) (by decide)).2
  have m2 : zMs σ 2 ≤ 4 := (zVin_N hσ.2.2.2.2.2.1 (s := 2) (by decide)).2
  have e := zCn_1 _ (show zMs σ 0 < 5 by omega) _ (show zMs σ 1 < 5 by omega) _ (show zMs σ 2 < 5 by omega) _ (show σ.1 0 < 7 by omega)
  show (nI (zCn _ _ _ _ 1 72)).toInt64 = (zSum3 (zVesf σ) 3).toInt64 * (nI (σ.1 0)).toInt64
  rw [e, zSum3_N hσ]
  apply Int64.toInt_inj.mp
  have hb : (zMs σ 0 + zMs σ 1 + zMs σ 2) * σ.1 0 ≤ 12 * 6 := Nat.mul_le_mul (by omega) (by omega)
  have e1 := nI64 (n := zMs σ 0 + zMs σ 1 + zMs σ 2) (by omega)
  have e2 := nI64 (n := σ.1 0) (by omega)
  have e3 : ((zMs σ 0 + zMs σ 1 + zMs σ 2 : Nat) : Int) * ((σ.1 0 : Nat) : Int) = (((zMs σ 0 + zMs σ 1 + zMs σ 2) * σ.1 0 : Nat) : Int) := (Int.natCast_mul _ _).symm
  rw [nI64 (by omega), j_mul (by rw [e1, e2, e3]; omega) (by rw [e1, e2, e3]; omega), e1, e2, e3]
set_option maxRecDepth 100000 in
set_option maxHeartbeats 4000000 in
theorem lm_count0 (l : Launch) (G : zG) (ad : Nat → Nat) (σ : zσ) (hσ : zOk σ) (x0 : zY) (hN : zNb σ x0.1) (c : Int32) (hc : c = 0) : ∀ (q i : Nat), i + q = 72 → AV l G sX6_count (wM G ad σ x0) (zPostM G ad (o_count σ c)) 34 [some (.ref (ad 0)), some (.int c), some (.int (nI (zCnσ σ 0 i))), some (.int (nI i))] [] (wM G ad σ x0) := by
  intro q_
  induction q_ using Nat.strongRecOn
  rename_i q_ ih_
  intro i hq_
  refine a_iload_3 (pc := 34) dX6_count_34 ?_
  refine a_bipush (v := 72) (pc := 35) dX6_count_35 (by decide) ?_
  refine a_icmp_ge (tgt := 74) (pc := 37) dX6_count_37 (by decide) (fun c_37 => ?_) (fun c_37 => ?_)
  · obtain rfl : i = 72 := by have := (zI_le (a := 72) (b := i) (by decide) (by omega)).mp c_37; omega
    refine a_iload_2 (pc := 74) dX6_count_74 ?_
    refine a_i2l (pc := 75) dX6_count_75 ?_
    exact a_lret (pc := 76) dX6_count_76 rfl rfl (by subst hc; exact mret (σ' := σ) x0 (Prod.ext (zcount_0 hσ).symm rfl) hN rfl)
  · have hi_ : i < 72 := by have := mt (zI_le (a := 72) (b := i) (by decide) (by omega)).mpr c_37; omega
    have J66_ : ∀ y_ : Nat, zCnσ σ 0 (i + 1) = zCnσ σ 0 i + y_ → AV l G sX6_count (wM G ad σ x0) (zPostM G ad (o_count σ c)) 66 [some (.ref (ad 0)), some (.int c), some (.int (nI (zCnσ σ 0 i))), some (.int (nI i))] [.int (nI y_), .int (nI (zCnσ σ 0 i))] (wM G ad σ x0) := by
      intro y_ hy_
      refine a_iadd (pc := 66) dX6_count_66 ?_
      rw [← zI_add, ← hy_]
      refine a_istore_2 (pc := 67) dX6_count_67 rfl (by decide) ?_
      refine a_iinc_3 (cst := 1) (pc := 68) dX6_count_68 rfl (by decide) (by decide) ?_
      refine a_goto (tgt := 34) (pc := 71) dX6_count_71 (by decide) ?_
      rw [← nI_succ]
      exact ih_ (q_ - 1) (by omega) (i + 1) (by omega)
    refine a_iload_2 (pc := 40) dX6_count_40 ?_
    refine a_aload_0 (pc := 41) dX6_count_41 ?_
    refine a_iload_3 (pc := 42) dX6_count_42 ?_
    refine f_P (ad := ad) (q0 := 0) (S2 := sX6_isThere) (m_isThere l G ad σ hσ x0 i hi_) kc_X6_isThere km_X6_138 ki_X6_isThere kv_X6_isThere kini_X6 ⟨kn_X6_isThere, by decide, by decide⟩ (pc := 43) dX6_count_43 (znd_of rfl znd18) rfl rfl (Nat.le_of_ble_eq_true rfl) rfl rfl rfl ?_
    first | refine a_if_eqB (tgt := 65) (pc := 46) dX6_count_46 (by decide) (fun c_46 => ?_) (fun c_46 => ?_) | refine a_if_eq (tgt := 65) (pc := 46) dX6_count_46 (by decide) (fun c_46 => ?_) (fun c_46 => ?_)
    · have e66_ := zCn_n hσ (w := 0) hi_ (fun h => c_46 h.1)
      refine a_iconst (v := 0) (pc := 65) dX6_count_65 (by decide) ?_
      first | exact J66_ 0 e66_ | exact J66_ 1 e66_
    · refine a_iload_1 (pc := 49) dX6_count_49 ?_
      refine a_iconst (v := 1) (pc := 50) dX6_count_50 (by decide) ?_
      refine a_icmp_eq (tgt := 61) (pc := 51) dX6_count_51 (by decide) (fun c_51 => ?_) (fun c_51 => ?_)
      · exact absurd (hc.symm.trans c_51) (by decide)
      · skip
        refine a_iload_3 (pc := 54) dX6_count_54 ?_
        refine a_bipush (v := 6) (pc := 55) dX6_count_55 (by decide) ?_
        refine a_irem (pc := 57) dX6_count_57 (by decide) ?_
        rw [show (6 : Int32) = nI 6 from rfl, zI_rem (by omega) (by decide) (by decide)]
        first | refine a_if_neB (tgt := 65) (pc := 58) dX6_count_58 (by decide) (fun c_58 => ?_) (fun c_58 => ?_) | refine a_if_ne (tgt := 65) (pc := 58) dX6_count_58 (by decide) (fun c_58 => ?_) (fun c_58 => ?_)
        · have h6_ : ¬ i % 6 = 0 := fun h => c_58 (by rw [h]; rfl)
          have e66_ := zCn_n hσ (w := 0) hi_ (fun h => h.2.elim (by decide) h6_)
          refine a_iconst (v := 0) (pc := 65) dX6_count_65 (by decide) ?_
          first | exact J66_ 0 e66_ | exact J66_ 1 e66_
        · have h6_ : i % 6 = 0 := zI_inj (b := 0) (by omega) (by decide) c_58
          have e66_ := zCn_y hσ (w := 0) hi_ c_46 (Or.inr h6_)
          refine a_iconst (v := 1) (pc := 61) dX6_count_61 (by decide) ?_
          refine a_goto (tgt := 66) (pc := 62) dX6_count_62 (by decide) ?_
          first | exact J66_ 0 e66_ | exact J66_ 1 e66_

set_option maxRecDepth 100000 in
set_option maxHeartbeats 4000000 in
theorem lm_count1 (l : Launch) (G : zG) (ad : Nat → Nat) (σ : zσ) (hσ : zOk σ) (x0 : zY) (hN : zNb σ x0.1) (c : Int32) (hc : c = 1) : ∀ (q i : Nat), i + q = 72 → AV l G sX6_count (wM G ad σ x0) (zPostM G ad (o_count σ c)) 34 [some (.ref (ad 0)), some (.int c), some (.int (nI (zCnσ σ 1 i))), some (.int (nI i))] [] (wM G ad σ x0) := by
  intro q_
  induction q_ using Nat.strongRecOn
  rename_i q_ ih_
  intro i hq_
  refine a_iload_3 (pc := 34) dX6_count_34 ?_
  refine a_bipush (v := 72) (pc := 35) dX6_count_35 (by decide) ?_
  refine a_icmp_ge (tgt := 74) (pc := 37) dX6_count_37 (by decide) (fun c_37 => ?_) (fun c_37 => ?_)
  · obtain rfl : i = 72 := by have := (zI_le (a := 72) (b := i) (by decide) (by omega)).mp c_37; omega
    refine a_iload_2 (pc := 74) dX6_count_74 ?_
    refine a_i2l (pc := 75) dX6_count_75 ?_
    exact a_lret (pc := 76) dX6_count_76 rfl rfl (by subst hc; exact mret (σ' := σ) x0 (Prod.ext (zcount_1 hσ).symm rfl) hN rfl)
  · have hi_ : i < 72 := by have := mt (zI_le (a := 72) (b := i) (by decide) (by omega)).mpr c_37; omega
    have J66_ : ∀ y_ : Nat, zCnσ σ 1 (i + 1) = zCnσ σ 1 i + y_ → AV l G sX6_count (wM G ad σ x0) (zPostM G ad (o_count σ c)) 66 [some (.ref (ad 0)), some (.int c), some (.int (nI (zCnσ σ 1 i))), some (.int (nI i))] [.int (nI y_), .int (nI (zCnσ σ 1 i))] (wM G ad σ x0) := by
      intro y_ hy_
      refine a_iadd (pc := 66) dX6_count_66 ?_
      rw [← zI_add, ← hy_]
      refine a_istore_2 (pc := 67) dX6_count_67 rfl (by decide) ?_
      refine a_iinc_3 (cst := 1) (pc := 68) dX6_count_68 rfl (by decide) (by decide) ?_
      refine a_goto (tgt := 34) (pc := 71) dX6_count_71 (by decide) ?_
      rw [← nI_succ]
      exact ih_ (q_ - 1) (by omega) (i + 1) (by omega)
    refine a_iload_2 (pc := 40) dX6_count_40 ?_
    refine a_aload_0 (pc := 41) dX6_count_41 ?_
    refine a_iload_3 (pc := 42) dX6_count_42 ?_
    refine f_P (ad := ad) (q0 := 0) (S2 := sX6_isThere) (m_isThere l G ad σ hσ x0 i hi_) kc_X6_isThere km_X6_138 ki_X6_isThere kv_X6_isThere kini_X6 ⟨kn_X6_isThere, by decide, by decide⟩ (pc := 43) dX6_count_43 (znd_of rfl znd18) rfl rfl (Nat.le_of_ble_eq_true rfl) rfl rfl rfl ?_
    first | refine a_if_eqB (tgt := 65) (pc := 46) dX6_count_46 (by decide) (fun c_46 => ?_) (fun c_46 => ?_) | refine a_if_eq (tgt := 65) (pc := 46) dX6_count_46 (by decide) (fun c_46 => ?_) (fun c_46 => ?_)
    · have e66_ := zCn_n hσ (w := 1) hi_ (fun h => c_46 h.1)
      refine a_iconst (v := 0) (pc := 65) dX6_count_65 (by decide) ?_
      first | exact J66_ 0 e66_ | exact J66_ 1 e66_
    · refine a_iload_1 (pc := 49) dX6_count_49 ?_
      refine a_iconst (v := 1) (pc := 50) dX6_count_50 (by decide) ?_
      refine a_icmp_eq (tgt := 61) (pc := 51) dX6_count_51 (by decide) (fun c_51 => ?_) (fun c_51 => ?_)
      · have e66_ := zCn_y hσ (w := 1) hi_ c_46 (Or.inl rfl)
        refine a_iconst (v := 1) (pc := 61) dX6_count_61 (by decide) ?_
        refine a_goto (tgt := 66) (pc := 62) dX6_count_62 (by decide) ?_
        first | exact J66_ 0 e66_ | exact J66_ 1 e66_
      · exact absurd hc c_51

set_option maxRecDepth 100000 in
set_option maxHeartbeats 4000000 in
theorem m_count (l : Launch) (G : zG) (ad : Nat → Nat) (σ : zσ) (x0 : zY) (hσ : zOk σ) (hN : zNb σ x0.1) (c : Int32) : zSem l G sX6_count [.ref (ad 0), .int c] (wM G ad σ x0) (zPostM G ad (o_count σ c)) := by
  refine zEnterV (L := [some (.ref (ad 0)), some (.int c), none, none]) (by decide) rfl (Nat.le_of_ble_eq_true rfl) rfl ?_
  refine a_iconst (v := 0) (pc := 0) dX6_count_0 (by decide) ?_
  refine a_istore_2 (pc := 1) dX6_count_1 rfl (by decide) ?_
  refine a_iload_1 (pc := 2) dX6_count_2 ?_
  rcases zsw3 c with rfl | rfl | rfl | rfl | hc_
  · refine a_tableIn (off := 29) (tgt := 32) (pc := 3) dX6_count_3 (by decide) (by decide) (by decide) (by decide) ?_
    refine a_iconst (v := 0) (pc := 32) dX6_count_32 (by decide) ?_
    refine a_istore_3 (pc := 33) dX6_count_33 rfl (by decide) ?_
    first | exact lm_count0 l G ad σ hσ x0 hN 0 rfl 72 0 (by omega) | exact lm_count1 l G ad σ hσ x0 hN 1 rfl 72 0 (by omega)
  · refine a_tableIn (off := 29) (tgt := 32) (pc := 3) dX6_count_3 (by decide) (by decide) (by decide) (by decide) ?_
    refine a_iconst (v := 0) (pc := 32) dX6_count_32 (by decide) ?_
    refine a_istore_3 (pc := 33) dX6_count_33 rfl (by decide) ?_
    first | exact lm_count0 l G ad σ hσ x0 hN 0 rfl 72 0 (by omega) | exact lm_count1 l G ad σ hσ x0 hN 1 rfl 72 0 (by omega)
  · refine a_tableIn (off := 74) (tgt := 77) (pc := 3) dX6_count_3 (by decide) (by decide) (by decide) (by decide) ?_
    refine a_aload_0 (pc := 77) dX6_count_77 ?_
    refine a_getf (ci := 6) (j := 8) rfl win_X6 (by decide) (pc := 78) dX6_count_78 kf_X6_159 rfl rfl ?_
    refine a_i2l (pc := 81) dX6_count_81 ?_
    exact a_lret (pc := 82) dX6_count_82 rfl rfl (mret (σ' := σ) x0 (by unfold o_count; rw [if_neg (by decide), if_neg (by decide), if_pos rfl]) hN rfl)
  · refine a_tableIn (off := 80) (tgt := 83) (pc := 3) dX6_count_3 (by decide) (by decide) (by decide) (by decide) ?_
    refine a_aload_0 (pc := 83) dX6_count_83 ?_
    refine a_getf (ci := 6) (j := 11) rfl win_X6 (by decide) (pc := 84) dX6_count_84 kf_X6_41 rfl rfl ?_
    refine a_iconst (v := 0) (pc := 87) dX6_count_87 (by decide) ?_
    refine a_ialdN (k := 0) (pc := 88) dX6_count_88 rfl (by omega) (by decide) ?_
    refine a_if_ge (tgt := 96) (pc := 89) dX6_count_89 (by decide) (fun c_89 => ?_) (fun c_89 => ?_)
    · have g0_ : (if σ.2.2.1 0 = -1 then (0 : Int32) else 1) = 1 := if_neg (zsz_p c_89)
      refine a_iconst (v := 1) (pc := 96) dX6_count_96 (by decide) ?_
      refine a_aload_0 (pc := 97) dX6_count_97 ?_
      refine a_getf (ci := 6) (j := 11) rfl win_X6 (by decide) (pc := 98) dX6_count_98 kf_X6_41 rfl rfl ?_
      refine a_iconst (v := 1) (pc := 101) dX6_count_101 (by decide) ?_
      refine a_ialdN (k := 1) (pc := 102) dX6_count_102 rfl (by omega) (by decide) ?_
      refine a_if_ge (tgt := 110) (pc := 103) dX6_count_103 (by decide) (fun c_103 => ?_) (fun c_103 => ?_)
      · have g1_ : (if σ.2.2.1 1 = -1 then (0 : Int32) else 1) = 1 := if_neg (zsz_p c_103)
        refine a_iconst (v := 1) (pc := 110) dX6_count_110 (by decide) ?_
        refine a_iadd (pc := 111) dX6_count_111 ?_
        refine a_i2l (pc := 112) dX6_count_112 ?_
        exact a_lret (pc := 113) dX6_count_113 rfl rfl (mret (σ' := σ) x0 (by unfold o_count; rw [if_neg (by decide), if_neg (by decide), if_neg (by decide), if_pos rfl, g0_, g1_]) hN rfl)
      · have g1_ : (if σ.2.2.1 1 = -1 then (0 : Int32) else 1) = 0 := if_pos (zsz_n hσ (s := 1) (by decide) c_103)
        refine a_iconst (v := 0) (pc := 106) dX6_count_106 (by decide) ?_
        refine a_goto (tgt := 111) (pc := 107) dX6_count_107 (by decide) ?_
        refine a_iadd (pc := 111) dX6_count_111 ?_
        refine a_i2l (pc := 112) dX6_count_112 ?_
        exact a_lret (pc := 113) dX6_count_113 rfl rfl (mret (σ' := σ) x0 (by unfold o_count; rw [if_neg (by decide), if_neg (by decide), if_neg (by decide), if_pos rfl, g0_, g1_]) hN rfl)
    · have g0_ : (if σ.2.2.1 0 = -1 then (0 : Int32) else 1) = 0 := if_pos (zsz_n hσ (s := 0) (by decide) c_89)
      refine a_iconst (v := 0) (pc := 92) dX6_count_92 (by decide) ?_
      refine a_goto (tgt := 97) (pc := 93) dX6_count_93 (by decide) ?_
      refine a_aload_0 (pc := 97) dX6_count_97 ?_
      refine a_getf (ci := 6) (j := 11) rfl win_X6 (by decide) (pc := 98) dX6_count_98 kf_X6_41 rfl rfl ?_
      refine a_iconst (v := 1) (pc := 101) dX6_count_101 (by decide) ?_
      refine a_ialdN (k := 1) (pc := 102) dX6_count_102 rfl (by omega) (by decide) ?_
      refine a_if_ge (tgt := 110) (pc := 103) dX6_count_103 (by decide) (fun c_103 => ?_) (fun c_103 => ?_)
      · have g1_ : (if σ.2.2.1 1 = -1 then (0 : Int32) else 1) = 1 := if_neg (zsz_p c_103)
        refine a_iconst (v := 1) (pc := 110) dX6_count_110 (by decide) ?_
        refine a_iadd (pc := 111) dX6_count_111 ?_
        refine a_i2l (pc := 112) dX6_count_112 ?_
        exact a_lret (pc := 113) dX6_count_113 rfl rfl (mret (σ' := σ) x0 (by unfold o_count; rw [if_neg (by decide), if_neg (by decide), if_neg (by decide), if_pos rfl, g0_, g1_]) hN rfl)
      · have g1_ : (if σ.2.2.1 1 = -1 then (0 : Int32) else 1) = 0 := if_pos (zsz_n hσ (s := 1) (by decide) c_103)
        refine a_iconst (v := 0) (pc := 106) dX6_count_106 (by decide) ?_
        refine a_goto (tgt := 111) (pc := 107) dX6_count_107 (by decide) ?_
        refine a_iadd (pc := 111) dX6_count_111 ?_
        refine a_i2l (pc := 112) dX6_count_112 ?_
        exact a_lret (pc := 113) dX6_count_113 rfl rfl (mret (σ' := σ) x0 (by unfold o_count; rw [if_neg (by decide), if_neg (by decide), if_neg (by decide), if_pos rfl, g0_, g1_]) hN rfl)
  · refine a_tableOut (tgt := 114) (pc := 3) dX6_count_3 hc_ (by decide) ?_
    refine a_ldc2 (pc := 114) dX6_count_114 kl_X6_79 ?_
    exact a_lret (pc := 117) dX6_count_117 rfl rfl (mret (σ' := σ) x0 (by unfold o_count; rw [if_neg (fun h => by subst h; exact absurd hc_ (by decide)), if_neg (fun h => by subst h; exact absurd hc_ (by decide)), if_neg (fun h => by subst h; exact absurd hc_ (by decide)), if_neg (fun h => by subst h; exact absurd hc_ (by decide))]) hN rfl)

