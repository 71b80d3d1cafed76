/-! The plant: lay, joint. -/
def zMost (w : Nat) : Int32 := if w = 0 then 99 else 999
abbrev zHas (σ : zσ) (s : Nat) (x : Int32) : Prop := ¬ x < 0 ∧ ¬ σ.2.2.1 s ≤ x
def zLay1 (σ : zσ) (s i : Nat) : Int32 := if zHas σ s (nI i) then σ.2.2.2 s i else 0
def zLayV (σ : zσ) (w s i : Nat) : Nat := if zOR (zLay1 σ s i) 0 (zMost w) then 0 else (zLay1 σ s i).toNatClampNeg
def zfilN (f : Nat → Nat) (m : Nat) (g : Nat → Nat) : Nat → Nat := fun j => if j < m then g j else f j
theorem zfilN_s (f g : Nat → Nat) (i : Nat) : upd (fun j => nI (zfilN f i g j)) i (nI (g i)) = fun j => nI (zfilN f (i + 1) g j) := by
  rw [updN]
  funext j
  congr 1
  unfold zuN zfilN
  by_cases h : j = i
  · subst h; rw [if_pos rfl, if_pos (by omega)]
  · rw [if_neg h]
    by_cases h2 : j < i
    · rw [if_pos h2, if_pos (by omega)]
    · rw [if_neg h2, if_neg (by omega)]
theorem zfilN_0 (f g : Nat → Nat) : zfilN f 0 g = f := by funext j; exact if_neg (by omega)
theorem zu2_self (F : Nat → Nat → Nat) (a : Nat) : zu2 F a (F a) = F := by
  funext b; unfold zu2; split
  · rename_i h; rw [h]
  · rfl
def zLayσ (σ : zσ) (w s i : Nat) : zσ := (σ.1, zu2 σ.2.1 (4 + w) (zfilN (σ.2.1 (4 + w)) i (zLayV σ w s)), σ.2.2)
def o_lay (σ : zσ) (w s : Int32) : Int64 × zσ := if zOR w 0 1 ∨ zOR s 0 1 then (zBAD, σ) else if σ.2.2.1 s.toNatClampNeg = -1 then (zNOTH, σ) else ((if (12 : Int32) < σ.2.2.1 s.toNatClampNeg then 12 else σ.2.2.1 s.toNatClampNeg).toInt64, zLayσ σ w.toNatClampNeg s.toNatClampNeg 12)
theorem zLayV_v (σ : zσ) (w s i : Nat) : nI (zLayV σ w s i) = if zOR (zLay1 σ s i) 0 (zMost w) then 0 else zLay1 σ s i := by
  unfold zLayV
  by_cases h : zOR (zLay1 σ s i) 0 (zMost w)
  · rw [if_pos h, if_pos h]; rfl
  · rw [if_neg h, if_neg h]
    have h1 : 0 ≤ (zLay1 σ s i).toInt := by
      have k0 : (0:Int32).toInt = 0 := by decide
      have := mt Int32.lt_iff_toInt_lt.mpr (fun q => h (Or.inl q))
      omega
    exact (i_toNat h1).symm
set_option maxRecDepth 100000 in
set_option maxHeartbeats 4000000 in
theorem lp_lay00 (l : Launch) (G : zG) (ad : Nat → Nat) (σ : zσ) (x0 : zX) : ∀ (q i : Nat), i + q = 12 → AV l G sX5_lay (wP G ad σ x0) (zPost G ad ((if (12 : Int32) < σ.2.2.1 0 then 12 else σ.2.2.1 0).toInt64, zLayσ σ 0 0 12)) 59 [some (.ref (ad 0)), some (.int 0), some (.int 0), some (.ref (ad 24)), some (.ref (ad 19)), some (.int (zMost 0)), some (.int (nI i)), none] [] (wP G ad (zLayσ σ 0 0 i) x0) := by
  intro q_
  induction q_ using Nat.strongRecOn
  rename_i q_ ih_
  intro i hq_
  refine a_iload_6 (pc := 59) dX5_lay_59 ?_
  refine a_bipush (v := 12) (pc := 61) dX5_lay_61 (by decide) ?_
  refine a_icmp_ge (tgt := 116) (pc := 63) dX5_lay_63 (by decide) (fun c_63 => ?_) (fun c_63 => ?_)
  · obtain rfl : i = 12 := by have := (zI_le (a := 12) (b := i) (by decide) (by omega)).mp c_63; omega
    refine a_aload_3 (pc := 116) dX5_lay_116 ?_
    refine a_getfN (ci := 3) (j := 1) rfl win_X3 (by decide) (pc := 117) dX5_lay_117 kf_X5_224 rfl rfl ?_
    refine a_bipush (v := 12) (pc := 120) dX5_lay_120 (by decide) ?_
    refine a_minI (pc := 122) dX5_lay_122 km_X5_227 (by decide) (Nat.le_of_ble_eq_true rfl) ?_
    refine a_i2l (pc := 125) dX5_lay_125 ?_
    exact a_lret (pc := 126) dX5_lay_126 rfl rfl (zret' x0 rfl rfl)
  · have hi_ : i < 12 := by have := mt (zI_le (a := 12) (b := i) (by decide) (by omega)).mpr c_63; omega
    have J86_ : ∀ x_ : Int32, x_ = zLay1 σ 0 i → AV l G sX5_lay (wP G ad σ x0) (zPost G ad ((if (12 : Int32) < σ.2.2.1 0 then 12 else σ.2.2.1 0).toInt64, zLayσ σ 0 0 12)) 86 [some (.ref (ad 0)), some (.int 0), some (.int 0), some (.ref (ad 24)), some (.ref (ad 19)), some (.int (zMost 0)), some (.int (nI i)), none] [.int x_] (wP G ad (zLayσ σ 0 0 i) x0) := by
      intro x_ hx_; subst hx_
      refine a_istore_7 (pc := 86) dX5_lay_86 rfl (by decide) ?_
      refine a_aload_4 (pc := 88) dX5_lay_88 ?_
      refine a_iload_6 (pc := 90) dX5_lay_90 ?_
      refine a_iload_7 (pc := 92) dX5_lay_92 ?_
      refine a_iconst (v := 0) (pc := 94) dX5_lay_94 (by decide) ?_
      refine a_iload_5 (pc := 95) dX5_lay_95 ?_
      refine cS_P (S2 := sX5_outside) (c_outside l G _ _ _) kc_X5_outside km_X5_64 ks_X5_outside kini_X5 ⟨kn_X5_outside, by decide, by decide⟩ (pc := 97) dX5_lay_97 [] rfl rfl rfl rfl (Nat.le_of_ble_eq_true rfl) ?_
      first | refine a_if_eqB (tgt := 107) (pc := 100) dX5_lay_100 (by decide) (fun c_100 => ?_) (fun c_100 => ?_) | refine a_if_eq (tgt := 107) (pc := 100) dX5_lay_100 (by decide) (fun c_100 => ?_) (fun c_100 => ?_)
      · refine a_iload_7 (pc := 107) dX5_lay_107 ?_
        refine a_iastN (pc := 109) dX5_lay_109 rfl (by omega) (by decide) ?_
        refine a_iinc_6 (cst := 1) (pc := 110) dX5_lay_110 rfl (by decide) (by decide) ?_
        refine a_goto (tgt := 59) (pc := 113) dX5_lay_113 (by decide) ?_
        rw [← nI_succ]
        refine a_forget_7 (a_to (ih_ (q_ - 1) (by omega) (i + 1) (by omega)) rfl rfl rfl ?_)
        have hv_ := zLayV_v σ 0 0 i
        first | rw [if_pos c_100] at hv_ | rw [if_neg c_100] at hv_
        rw [← hv_]
        show wP G ad (zLayσ σ 0 0 (i + 1)) x0 = (wP G ad (zLayσ σ 0 0 i) x0).set 19 (ad 19, .inl (zcI G, 12, .inl (upd (fun j => nI (zfilN (σ.2.1 4) i (zLayV σ 0 0) j)) i (nI (zLayV σ 0 0 i)))))
        rw [zfilN_s]
        rfl
      · refine a_iconst (v := 0) (pc := 103) dX5_lay_103 (by decide) ?_
        refine a_goto (tgt := 109) (pc := 104) dX5_lay_104 (by decide) ?_
        refine a_iastN (pc := 109) dX5_lay_109 rfl (by omega) (by decide) ?_
        refine a_iinc_6 (cst := 1) (pc := 110) dX5_lay_110 rfl (by decide) (by decide) ?_
        refine a_goto (tgt := 59) (pc := 113) dX5_lay_113 (by decide) ?_
        rw [← nI_succ]
        refine a_forget_7 (a_to (ih_ (q_ - 1) (by omega) (i + 1) (by omega)) rfl rfl rfl ?_)
        have hv_ := zLayV_v σ 0 0 i
        first | rw [if_pos c_100] at hv_ | rw [if_neg c_100] at hv_
        rw [← hv_]
        show wP G ad (zLayσ σ 0 0 (i + 1)) x0 = (wP G ad (zLayσ σ 0 0 i) x0).set 19 (ad 19, .inl (zcI G, 12, .inl (upd (fun j => nI (zfilN (σ.2.1 4) i (zLayV σ 0 0) j)) i (nI (zLayV σ 0 0 i)))))
        rw [zfilN_s]
        rfl
    refine a_aload_3 (pc := 66) dX5_lay_66 ?_
    refine a_iload_6 (pc := 67) dX5_lay_67 ?_
    refine cV_P (ad := ad) (q0 := 24) (S2 := sX3_has) (c_has l G (zpk ad [24, 25]) (σ.2.2.2 0) (σ.2.2.1 0) (nI i)) kc_X3_has km_X5_217 ki_X3_has kv_X3_has kini_X3 ⟨kn_X3_has, by decide, by decide⟩ (pc := 69) dX5_lay_69 [24, 25] rfl rfl rfl rfl (Nat.le_of_ble_eq_true rfl) rfl rfl rfl ?_
    first | refine a_if_eqB (tgt := 85) (pc := 72) dX5_lay_72 (by decide) (fun c_72 => ?_) (fun c_72 => ?_) | refine a_if_eq (tgt := 85) (pc := 72) dX5_lay_72 (by decide) (fun c_72 => ?_) (fun c_72 => ?_)
    · refine a_iconst (v := 0) (pc := 85) dX5_lay_85 (by decide) ?_
      first | exact J86_ _ (if_pos c_72).symm | exact J86_ _ (if_neg c_72).symm
    · refine a_aload_3 (pc := 75) dX5_lay_75 ?_
      refine a_getfN (ci := 3) (j := 0) rfl win_X3 (by decide) (pc := 76) dX5_lay_76 kf_X5_220 rfl rfl ?_
      refine a_iload_6 (pc := 79) dX5_lay_79 ?_
      refine a_saldN (pc := 81) dX5_lay_81 rfl (by omega) (by decide) ?_
      refine a_goto (tgt := 86) (pc := 82) dX5_lay_82 (by decide) ?_
      first | exact J86_ _ (if_pos c_72).symm | exact J86_ _ (if_neg c_72).symm

set_option maxRecDepth 100000 in
set_option maxHeartbeats 4000000 in
theorem lp_lay01 (l : Launch) (G : zG) (ad : Nat → Nat) (σ : zσ) (x0 : zX) : ∀ (q i : Nat), i + q = 12 → AV l G sX5_lay (wP G ad σ x0) (zPost G ad ((if (12 : Int32) < σ.2.2.1 1 then 12 else σ.2.2.1 1).toInt64, zLayσ σ 0 1 12)) 59 [some (.ref (ad 0)), some (.int 0), some (.int 1), some (.ref (ad 26)), some (.ref (ad 19)), some (.int (zMost 0)), some (.int (nI i)), none] [] (wP G ad (zLayσ σ 0 1 i) x0) := by
  intro q_
  induction q_ using Nat.strongRecOn
  rename_i q_ ih_
  intro i hq_
  refine a_iload_6 (pc := 59) dX5_lay_59 ?_
  refine a_bipush (v := 12) (pc := 61) dX5_lay_61 (by decide) ?_
  refine a_icmp_ge (tgt := 116) (pc := 63) dX5_lay_63 (by decide) (fun c_63 => ?_) (fun c_63 => ?_)
  · obtain rfl : i = 12 := by have := (zI_le (a := 12) (b := i) (by decide) (by omega)).mp c_63; omega
    refine a_aload_3 (pc := 116) dX5_lay_116 ?_
    refine a_getfN (ci := 3) (j := 1) rfl win_X3 (by decide) (pc := 117) dX5_lay_117 kf_X5_224 rfl rfl ?_
    refine a_bipush (v := 12) (pc := 120) dX5_lay_120 (by decide) ?_
    refine a_minI (pc := 122) dX5_lay_122 km_X5_227 (by decide) (Nat.le_of_ble_eq_true rfl) ?_
    refine a_i2l (pc := 125) dX5_lay_125 ?_
    exact a_lret (pc := 126) dX5_lay_126 rfl rfl (zret' x0 rfl rfl)
  · have hi_ : i < 12 := by have := mt (zI_le (a := 12) (b := i) (by decide) (by omega)).mpr c_63; omega
    have J86_ : ∀ x_ : Int32, x_ = zLay1 σ 1 i → AV l G sX5_lay (wP G ad σ x0) (zPost G ad ((if (12 : Int32) < σ.2.2.1 1 then 12 else σ.2.2.1 1).toInt64, zLayσ σ 0 1 12)) 86 [some (.ref (ad 0)), some (.int 0), some (.int 1), some (.ref (ad 26)), some (.ref (ad 19)), some (.int (zMost 0)), some (.int (nI i)), none] [.int x_] (wP G ad (zLayσ σ 0 1 i) x0) := by
      intro x_ hx_; subst hx_
      refine a_istore_7 (pc := 86) dX5_lay_86 rfl (by decide) ?_
      refine a_aload_4 (pc := 88) dX5_lay_88 ?_
      refine a_iload_6 (pc := 90) dX5_lay_90 ?_
      refine a_iload_7 (pc := 92) dX5_lay_92 ?_
      refine a_iconst (v := 0) (pc := 94) dX5_lay_94 (by decide) ?_
      refine a_iload_5 (pc := 95) dX5_lay_95 ?_
      refine cS_P (S2 := sX5_outside) (c_outside l G _ _ _) kc_X5_outside km_X5_64 ks_X5_outside kini_X5 ⟨kn_X5_outside, by decide, by decide⟩ (pc := 97) dX5_lay_97 [] rfl rfl rfl rfl (Nat.le_of_ble_eq_true rfl) ?_
      first | refine a_if_eqB (tgt := 107) (pc := 100) dX5_lay_100 (by decide) (fun c_100 => ?_) (fun c_100 => ?_) | refine a_if_eq (tgt := 107) (pc := 100) dX5_lay_100 (by decide) (fun c_100 => ?_) (fun c_100 => ?_)
      · refine a_iload_7 (pc := 107) dX5_lay_107 ?_
        refine a_iastN (pc := 109) dX5_lay_109 rfl (by omega) (by decide) ?_
        refine a_iinc_6 (cst := 1) (pc := 110) dX5_lay_110 rfl (by decide) (by decide) ?_
        refine a_goto (tgt := 59) (pc := 113) dX5_lay_113 (by decide) ?_
        rw [← nI_succ]
        refine a_forget_7 (a_to (ih_ (q_ - 1) (by omega) (i + 1) (by omega)) rfl rfl rfl ?_)
        have hv_ := zLayV_v σ 0 1 i
        first | rw [if_pos c_100] at hv_ | rw [if_neg c_100] at hv_
        rw [← hv_]
        show wP G ad (zLayσ σ 0 1 (i + 1)) x0 = (wP G ad (zLayσ σ 0 1 i) x0).set 19 (ad 19, .inl (zcI G, 12, .inl (upd (fun j => nI (zfilN (σ.2.1 4) i (zLayV σ 0 1) j)) i (nI (zLayV σ 0 1 i)))))
        rw [zfilN_s]
        rfl
      · refine a_iconst (v := 0) (pc := 103) dX5_lay_103 (by decide) ?_
        refine a_goto (tgt := 109) (pc := 104) dX5_lay_104 (by decide) ?_
        refine a_iastN (pc := 109) dX5_lay_109 rfl (by omega) (by decide) ?_
        refine a_iinc_6 (cst := 1) (pc := 110) dX5_lay_110 rfl (by decide) (by decide) ?_
        refine a_goto (tgt := 59) (pc := 113) dX5_lay_113 (by decide) ?_
        rw [← nI_succ]
        refine a_forget_7 (a_to (ih_ (q_ - 1) (by omega) (i + 1) (by omega)) rfl rfl rfl ?_)
        have hv_ := zLayV_v σ 0 1 i
        first | rw [if_pos c_100] at hv_ | rw [if_neg c_100] at hv_
        rw [← hv_]
        show wP G ad (zLayσ σ 0 1 (i + 1)) x0 = (wP G ad (zLayσ σ 0 1 i) x0).set 19 (ad 19, .inl (zcI G, 12, .inl (upd (fun j => nI (zfilN (σ.2.1 4) i (zLayV σ 0 1) j)) i (nI (zLayV σ 0 1 i)))))
        rw [zfilN_s]
        rfl
    refine a_aload_3 (pc := 66) dX5_lay_66 ?_
    refine a_iload_6 (pc := 67) dX5_lay_67 ?_
    refine cV_P (ad := ad) (q0 := 26) (S2 := sX3_has) (c_has l G (zpk ad [26, 27]) (σ.2.2.2 1) (σ.2.2.1 1) (nI i)) kc_X3_has km_X5_217 ki_X3_has kv_X3_has kini_X3 ⟨kn_X3_has, by decide, by decide⟩ (pc := 69) dX5_lay_69 [26, 27] rfl rfl rfl rfl (Nat.le_of_ble_eq_true rfl) rfl rfl rfl ?_
    first | refine a_if_eqB (tgt := 85) (pc := 72) dX5_lay_72 (by decide) (fun c_72 => ?_) (fun c_72 => ?_) | refine a_if_eq (tgt := 85) (pc := 72) dX5_lay_72 (by decide) (fun c_72 => ?_) (fun c_72 => ?_)
    · refine a_iconst (v := 0) (pc := 85) dX5_lay_85 (by decide) ?_
      first | exact J86_ _ (if_pos c_72).symm | exact J86_ _ (if_neg c_72).symm
    · refine a_aload_3 (pc := 75) dX5_lay_75 ?_
      refine a_getfN (ci := 3) (j := 0) rfl win_X3 (by decide) (pc := 76) dX5_lay_76 kf_X5_220 rfl rfl ?_
      refine a_iload_6 (pc := 79) dX5_lay_79 ?_
      refine a_saldN (pc := 81) dX5_lay_81 rfl (by omega) (by decide) ?_
      refine a_goto (tgt := 86) (pc := 82) dX5_lay_82 (by decide) ?_
      first | exact J86_ _ (if_pos c_72).symm | exact J86_ _ (if_neg c_72).symm

set_option maxRecDepth 100000 in
set_option maxHeartbeats 4000000 in
theorem lp_lay10 (l : Launch) (G : zG) (ad : Nat → Nat) (σ : zσ) (x0 : zX) : ∀ (q i : Nat), i + q = 12 → AV l G sX5_lay (wP G ad σ x0) (zPost G ad ((if (12 : Int32) < σ.2.2.1 0 then 12 else σ.2.2.1 0).toInt64, zLayσ σ 1 0 12)) 59 [some (.ref (ad 0)), some (.int 1), some (.int 0), some (.ref (ad 24)), some (.ref (ad 20)), some (.int (zMost 1)), some (.int (nI i)), none] [] (wP G ad (zLayσ σ 1 0 i) x0) := by
  intro q_
  induction q_ using Nat.strongRecOn
  rename_i q_ ih_
  intro i hq_
  refine a_iload_6 (pc := 59) dX5_lay_59 ?_
  refine a_bipush (v := 12) (pc := 61) dX5_lay_61 (by decide) ?_
  refine a_icmp_ge (tgt := 116) (pc := 63) dX5_lay_63 (by decide) (fun c_63 => ?_) (fun c_63 => ?_)
  · obtain rfl : i = 12 := by have := (zI_le (a := 12) (b := i) (by decide) (by omega)).mp c_63; omega
    refine a_aload_3 (pc := 116) dX5_lay_116 ?_
    refine a_getfN (ci := 3) (j := 1) rfl win_X3 (by decide) (pc := 117) dX5_lay_117 kf_X5_224 rfl rfl ?_
    refine a_bipush (v := 12) (pc := 120) dX5_lay_120 (by decide) ?_
    refine a_minI (pc := 122) dX5_lay_122 km_X5_227 (by decide) (Nat.le_of_ble_eq_true rfl) ?_
    refine a_i2l (pc := 125) dX5_lay_125 ?_
    exact a_lret (pc := 126) dX5_lay_126 rfl rfl (zret' x0 rfl rfl)
  · have hi_ : i < 12 := by have := mt (zI_le (a := 12) (b := i) (by decide) (by omega)).mpr c_63; omega
    have J86_ : ∀ x_ : Int32, x_ = zLay1 σ 0 i → AV l G sX5_lay (wP G ad σ x0) (zPost G ad ((if (12 : Int32) < σ.2.2.1 0 then 12 else σ.2.2.1 0).toInt64, zLayσ σ 1 0 12)) 86 [some (.ref (ad 0)), some (.int 1), some (.int 0), some (.ref (ad 24)), some (.ref (ad 20)), some (.int (zMost 1)), some (.int (nI i)), none] [.int x_] (wP G ad (zLayσ σ 1 0 i) x0) := by
      intro x_ hx_; subst hx_
      refine a_istore_7 (pc := 86) dX5_lay_86 rfl (by decide) ?_
      refine a_aload_4 (pc := 88) dX5_lay_88 ?_
      refine a_iload_6 (pc := 90) dX5_lay_90 ?_
      refine a_iload_7 (pc := 92) dX5_lay_92 ?_
      refine a_iconst (v := 0) (pc := 94) dX5_lay_94 (by decide) ?_
      refine a_iload_5 (pc := 95) dX5_lay_95 ?_
      refine cS_P (S2 := sX5_outside) (c_outside l G _ _ _) kc_X5_outside km_X5_64 ks_X5_outside kini_X5 ⟨kn_X5_outside, by decide, by decide⟩ (pc := 97) dX5_lay_97 [] rfl rfl rfl rfl (Nat.le_of_ble_eq_true rfl) ?_
      first | refine a_if_eqB (tgt := 107) (pc := 100) dX5_lay_100 (by decide) (fun c_100 => ?_) (fun c_100 => ?_) | refine a_if_eq (tgt := 107) (pc := 100) dX5_lay_100 (by decide) (fun c_100 => ?_) (fun c_100 => ?_)
      · refine a_iload_7 (pc := 107) dX5_lay_107 ?_
        refine a_iastN (pc := 109) dX5_lay_109 rfl (by omega) (by decide) ?_
        refine a_iinc_6 (cst := 1) (pc := 110) dX5_lay_110 rfl (by decide) (by decide) ?_
        refine a_goto (tgt := 59) (pc := 113) dX5_lay_113 (by decide) ?_
        rw [← nI_succ]
        refine a_forget_7 (a_to (ih_ (q_ - 1) (by omega) (i + 1) (by omega)) rfl rfl rfl ?_)
        have hv_ := zLayV_v σ 1 0 i
        first | rw [if_pos c_100] at hv_ | rw [if_neg c_100] at hv_
        rw [← hv_]
        show wP G ad (zLayσ σ 1 0 (i + 1)) x0 = (wP G ad (zLayσ σ 1 0 i) x0).set 20 (ad 20, .inl (zcI G, 12, .inl (upd (fun j => nI (zfilN (σ.2.1 5) i (zLayV σ 1 0) j)) i (nI (zLayV σ 1 0 i)))))
        rw [zfilN_s]
        rfl
      · refine a_iconst (v := 0) (pc := 103) dX5_lay_103 (by decide) ?_
        refine a_goto (tgt := 109) (pc := 104) dX5_lay_104 (by decide) ?_
        refine a_iastN (pc := 109) dX5_lay_109 rfl (by omega) (by decide) ?_
        refine a_iinc_6 (cst := 1) (pc := 110) dX5_lay_110 rfl (by decide) (by decide) ?_
        refine a_goto (tgt := 59) (pc := 113) dX5_lay_113 (by decide) ?_
        rw [← nI_succ]
        refine a_forget_7 (a_to (ih_ (q_ - 1) (by omega) (i + 1) (by omega)) rfl rfl rfl ?_)
        have hv_ := zLayV_v σ 1 0 i
        first | rw [if_pos c_100] at hv_ | rw [if_neg c_100] at hv_
        rw [← hv_]
        show wP G ad (zLayσ σ 1 0 (i + 1)) x0 = (wP G ad (zLayσ σ 1 0 i) x0).set 20 (ad 20, .inl (zcI G, 12, .inl (upd (fun j => nI (zfilN (σ.2.1 5) i (zLayV σ 1 0) j)) i (nI (zLayV σ 1 0 i)))))
        rw [zfilN_s]
        rfl
    refine a_aload_3 (pc := 66) dX5_lay_66 ?_
    refine a_iload_6 (pc := 67) dX5_lay_67 ?_
    refine cV_P (ad := ad) (q0 := 24) (S2 := sX3_has) (c_has l G (zpk ad [24, 25]) (σ.2.2.2 0) (σ.2.2.1 0) (nI i)) kc_X3_has km_X5_217 ki_X3_has kv_X3_has kini_X3 ⟨kn_X3_has, by decide, by decide⟩ (pc := 69) dX5_lay_69 [24, 25] rfl rfl rfl rfl (Nat.le_of_ble_eq_true rfl) rfl rfl rfl ?_
    first | refine a_if_eqB (tgt := 85) (pc := 72) dX5_lay_72 (by decide) (fun c_72 => ?_) (fun c_72 => ?_) | refine a_if_eq (tgt := 85) (pc := 72) dX5_lay_72 (by decide) (fun c_72 => ?_) (fun c_72 => ?_)
    · refine a_iconst (v := 0) (pc := 85) dX5_lay_85 (by decide) ?_
      first | exact J86_ _ (if_pos c_72).symm | exact J86_ _ (if_neg c_72).symm
    · refine a_aload_3 (pc := 75) dX5_lay_75 ?_
      refine a_getfN (ci := 3) (j := 0) rfl win_X3 (by decide) (pc := 76) dX5_lay_76 kf_X5_220 rfl rfl ?_
      refine a_iload_6 (pc := 79) dX5_lay_79 ?_
      refine a_saldN (pc := 81) dX5_lay_81 rfl (by omega) (by decide) ?_
      refine a_goto (tgt := 86) (pc := 82) dX5_lay_82 (by decide) ?_
      first | exact J86_ _ (if_pos c_72).symm | exact J86_ _ (if_neg c_72).symm

set_option maxRecDepth 100000 in
set_option maxHeartbeats 4000000 in
theorem lp_lay11 (l : Launch) (G : zG) (ad : Nat → Nat) (σ : zσ) (x0 : zX) : ∀ (q i : Nat), i + q = 12 → AV l G sX5_lay (wP G ad σ x0) (zPost G ad ((if (12 : Int32) < σ.2.2.1 1 then 12 else σ.2.2.1 1).toInt64, zLayσ σ 1 1 12)) 59 [some (.ref (ad 0)), some (.int 1), some (.int 1), some (.ref (ad 26)), some (.ref (ad 20)), some (.int (zMost 1)), some (.int (nI i)), none] [] (wP G ad (zLayσ σ 1 1 i) x0) := by
  intro q_
  induction q_ using Nat.strongRecOn
  rename_i q_ ih_
  intro i hq_
  refine a_iload_6 (pc := 59) dX5_lay_59 ?_
  refine a_bipush (v := 12) (pc := 61) dX5_lay_61 (by decide) ?_
  refine a_icmp_ge (tgt := 116) (pc := 63) dX5_lay_63 (by decide) (fun c_63 => ?_) (fun c_63 => ?_)
  · obtain rfl : i = 12 := by have := (zI_le (a := 12) (b := i) (by decide) (by omega)).mp c_63; omega
    refine a_aload_3 (pc := 116) dX5_lay_116 ?_
    refine a_getfN (ci := 3) (j := 1) rfl win_X3 (by decide) (pc := 117) dX5_lay_117 kf_X5_224 rfl rfl ?_
    refine a_bipush (v := 12) (pc := 120) dX5_lay_120 (by decide) ?_
    refine a_minI (pc := 122) dX5_lay_122 km_X5_227 (by decide) (Nat.le_of_ble_eq_true rfl) ?_
    refine a_i2l (pc := 125) dX5_lay_125 ?_
    exact a_lret (pc := 126) dX5_lay_126 rfl rfl (zret' x0 rfl rfl)
  · have hi_ : i < 12 := by have := mt (zI_le (a := 12) (b := i) (by decide) (by omega)).mpr c_63; omega
    have J86_ : ∀ x_ : Int32, x_ = zLay1 σ 1 i → AV l G sX5_lay (wP G ad σ x0) (zPost G ad ((if (12 : Int32) < σ.2.2.1 1 then 12 else σ.2.2.1 1).toInt64, zLayσ σ 1 1 12)) 86 [some (.ref (ad 0)), some (.int 1), some (.int 1), some (.ref (ad 26)), some (.ref (ad 20)), some (.int (zMost 1)), some (.int (nI i)), none] [.int x_] (wP G ad (zLayσ σ 1 1 i) x0) := by
      intro x_ hx_; subst hx_
      refine a_istore_7 (pc := 86) dX5_lay_86 rfl (by decide) ?_
      refine a_aload_4 (pc := 88) dX5_lay_88 ?_
      refine a_iload_6 (pc := 90) dX5_lay_90 ?_
      refine a_iload_7 (pc := 92) dX5_lay_92 ?_
      refine a_iconst (v := 0) (pc := 94) dX5_lay_94 (by decide) ?_
      refine a_iload_5 (pc := 95) dX5_lay_95 ?_
      refine cS_P (S2 := sX5_outside) (c_outside l G _ _ _) kc_X5_outside km_X5_64 ks_X5_outside kini_X5 ⟨kn_X5_outside, by decide, by decide⟩ (pc := 97) dX5_lay_97 [] rfl rfl rfl rfl (Nat.le_of_ble_eq_true rfl) ?_
      first | refine a_if_eqB (tgt := 107) (pc := 100) dX5_lay_100 (by decide) (fun c_100 => ?_) (fun c_100 => ?_) | refine a_if_eq (tgt := 107) (pc := 100) dX5_lay_100 (by decide) (fun c_100 => ?_) (fun c_100 => ?_)
      · refine a_iload_7 (pc := 107) dX5_lay_107 ?_
        refine a_iastN (pc := 109) dX5_lay_109 rfl (by omega) (by decide) ?_
        refine a_iinc_6 (cst := 1) (pc := 110) dX5_lay_110 rfl (by decide) (by decide) ?_
        refine a_goto (tgt := 59) (pc := 113) dX5_lay_113 (by decide) ?_
        rw [← nI_succ]
        refine a_forget_7 (a_to (ih_ (q_ - 1) (by omega) (i + 1) (by omega)) rfl rfl rfl ?_)
        have hv_ := zLayV_v σ 1 1 i
        first | rw [if_pos c_100] at hv_ | rw [if_neg c_100] at hv_
        rw [← hv_]
        show wP G ad (zLayσ σ 1 1 (i + 1)) x0 = (wP G ad (zLayσ σ 1 1 i) x0).set 20 (ad 20, .inl (zcI G, 12, .inl (upd (fun j => nI (zfilN (σ.2.1 5) i (zLayV σ 1 1) j)) i (nI (zLayV σ 1 1 i)))))
        rw [zfilN_s]
        rfl
      · refine a_iconst (v := 0) (pc := 103) dX5_lay_103 (by decide) ?_
        refine a_goto (tgt := 109) (pc := 104) dX5_lay_104 (by decide) ?_
        refine a_iastN (pc := 109) dX5_lay_109 rfl (by omega) (by decide) ?_
        refine a_iinc_6 (cst := 1) (pc := 110) dX5_lay_110 rfl (by decide) (by decide) ?_
        refine a_goto (tgt := 59) (pc := 113) dX5_lay_113 (by decide) ?_
        rw [← nI_succ]
        refine a_forget_7 (a_to (ih_ (q_ - 1) (by omega) (i + 1) (by omega)) rfl rfl rfl ?_)
        have hv_ := zLayV_v σ 1 1 i
        first | rw [if_pos c_100] at hv_ | rw [if_neg c_100] at hv_
        rw [← hv_]
        show wP G ad (zLayσ σ 1 1 (i + 1)) x0 = (wP G ad (zLayσ σ 1 1 i) x0).set 20 (ad 20, .inl (zcI G, 12, .inl (upd (fun j => nI (zfilN (σ.2.1 5) i (zLayV σ 1 1) j)) i (nI (zLayV σ 1 1 i)))))
        rw [zfilN_s]
        rfl
    refine a_aload_3 (pc := 66) dX5_lay_66 ?_
    refine a_iload_6 (pc := 67) dX5_lay_67 ?_
    refine cV_P (ad := ad) (q0 := 26) (S2 := sX3_has) (c_has l G (zpk ad [26, 27]) (σ.2.2.2 1) (σ.2.2.1 1) (nI i)) kc_X3_has km_X5_217 ki_X3_has kv_X3_has kini_X3 ⟨kn_X3_has, by decide, by decide⟩ (pc := 69) dX5_lay_69 [26, 27] rfl rfl rfl rfl (Nat.le_of_ble_eq_true rfl) rfl rfl rfl ?_
    first | refine a_if_eqB (tgt := 85) (pc := 72) dX5_lay_72 (by decide) (fun c_72 => ?_) (fun c_72 => ?_) | refine a_if_eq (tgt := 85) (pc := 72) dX5_lay_72 (by decide) (fun c_72 => ?_) (fun c_72 => ?_)
    · refine a_iconst (v := 0) (pc := 85) dX5_lay_85 (by decide) ?_
      first | exact J86_ _ (if_pos c_72).symm | exact J86_ _ (if_neg c_72).symm
    · refine a_aload_3 (pc := 75) dX5_lay_75 ?_
      refine a_getfN (ci := 3) (j := 0) rfl win_X3 (by decide) (pc := 76) dX5_lay_76 kf_X5_220 rfl rfl ?_
      refine a_iload_6 (pc := 79) dX5_lay_79 ?_
      refine a_saldN (pc := 81) dX5_lay_81 rfl (by omega) (by decide) ?_
      refine a_goto (tgt := 86) (pc := 82) dX5_lay_82 (by decide) ?_
      first | exact J86_ _ (if_pos c_72).symm | exact J86_ _ (if_neg c_72).symm

set_option maxRecDepth 100000 in
set_option maxHeartbeats 4000000 in
theorem p_lay (l : Launch) (G : zG) (ad : Nat → Nat) (σ : zσ) (x0 : zX) (hσ : zOk σ) (w : Int32) (s : Int32) : zSem l G sX5_lay [.ref (ad 0), .int w, .int s] (wP G ad σ x0) (zPost G ad (o_lay σ w s)) := by
  refine zEnterV (L := [some (.ref (ad 0)), some (.int w), some (.int s), none, none, none, none, none]) (by decide) rfl (Nat.le_of_ble_eq_true rfl) rfl ?_
  refine a_iload_1 (pc := 0) dX5_lay_0 ?_
  refine a_iconst (v := 0) (pc := 1) dX5_lay_1 (by decide) ?_
  refine a_iconst (v := 1) (pc := 2) dX5_lay_2 (by decide) ?_
  refine cS_P (S2 := sX5_outside) (c_outside l G _ _ _) kc_X5_outside km_X5_64 ks_X5_outside kini_X5 ⟨kn_X5_outside, by decide, by decide⟩ (pc := 3) dX5_lay_3 [] rfl rfl rfl rfl (Nat.le_of_ble_eq_true rfl) ?_
  first | refine a_if_neB (tgt := 18) (pc := 6) dX5_lay_6 (by decide) (fun c_6 => ?_) (fun c_6 => ?_) | refine a_if_ne (tgt := 18) (pc := 6) dX5_lay_6 (by decide) (fun c_6 => ?_) (fun c_6 => ?_)
  · refine a_ldc2 (pc := 18) dX5_lay_18 kl_X5_68 ?_
    exact a_lret (pc := 21) dX5_lay_21 rfl rfl (by first | exact zret' x0 (if_pos (Or.inl c_6)) rfl | exact zret' x0 (if_pos (Or.inr c_15)) rfl)
  · refine a_iload_2 (pc := 9) dX5_lay_9 ?_
    refine a_iconst (v := 0) (pc := 10) dX5_lay_10 (by decide) ?_
    refine a_iconst (v := 1) (pc := 11) dX5_lay_11 (by decide) ?_
    refine cS_P (S2 := sX5_outside) (c_outside l G _ _ _) kc_X5_outside km_X5_64 ks_X5_outside kini_X5 ⟨kn_X5_outside, by decide, by decide⟩ (pc := 12) dX5_lay_12 [] rfl rfl rfl rfl (Nat.le_of_ble_eq_true rfl) ?_
    first | refine a_if_eqB (tgt := 22) (pc := 15) dX5_lay_15 (by decide) (fun c_15 => ?_) (fun c_15 => ?_) | refine a_if_eq (tgt := 22) (pc := 15) dX5_lay_15 (by decide) (fun c_15 => ?_) (fun c_15 => ?_)
    · rcases zrange2 c_6 with rfl | rfl <;> rcases zrange2 c_15 with rfl | rfl
      · refine a_aload_0 (pc := 22) dX5_lay_22 ?_
        refine a_getf (ci := 5) (j := 6) rfl win_X5 (by decide) (pc := 23) dX5_lay_23 kf_X5_47 rfl rfl ?_
        refine a_iload_2 (pc := 26) dX5_lay_26 ?_
        refine a_aaldN (k := 0) (pc := 27) dX5_lay_27 rfl (by decide) (by decide) rfl ?_
        refine a_astore_3 (pc := 28) dX5_lay_28 rfl (by decide) ?_
        refine a_aload_3 (pc := 29) dX5_lay_29 ?_
        first
          | refine cV_P (ad := ad) (q0 := 24) (S2 := sX3_isMissing) (c_isMissing l G (zpk ad [24, 25]) (σ.2.2.2 0) (σ.2.2.1 0)) kc_X3_isMissing km_X5_211 ki_X3_isMissing kv_X3_isMissing kini_X3 ⟨kn_X3_isMissing, by decide, by decide⟩ (pc := 30) dX5_lay_30 [24, 25] rfl rfl rfl rfl (Nat.le_of_ble_eq_true rfl) rfl rfl rfl ?_
          | refine cV_P (ad := ad) (q0 := 26) (S2 := sX3_isMissing) (c_isMissing l G (zpk ad [26, 27]) (σ.2.2.2 1) (σ.2.2.1 1)) kc_X3_isMissing km_X5_211 ki_X3_isMissing kv_X3_isMissing kini_X3 ⟨kn_X3_isMissing, by decide, by decide⟩ (pc := 30) dX5_lay_30 [26, 27] rfl rfl rfl rfl (Nat.le_of_ble_eq_true rfl) rfl rfl rfl ?_
        first | refine a_if_eqB (tgt := 40) (pc := 33) dX5_lay_33 (by decide) (fun c_33 => ?_) (fun c_33 => ?_) | refine a_if_eq (tgt := 40) (pc := 33) dX5_lay_33 (by decide) (fun c_33 => ?_) (fun c_33 => ?_)
        · refine a_aload_0 (pc := 40) dX5_lay_40 ?_
          refine a_getf (ci := 5) (j := 5) rfl win_X5 (by decide) (pc := 41) dX5_lay_41 kf_X5_40 rfl rfl ?_
          refine a_iload_1 (pc := 44) dX5_lay_44 ?_
          first
            | refine cV_P (ad := ad) (q0 := 18) (S2 := sX1_rowOf) (c_rowOf0 l G (zpk ad [18, 19, 20, 21, 22]) (fun k => nI (σ.2.1 4 k)) (fun k => nI (σ.2.1 5 k)) x0.2.2.2.2.2.2.1 x0.2.2.2.2.2.2.2 0 rfl) kc_X1_rowOf km_X5_207 ki_X1_rowOf kv_X1_rowOf kini_X1 ⟨kn_X1_rowOf, by decide, by decide⟩ (pc := 45) dX5_lay_45 [18, 19, 20, 21, 22] rfl rfl rfl rfl (Nat.le_of_ble_eq_true rfl) rfl rfl rfl ?_
            | refine cV_P (ad := ad) (q0 := 18) (S2 := sX1_rowOf) (c_rowOf1 l G (zpk ad [18, 19, 20, 21, 22]) (fun k => nI (σ.2.1 4 k)) (fun k => nI (σ.2.1 5 k)) x0.2.2.2.2.2.2.1 x0.2.2.2.2.2.2.2 1 (by decide)) kc_X1_rowOf km_X5_207 ki_X1_rowOf kv_X1_rowOf kini_X1 ⟨kn_X1_rowOf, by decide, by decide⟩ (pc := 45) dX5_lay_45 [18, 19, 20, 21, 22] rfl rfl rfl rfl (Nat.le_of_ble_eq_true rfl) rfl rfl rfl ?_
          simp only [zpk, List.getD_cons_succ, List.getD_cons_zero]
          refine a_astore_4 (pc := 48) dX5_lay_48 rfl (by decide) ?_
          refine a_iload_1 (pc := 50) dX5_lay_50 ?_
          refine cS_P (S2 := sX1_mostOf) (c_mostOf l G _) kc_X1_mostOf km_X5_204 ks_X1_mostOf kini_X1 ⟨kn_X1_mostOf, by decide, by decide⟩ (pc := 51) dX5_lay_51 [] rfl rfl rfl rfl (Nat.le_of_ble_eq_true rfl) ?_
          refine a_istore_5 (pc := 54) dX5_lay_54 rfl (by decide) ?_
          refine a_iconst (v := 0) (pc := 56) dX5_lay_56 (by decide) ?_
          refine a_istore_6 (pc := 57) dX5_lay_57 rfl (by decide) ?_
          first
            | (have e_ : o_lay σ 0 0 = ((if (12 : Int32) < σ.2.2.1 0 then 12 else σ.2.2.1 0).toInt64, zLayσ σ 0 0 12) := by
                 unfold o_lay
                 rw [if_neg (fun h => h.elim c_6 c_15)]
                 exact if_neg c_33
               rw [e_]
               exact a_to (lp_lay00 l G ad σ x0 12 0 (by omega)) rfl rfl rfl (by unfold zLayσ; rw [zfilN_0, zu2_self]))
            | (have e_ : o_lay σ 0 1 = ((if (12 : Int32) < σ.2.2.1 1 then 12 else σ.2.2.1 1).toInt64, zLayσ σ 0 1 12) := by
                 unfold o_lay
                 rw [if_neg (fun h => h.elim c_6 c_15)]
                 exact if_neg c_33
               rw [e_]
               exact a_to (lp_lay01 l G ad σ x0 12 0 (by omega)) rfl rfl rfl (by unfold zLayσ; rw [zfilN_0, zu2_self]))
            | (have e_ : o_lay σ 1 0 = ((if (12 : Int32) < σ.2.2.1 0 then 12 else σ.2.2.1 0).toInt64, zLayσ σ 1 0 12) := by
                 unfold o_lay
                 rw [if_neg (fun h => h.elim c_6 c_15)]
                 exact if_neg c_33
               rw [e_]
               exact a_to (lp_lay10 l G ad σ x0 12 0 (by omega)) rfl rfl rfl (by unfold zLayσ; rw [zfilN_0, zu2_self]))
            | (have e_ : o_lay σ 1 1 = ((if (12 : Int32) < σ.2.2.1 1 then 12 else σ.2.2.1 1).toInt64, zLayσ σ 1 1 12) := by
                 unfold o_lay
                 rw [if_neg (fun h => h.elim c_6 c_15)]
                 exact if_neg c_33
               rw [e_]
               exact a_to (lp_lay11 l G ad σ x0 12 0 (by omega)) rfl rfl rfl (by unfold zLayσ; rw [zfilN_0, zu2_self]))
        · refine a_ldc2 (pc := 36) dX5_lay_36 kl_X5_215 ?_
          exact a_lret (pc := 39) dX5_lay_39 rfl rfl (zret' x0 (by unfold o_lay; rw [if_neg (fun h => h.elim c_6 c_15)]; exact if_pos c_33) rfl)
      · refine a_aload_0 (pc := 22) dX5_lay_22 ?_
        refine a_getf (ci := 5) (j := 6) rfl win_X5 (by decide) (pc := 23) dX5_lay_23 kf_X5_47 rfl rfl ?_
        refine a_iload_2 (pc := 26) dX5_lay_26 ?_
        refine a_aaldN (k := 1) (pc := 27) dX5_lay_27 rfl (by decide) (by decide) rfl ?_
        refine a_astore_3 (pc := 28) dX5_lay_28 rfl (by decide) ?_
        refine a_aload_3 (pc := 29) dX5_lay_29 ?_
        first
          | refine cV_P (ad := ad) (q0 := 24) (S2 := sX3_isMissing) (c_isMissing l G (zpk ad [24, 25]) (σ.2.2.2 0) (σ.2.2.1 0)) kc_X3_isMissing km_X5_211 ki_X3_isMissing kv_X3_isMissing kini_X3 ⟨kn_X3_isMissing, by decide, by decide⟩ (pc := 30) dX5_lay_30 [24, 25] rfl rfl rfl rfl (Nat.le_of_ble_eq_true rfl) rfl rfl rfl ?_
          | refine cV_P (ad := ad) (q0 := 26) (S2 := sX3_isMissing) (c_isMissing l G (zpk ad [26, 27]) (σ.2.2.2 1) (σ.2.2.1 1)) kc_X3_isMissing km_X5_211 ki_X3_isMissing kv_X3_isMissing kini_X3 ⟨kn_X3_isMissing, by decide, by decide⟩ (pc := 30) dX5_lay_30 [26, 27] rfl rfl rfl rfl (Nat.le_of_ble_eq_true rfl) rfl rfl rfl ?_
        first | refine a_if_eqB (tgt := 40) (pc := 33) dX5_lay_33 (by decide) (fun c_33 => ?_) (fun c_33 => ?_) | refine a_if_eq (tgt := 40) (pc := 33) dX5_lay_33 (by decide) (fun c_33 => ?_) (fun c_33 => ?_)
        · refine a_aload_0 (pc := 40) dX5_lay_40 ?_
          refine a_getf (ci := 5) (j := 5) rfl win_X5 (by decide) (pc := 41) dX5_lay_41 kf_X5_40 rfl rfl ?_
          refine a_iload_1 (pc := 44) dX5_lay_44 ?_
          first
            | refine cV_P (ad := ad) (q0 := 18) (S2 := sX1_rowOf) (c_rowOf0 l G (zpk ad [18, 19, 20, 21, 22]) (fun k => nI (σ.2.1 4 k)) (fun k => nI (σ.2.1 5 k)) x0.2.2.2.2.2.2.1 x0.2.2.2.2.2.2.2 0 rfl) kc_X1_rowOf km_X5_207 ki_X1_rowOf kv_X1_rowOf kini_X1 ⟨kn_X1_rowOf, by decide, by decide⟩ (pc := 45) dX5_lay_45 [18, 19, 20, 21, 22] rfl rfl rfl rfl (Nat.le_of_ble_eq_true rfl) rfl rfl rfl ?_
            | refine cV_P (ad := ad) (q0 := 18) (S2 := sX1_rowOf) (c_rowOf1 l G (zpk ad [18, 19, 20, 21, 22]) (fun k => nI (σ.2.1 4 k)) (fun k => nI (σ.2.1 5 k)) x0.2.2.2.2.2.2.1 x0.2.2.2.2.2.2.2 1 (by decide)) kc_X1_rowOf km_X5_207 ki_X1_rowOf kv_X1_rowOf kini_X1 ⟨kn_X1_rowOf, by decide, by decide⟩ (pc := 45) dX5_lay_45 [18, 19, 20, 21, 22] rfl rfl rfl rfl (Nat.le_of_ble_eq_true rfl) rfl rfl rfl ?_
          simp only [zpk, List.getD_cons_succ, List.getD_cons_zero]
          refine a_astore_4 (pc := 48) dX5_lay_48 rfl (by decide) ?_
          refine a_iload_1 (pc := 50) dX5_lay_50 ?_
          refine cS_P (S2 := sX1_mostOf) (c_mostOf l G _) kc_X1_mostOf km_X5_204 ks_X1_mostOf kini_X1 ⟨kn_X1_mostOf, by decide, by decide⟩ (pc := 51) dX5_lay_51 [] rfl rfl rfl rfl (Nat.le_of_ble_eq_true rfl) ?_
          refine a_istore_5 (pc := 54) dX5_lay_54 rfl (by decide) ?_
          refine a_iconst (v := 0) (pc := 56) dX5_lay_56 (by decide) ?_
          refine a_istore_6 (pc := 57) dX5_lay_57 rfl (by decide) ?_
          first
            | (have e_ : o_lay σ 0 0 = ((if (12 : Int32) < σ.2.2.1 0 then 12 else σ.2.2.1 0).toInt64, zLayσ σ 0 0 12) := by
                 unfold o_lay
                 rw [if_neg (fun h => h.elim c_6 c_15)]
                 exact if_neg c_33
               rw [e_]
               exact a_to (lp_lay00 l G ad σ x0 12 0 (by omega)) rfl rfl rfl (by unfold zLayσ; rw [zfilN_0, zu2_self]))
            | (have e_ : o_lay σ 0 1 = ((if (12 : Int32) < σ.2.2.1 1 then 12 else σ.2.2.1 1).toInt64, zLayσ σ 0 1 12) := by
                 unfold o_lay
                 rw [if_neg (fun h => h.elim c_6 c_15)]
                 exact if_neg c_33
               rw [e_]
               exact a_to (lp_lay01 l G ad σ x0 12 0 (by omega)) rfl rfl rfl (by unfold zLayσ; rw [zfilN_0, zu2_self]))
            | (have e_ : o_lay σ 1 0 = ((if (12 : Int32) < σ.2.2.1 0 then 12 else σ.2.2.1 0).toInt64, zLayσ σ 1 0 12) := by
                 unfold o_lay
                 rw [if_neg (fun h => h.elim c_6 c_15)]
                 exact if_neg c_33
               rw [e_]
               exact a_to (lp_lay10 l G ad σ x0 12 0 (by omega)) rfl rfl rfl (by unfold zLayσ; rw [zfilN_0, zu2_self]))
            | (have e_ : o_lay σ 1 1 = ((if (12 : Int32) < σ.2.2.1 1 then 12 else σ.2.2.1 1).toInt64, zLayσ σ 1 1 12) := by
                 unfold o_lay
                 rw [if_neg (fun h => h.elim c_6 c_15)]
                 exact if_neg c_33
               rw [e_]
               exact a_to (lp_lay11 l G ad σ x0 12 0 (by omega)) rfl rfl rfl (by unfold zLayσ; rw [zfilN_0, zu2_self]))
        · refine a_ldc2 (pc := 36) dX5_lay_36 kl_X5_215 ?_
          exact a_lret (pc := 39) dX5_lay_39 rfl rfl (zret' x0 (by unfold o_lay; rw [if_neg (fun h => h.elim c_6 c_15)]; exact if_pos c_33) rfl)
      · refine a_aload_0 (pc := 22) dX5_lay_22 ?_
        refine a_getf (ci := 5) (j := 6) rfl win_X5 (by decide) (pc := 23) dX5_lay_23 kf_X5_47 rfl rfl ?_
        refine a_iload_2 (pc := 26) dX5_lay_26 ?_
        refine a_aaldN (k := 0) (pc := 27) dX5_lay_27 rfl (by decide) (by decide) rfl ?_
        refine a_astore_3 (pc := 28) dX5_lay_28 rfl (by decide) ?_
        refine a_aload_3 (pc := 29) dX5_lay_29 ?_
        first
          | refine cV_P (ad := ad) (q0 := 24) (S2 := sX3_isMissing) (c_isMissing l G (zpk ad [24, 25]) (σ.2.2.2 0) (σ.2.2.1 0)) kc_X3_isMissing km_X5_211 ki_X3_isMissing kv_X3_isMissing kini_X3 ⟨kn_X3_isMissing, by decide, by decide⟩ (pc := 30) dX5_lay_30 [24, 25] rfl rfl rfl rfl (Nat.le_of_ble_eq_true rfl) rfl rfl rfl ?_
          | refine cV_P (ad := ad) (q0 := 26) (S2 := sX3_isMissing) (c_isMissing l G (zpk ad [26, 27]) (σ.2.2.2 1) (σ.2.2.1 1)) kc_X3_isMissing km_X5_211 ki_X3_isMissing kv_X3_isMissing kini_X3 ⟨kn_X3_isMissing, by decide, by decide⟩ (pc := 30) dX5_lay_30 [26, 27] rfl rfl rfl rfl (Nat.le_of_ble_eq_true rfl) rfl rfl rfl ?_
        first | refine a_if_eqB (tgt := 40) (pc := 33) dX5_lay_33 (by decide) (fun c_33 => ?_) (fun c_33 => ?_) | refine a_if_eq (tgt := 40) (pc := 33) dX5_lay_33 (by decide) (fun c_33 => ?_) (fun c_33 => ?_)
        · refine a_aload_0 (pc := 40) dX5_lay_40 ?_
          refine a_getf (ci := 5) (j := 5) rfl win_X5 (by decide) (pc := 41) dX5_lay_41 kf_X5_40 rfl rfl ?_
          refine a_iload_1 (pc := 44) dX5_lay_44 ?_
          first
            | refine cV_P (ad := ad) (q0 := 18) (S2 := sX1_rowOf) (c_rowOf0 l G (zpk ad [18, 19, 20, 21, 22]) (fun k => nI (σ.2.1 4 k)) (fun k => nI (σ.2.1 5 k)) x0.2.2.2.2.2.2.1 x0.2.2.2.2.2.2.2 0 rfl) kc_X1_rowOf km_X5_207 ki_X1_rowOf kv_X1_rowOf kini_X1 ⟨kn_X1_rowOf, by decide, by decide⟩ (pc := 45) dX5_lay_45 [18, 19, 20, 21, 22] rfl rfl rfl rfl (Nat.le_of_ble_eq_true rfl) rfl rfl rfl ?_
            | refine cV_P (ad := ad) (q0 := 18) (S2 := sX1_rowOf) (c_rowOf1 l G (zpk ad [18, 19, 20, 21, 22]) (fun k => nI (σ.2.1 4 k)) (fun k => nI (σ.2.1 5 k)) x0.2.2.2.2.2.2.1 x0.2.2.2.2.2.2.2 1 (by decide)) kc_X1_rowOf km_X5_207 ki_X1_rowOf kv_X1_rowOf kini_X1 ⟨kn_X1_rowOf, by decide, by decide⟩ (pc := 45) dX5_lay_45 [18, 19, 20, 21, 22] rfl rfl rfl rfl (Nat.le_of_ble_eq_true rfl) rfl rfl rfl ?_
          simp only [zpk, List.getD_cons_succ, List.getD_cons_zero]
          refine a_astore_4 (pc := 48) dX5_lay_48 rfl (by decide) ?_
          refine a_iload_1 (pc := 50) dX5_lay_50 ?_
          refine cS_P (S2 := sX1_mostOf) (c_mostOf l G _) kc_X1_mostOf km_X5_204 ks_X1_mostOf kini_X1 ⟨kn_X1_mostOf, by decide, by decide⟩ (pc := 51) dX5_lay_51 [] rfl rfl rfl rfl (Nat.le_of_ble_eq_true rfl) ?_
          refine a_istore_5 (pc := 54) dX5_lay_54 rfl (by decide) ?_
          refine a_iconst (v := 0) (pc := 56) dX5_lay_56 (by decide) ?_
          refine a_istore_6 (pc := 57) dX5_lay_57 rfl (by decide) ?_
          first
            | (have e_ : o_lay σ 0 0 = ((if (12 : Int32) < σ.2.2.1 0 then 12 else σ.2.2.1 0).toInt64, zLayσ σ 0 0 12) := by
                 unfold o_lay
                 rw [if_neg (fun h => h.elim c_6 c_15)]
                 exact if_neg c_33
               rw [e_]
               exact a_to (lp_lay00 l G ad σ x0 12 0 (by omega)) rfl rfl rfl (by unfold zLayσ; rw [zfilN_0, zu2_self]))
            | (have e_ : o_lay σ 0 1 = ((if (12 : Int32) < σ.2.2.1 1 then 12 else σ.2.2.1 1).toInt64, zLayσ σ 0 1 12) := by
                 unfold o_lay
                 rw [if_neg (fun h => h.elim c_6 c_15)]
                 exact if_neg c_33
               rw [e_]
               exact a_to (lp_lay01 l G ad σ x0 12 0 (by omega)) rfl rfl rfl (by unfold zLayσ; rw [zfilN_0, zu2_self]))
            | (have e_ : o_lay σ 1 0 = ((if (12 : Int32) < σ.2.2.1 0 then 12 else σ.2.2.1 0).toInt64, zLayσ σ 1 0 12) := by
                 unfold o_lay
                 rw [if_neg (fun h => h.elim c_6 c_15)]
                 exact if_neg c_33
               rw [e_]
               exact a_to (lp_lay10 l G ad σ x0 12 0 (by omega)) rfl rfl rfl (by unfold zLayσ; rw [zfilN_0, zu2_self]))
            | (have e_ : o_lay σ 1 1 = ((if (12 : Int32) < σ.2.2.1 1 then 12 else σ.2.2.1 1).toInt64, zLayσ σ 1 1 12) := by
                 unfold o_lay
                 rw [if_neg (fun h => h.elim c_6 c_15)]
                 exact if_neg c_33
               rw [e_]
               exact a_to (lp_lay11 l G ad σ x0 12 0 (by omega)) rfl rfl rfl (by unfold zLayσ; rw [zfilN_0, zu2_self]))
        · refine a_ldc2 (pc := 36) dX5_lay_36 kl_X5_215 ?_
          exact a_lret (pc := 39) dX5_lay_39 rfl rfl (zret' x0 (by unfold o_lay; rw [if_neg (fun h => h.elim c_6 c_15)]; exact if_pos c_33) rfl)
      · refine a_aload_0 (pc := 22) dX5_lay_22 ?_
        refine a_getf (ci := 5) (j := 6) rfl win_X5 (by decide) (pc := 23) dX5_lay_23 kf_X5_47 rfl rfl ?_
        refine a_iload_2 (pc := 26) dX5_lay_26 ?_
        refine a_aaldN (k := 1) (pc := 27) dX5_lay_27 rfl (by decide) (by decide) rfl ?_
        refine a_astore_3 (pc := 28) dX5_lay_28 rfl (by decide) ?_
        refine a_aload_3 (pc := 29) dX5_lay_29 ?_
        first
          | refine cV_P (ad := ad) (q0 := 24) (S2 := sX3_isMissing) (c_isMissing l G (zpk ad [24, 25]) (σ.2.2.2 0) (σ.2.2.1 0)) kc_X3_isMissing km_X5_211 ki_X3_isMissing kv_X3_isMissing kini_X3 ⟨kn_X3_isMissing, by decide, by decide⟩ (pc := 30) dX5_lay_30 [24, 25] rfl rfl rfl rfl (Nat.le_of_ble_eq_true rfl) rfl rfl rfl ?_
          | refine cV_P (ad := ad) (q0 := 26) (S2 := sX3_isMissing) (c_isMissing l G (zpk ad [26, 27]) (σ.2.2.2 1) (σ.2.2.1 1)) kc_X3_isMissing km_X5_211 ki_X3_isMissing kv_X3_isMissing kini_X3 ⟨kn_X3_isMissing, by decide, by decide⟩ (pc := 30) dX5_lay_30 [26, 27] rfl rfl rfl rfl (Nat.le_of_ble_eq_true rfl) rfl rfl rfl ?_
        first | refine a_if_eqB (tgt := 40) (pc := 33) dX5_lay_33 (by decide) (fun c_33 => ?_) (fun c_33 => ?_) | refine a_if_eq (tgt := 40) (pc := 33) dX5_lay_33 (by decide) (fun c_33 => ?_) (fun c_33 => ?_)
        · refine a_aload_0 (pc := 40) dX5_lay_40 ?_
          refine a_getf (ci := 5) (j := 5) rfl win_X5 (by decide) (pc := 41) dX5_lay_41 kf_X5_40 rfl rfl ?_
          refine a_iload_1 (pc := 44) dX5_lay_44 ?_
          first
            | refine cV_P (ad := ad) (q0 := 18) (S2 := sX1_rowOf) (c_rowOf0 l G (zpk ad [18, 19, 20, 21, 22]) (fun k => nI (σ.2.1 4 k)) (fun k => nI (σ.2.1 5 k)) x0.2.2.2.2.2.2.1 x0.2.2.2.2.2.2.2 0 rfl) kc_X1_rowOf km_X5_207 ki_X1_rowOf kv_X1_rowOf kini_X1 ⟨kn_X1_rowOf, by decide, by decide⟩ (pc := 45) dX5_lay_45 [18, 19, 20, 21, 22] rfl rfl rfl rfl (Nat.le_of_ble_eq_true rfl) rfl rfl rfl ?_
            | refine cV_P (ad := ad) (q0 := 18) (S2 := sX1_rowOf) (c_rowOf1 l G (zpk ad [18, 19, 20, 21, 22]) (fun k => nI (σ.2.1 4 k)) (fun k => nI (σ.2.1 5 k)) x0.2.2.2.2.2.2.1 x0.2.2.2.2.2.2.2 1 (by decide)) kc_X1_rowOf km_X5_207 ki_X1_rowOf kv_X1_rowOf kini_X1 ⟨kn_X1_rowOf, by decide, by decide⟩ (pc := 45) dX5_lay_45 [18, 19, 20, 21, 22] rfl rfl rfl rfl (Nat.le_of_ble_eq_true rfl) rfl rfl rfl ?_
          simp only [zpk, List.getD_cons_succ, List.getD_cons_zero]
          refine a_astore_4 (pc := 48) dX5_lay_48 rfl (by decide) ?_
          refine a_iload_1 (pc := 50) dX5_lay_50 ?_
          refine cS_P (S2 := sX1_mostOf) (c_mostOf l G _) kc_X1_mostOf km_X5_204 ks_X1_mostOf kini_X1 ⟨kn_X1_mostOf, by decide, by decide⟩ (pc := 51) dX5_lay_51 [] rfl rfl rfl rfl (Nat.le_of_ble_eq_true rfl) ?_
          refine a_istore_5 (pc := 54) dX5_lay_54 rfl (by decide) ?_
          refine a_iconst (v := 0) (pc := 56) dX5_lay_56 (by decide) ?_
          refine a_istore_6 (pc := 57) dX5_lay_57 rfl (by decide) ?_
          first
            | (have e_ : o_lay σ 0 0 = ((if (12 : Int32) < σ.2.2.1 0 then 12 else σ.2.2.1 0).toInt64, zLayσ σ 0 0 12) := by
                 unfold o_lay
                 rw [if_neg (fun h => h.elim c_6 c_15)]
                 exact if_neg c_33
               rw [e_]
               exact a_to (lp_lay00 l G ad σ x0 12 0 (by omega)) rfl rfl rfl (by unfold zLayσ; rw [zfilN_0, zu2_self]))
            | (have e_ : o_lay σ 0 1 = ((if (12 : Int32) < σ.2.2.1 1 then 12 else σ.2.2.1 1).toInt64, zLayσ σ 0 1 12) := by
                 unfold o_lay
                 rw [if_neg (fun h => h.elim c_6 c_15)]
                 exact if_neg c_33
               rw [e_]
               exact a_to (lp_lay01 l G ad σ x0 12 0 (by omega)) rfl rfl rfl (by unfold zLayσ; rw [zfilN_0, zu2_self]))
            | (have e_ : o_lay σ 1 0 = ((if (12 : Int32) < σ.2.2.1 0 then 12 else σ.2.2.1 0).toInt64, zLayσ σ 1 0 12) := by
                 unfold o_lay
                 rw [if_neg (fun h => h.elim c_6 c_15)]
                 exact if_neg c_33
               rw [e_]
               exact a_to (lp_lay10 l G ad σ x0 12 0 (by omega)) rfl rfl rfl (by unfold zLayσ; rw [zfilN_0, zu2_self]))
            | (have e_ : o_lay σ 1 1 = ((if (12 : Int32) < σ.2.2.1 1 then 12 else σ.2.2.1 1).toInt64, zLayσ σ 1 1 12) := by
                 unfold o_lay
                 rw [if_neg (fun h => h.elim c_6 c_15)]
                 exact if_neg c_33
               rw [e_]
               exact a_to (lp_lay11 l G ad σ x0 12 0 (by omega)) rfl rfl rfl (by unfold zLayσ; rw [zfilN_0, zu2_self]))
        · refine a_ldc2 (pc := 36) dX5_lay_36 kl_X5_215 ?_
          exact a_lret (pc := 39) dX5_lay_39 rfl rfl (zret' x0 (by unfold o_lay; rw [if_neg (fun h => h.elim c_6 c_15)]; exact if_pos c_33) rfl)
    · refine a_ldc2 (pc := 18) dX5_lay_18 kl_X5_68 ?_
      exact a_lret (pc := 21) dX5_lay_21 rfl rfl (by first | exact zret' x0 (if_pos (Or.inl c_6)) rfl | exact zret' x0 (if_pos (Or.inr c_15)) rfl)

