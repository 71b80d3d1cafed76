/-! The plant: what is asked of the flows; copy. -/
abbrev zP0 (σ : zσ) : Int32 := nI (σ.1 3)
abbrev zCell (σ : zσ) : Nat → Nat → Int64 := zCellp σ (zP0 σ) (zMs σ)
def o_flow (σ : zσ) (x c : Int32) : Int64 × zσ := (if zPl x = none ∨ zOR c 0 4 then zBAD else if ¬ zHd (zVesf σ) (nI (σ.1 0)) ((zPl x).getD 0) then zNO else if c = 0 then zCell σ 0 ((zPl x).getD 0) else if c = 1 then zCell σ 1 ((zPl x).getD 0) else if c = 2 then zCell σ 2 ((zPl x).getD 0) else if c = 3 then zCell σ 3 ((zPl x).getD 0) else zCell σ 5 ((zPl x).getD 0), σ)
abbrev zSwW (σ : zσ) : Int64 := (nI (σ.1 1)).toInt64 - (zFin σ (zP0 σ) (zMs σ)).1
abbrev zSwG (σ : zσ) : Int64 := (nI (σ.1 1)).toInt64 * (nI (σ.1 2)).toInt64 - (zFin σ (zP0 σ) (zMs σ)).2.1
def o_sweet (σ : zσ) (c : Int32) : Int64 × zσ := (if zOR c 0 2 then zBAD else if c = 0 then zSwW σ else if c = 1 then zSwG σ else zSalt (zSwW σ) (zSwG σ), σ)
def o_brine (σ : zσ) (c : Int32) : Int64 × zσ := (if zOR c 0 2 then zBAD else if c = 0 then (zFin σ (zP0 σ) (zMs σ)).1 else if c = 1 then (zFin σ (zP0 σ) (zMs σ)).2.1 else (zFin σ (zP0 σ) (zMs σ)).2.2, σ)
def zPow (σ : zσ) (p : Int32) (W P : Int64) : Int64 := p.toInt64 * (nI (σ.1 1)).toInt64 / 100 - (nI (σ.2.1 3 2)).toInt64 * (P * W / 100) / 100
def o_power (σ : zσ) : Int64 × zσ := (zPow σ (zP0 σ) (zFin σ (zP0 σ) (zMs σ)).1 (zFin σ (zP0 σ) (zMs σ)).2.2, σ)
theorem zFf_cg {v : Nat → Int32} {n : Int32} {W T W2 T2 : Nat → Int64} {least most : Int32} (h : ∀ k, k < 72 → zHd v n k → W k = W2 k ∧ T k = T2 k) : ∀ q i, i + q = 72 → zFf v n W T least most q i = zFf v n W2 T2 least most q i
  | 0, _, _ => rfl
  | q + 1, i, hq => by
    unfold zFf
    rw [zFf_cg h q (i + 1) (by omega)]
    by_cases hd : zHd v n i
    · rw [if_pos hd, if_pos hd, (h i (by omega) hd).1, (h i (by omega) hd).2]
    · rw [if_neg hd, if_neg hd]
def o_failure (σ : zσ) : Int64 × zσ := (zFf (zVesf σ) (nI (σ.1 0)) (zCell σ 0) (zCell σ 3) (nI (σ.2.1 3 0)) (nI (σ.2.1 3 1)) 72 0, σ)
theorem zFlow_at {σ : zσ} (hσ : zOk σ) {u : zX} (hu : zFlow σ (zP0 σ) (zMs σ) u) {k : Nat} (hk : k < 72) (hd : zHd (zVesf σ) (nI (σ.1 0)) k) {a : Nat} (ha : a < 6) : u.2.2.2.2.1 a k = zCell σ a k := by
  have e := (zHd_N hσ.2.2.2.2.2.1 hσ.1.2 hk).mp hd
  exact zRows_at hu.1 hk e.1 e.2 ha
theorem zsw5 {x : Int32} (h : ¬ zOR x 0 4) : x = 0 ∨ x = 1 ∨ x = 2 ∨ x = 3 ∨ x = 4 := by
  obtain ⟨k, hk, rfl⟩ := zrange (n := 4) (by decide) rfl h
  rcases (show k = 0 ∨ k = 1 ∨ k = 2 ∨ k = 3 ∨ k = 4 by omega) with rfl | rfl | rfl | rfl | rfl
  · exact Or.inl rfl
  · exact Or.inr (Or.inl rfl)
  · exact Or.inr (Or.inr (Or.inl rfl))
  · exact Or.inr (Or.inr (Or.inr (Or.inl rfl)))
  · exact Or.inr (Or.inr (Or.inr (Or.inr rfl)))
theorem zsw2 {x : Int32} (h : ¬ zOR x 0 2) : x = 0 ∨ x = 1 ∨ x = 2 := by
  obtain ⟨k, hk, rfl⟩ := zrange (n := 2) (by decide) rfl h
  rcases (show k = 0 ∨ k = 1 ∨ k = 2 by omega) with rfl | rfl | rfl
  · exact Or.inl rfl
  · exact Or.inr (Or.inl rfl)
  · exact Or.inr (Or.inr rfl)
set_option maxRecDepth 100000 in
set_option maxHeartbeats 4000000 in
theorem p_flow (l : Launch) (G : zG) (ad : Nat → Nat) (σ : zσ) (x0 : zX) (hσ : zOk σ) (x : Int32) (c : Int32) : zSem l G sX5_flow [.ref (ad 0), .int x, .int c] (wP G ad σ x0) (zPost G ad (o_flow σ x c)) := by
  refine zEnterV (L := [some (.ref (ad 0)), some (.int x), some (.int c), none]) (by decide) rfl (Nat.le_of_ble_eq_true rfl) rfl ?_
  refine a_iload_1 (pc := 0) dX5_flow_0 ?_
  refine cS_P (S2 := sX5_placeOf) (c_placeOf l G _) kc_X5_placeOf km_X5_76 ks_X5_placeOf kini_X5 ⟨kn_X5_placeOf, by decide, by decide⟩ (pc := 1) dX5_flow_1 [] rfl rfl rfl rfl (Nat.le_of_ble_eq_true rfl) ?_
  refine a_istore_3 (pc := 4) dX5_flow_4 rfl (by decide) ?_
  refine a_iload_3 (pc := 5) dX5_flow_5 ?_
  rcases hp_ : zPl x with _ | k
  · refine a_if_lt (tgt := 18) (pc := 6) dX5_flow_6 (by decide) (fun _ => ?_) (fun c_ => absurd (show zplace none < 0 by decide) c_)
    refine a_ldc2 (pc := 18) dX5_flow_18 kl_X5_68 ?_
    exact a_lret (pc := 21) dX5_flow_21 rfl rfl (by first | exact zret' x0 (by unfold o_flow; rw [if_pos (Or.inl hp_)]) rfl | exact zret' x0 (by unfold o_flow; rw [if_pos (Or.inr c_15)]) rfl)
  · have hk_ := zPl_lt hp_
    have hne_ : ¬ zPl x = none := by rw [hp_]; exact fun h => by cases h
    dsimp only [zplace]
    refine a_if_lt (tgt := 18) (pc := 6) dX5_flow_6 (by decide) (fun c_ => absurd c_ (nI_pos (by omega))) (fun _ => ?_)
    refine a_iload_2 (pc := 9) dX5_flow_9 ?_
    refine a_iconst (v := 0) (pc := 10) dX5_flow_10 (by decide) ?_
    refine a_iconst (v := 4) (pc := 11) dX5_flow_11 (by decide) ?_
    refine cS_P (S2 := sX5_outside) (c_outside l G _ _ _) kc_X5_outside km_X5_64 ks_X5_outside kini_X5 ⟨kn_X5_outside, by decide, by decide⟩ (pc := 12) dX5_flow_12 [] rfl rfl rfl rfl (Nat.le_of_ble_eq_true rfl) ?_
    first | refine a_if_eqB (tgt := 22) (pc := 15) dX5_flow_15 (by decide) (fun c_15 => ?_) (fun c_15 => ?_) | refine a_if_eq (tgt := 22) (pc := 15) dX5_flow_15 (by decide) (fun c_15 => ?_) (fun c_15 => ?_)
    · refine a_aload_0 (pc := 22) dX5_flow_22 ?_
      refine a_getf (ci := 5) (j := 1) rfl win_X5 (by decide) (pc := 23) dX5_flow_23 kf_X5_16 rfl rfl ?_
      refine a_iload_3 (pc := 26) dX5_flow_26 ?_
      refine cV_P (ad := ad) (q0 := 2) (S2 := sX2_holdsSkin) (c_holdsSkin l G (zpk ad [2, 3]) (zVesf σ) (nI (σ.1 0)) k hk_) kc_X2_holdsSkin km_X5_105 ki_X2_holdsSkin kv_X2_holdsSkin kini_X2 ⟨kn_X2_holdsSkin, by decide, by decide⟩ (pc := 27) dX5_flow_27 [2, 3] rfl rfl rfl rfl (Nat.le_of_ble_eq_true rfl) rfl rfl rfl ?_
      first | refine a_if_neB (tgt := 37) (pc := 30) dX5_flow_30 (by decide) (fun c_30 => ?_) (fun c_30 => ?_) | refine a_if_ne (tgt := 37) (pc := 30) dX5_flow_30 (by decide) (fun c_30 => ?_) (fun c_30 => ?_)
      · refine a_aload_0 (pc := 37) dX5_flow_37 ?_
        refine f_0 (ad := ad) (q0 := 0) (S2 := sX5_letFlow) (p_letFlow l G ad σ x0 hσ) kc_X5_letFlow km_X5_111 ki_X5_letFlow kv_X5_letFlow kini_X5 ⟨kn_X5_letFlow, by decide, by decide⟩ (pc := 38) dX5_flow_38 (znd_of rfl znd28) rfl rfl (Nat.le_of_ble_eq_true rfl) rfl rfl rfl (fun u_ hu_ => ?_)
        refine a_iload_2 (pc := 41) dX5_flow_41 ?_
        rcases zsw5 c_15 with rfl | rfl | rfl | rfl | rfl
        · refine a_tableIn (off := 30) (tgt := 72) (pc := 42) dX5_flow_42 (by decide) (by decide) (by decide) (by decide) ?_
          refine a_aload_0 (pc := 72) dX5_flow_72 ?_
          refine a_getf (ci := 5) (j := 4) rfl win_X5 (by decide) (pc := 73) dX5_flow_73 kf_X5_33 rfl rfl ?_
          refine a_getfN (ci := 0) (j := 2) rfl win_X0 (by decide) (pc := 76) dX5_flow_76 kf_X5_114 rfl rfl ?_
          refine a_iload_3 (pc := 79) dX5_flow_79 ?_
          refine a_laldN (pc := 80) dX5_flow_80 rfl (by omega) (by decide) ?_
          rw [zFlow_at hσ hu_.1 hk_ c_30 (a := 0) (by decide)]
          exact a_lret (pc := 81) dX5_flow_81 rfl rfl (zret' (r := zCell σ 0 k) u_ (by unfold o_flow; rw [if_neg (fun h => h.elim hne_ c_15), hp_, Option.getD_some, if_neg (fun h => h c_30), if_pos rfl]) rfl)
        · refine a_tableIn (off := 40) (tgt := 82) (pc := 42) dX5_flow_42 (by decide) (by decide) (by decide) (by decide) ?_
          refine a_aload_0 (pc := 82) dX5_flow_82 ?_
          refine a_getf (ci := 5) (j := 4) rfl win_X5 (by decide) (pc := 83) dX5_flow_83 kf_X5_33 rfl rfl ?_
          refine a_getfN (ci := 0) (j := 3) rfl win_X0 (by decide) (pc := 86) dX5_flow_86 kf_X5_118 rfl rfl ?_
          refine a_iload_3 (pc := 89) dX5_flow_89 ?_
          refine a_laldN (pc := 90) dX5_flow_90 rfl (by omega) (by decide) ?_
          rw [zFlow_at hσ hu_.1 hk_ c_30 (a := 1) (by decide)]
          exact a_lret (pc := 91) dX5_flow_91 rfl rfl (zret' (r := zCell σ 1 k) u_ (by unfold o_flow; rw [if_neg (fun h => h.elim hne_ c_15), hp_, Option.getD_some, if_neg (fun h => h c_30), if_neg (by decide), if_pos rfl]) rfl)
        · refine a_tableIn (off := 50) (tgt := 92) (pc := 42) dX5_flow_42 (by decide) (by decide) (by decide) (by decide) ?_
          refine a_aload_0 (pc := 92) dX5_flow_92 ?_
          refine a_getf (ci := 5) (j := 4) rfl win_X5 (by decide) (pc := 93) dX5_flow_93 kf_X5_33 rfl rfl ?_
          refine a_getfN (ci := 0) (j := 4) rfl win_X0 (by decide) (pc := 96) dX5_flow_96 kf_X5_121 rfl rfl ?_
          refine a_iload_3 (pc := 99) dX5_flow_99 ?_
          refine a_laldN (pc := 100) dX5_flow_100 rfl (by omega) (by decide) ?_
          rw [zFlow_at hσ hu_.1 hk_ c_30 (a := 2) (by decide)]
          exact a_lret (pc := 101) dX5_flow_101 rfl rfl (zret' (r := zCell σ 2 k) u_ (by unfold o_flow; rw [if_neg (fun h => h.elim hne_ c_15), hp_, Option.getD_some, if_neg (fun h => h c_30), if_neg (by decide), if_neg (by decide), if_pos rfl]) rfl)
        · refine a_tableIn (off := 60) (tgt := 102) (pc := 42) dX5_flow_42 (by decide) (by decide) (by decide) (by decide) ?_
          refine a_aload_0 (pc := 102) dX5_flow_102 ?_
          refine a_getf (ci := 5) (j := 4) rfl win_X5 (by decide) (pc := 103) dX5_flow_103 kf_X5_33 rfl rfl ?_
          refine a_getfN (ci := 0) (j := 5) rfl win_X0 (by decide) (pc := 106) dX5_flow_106 kf_X5_124 rfl rfl ?_
          refine a_iload_3 (pc := 109) dX5_flow_109 ?_
          refine a_laldN (pc := 110) dX5_flow_110 rfl (by omega) (by decide) ?_
          rw [zFlow_at hσ hu_.1 hk_ c_30 (a := 3) (by decide)]
          exact a_lret (pc := 111) dX5_flow_111 rfl rfl (zret' (r := zCell σ 3 k) u_ (by unfold o_flow; rw [if_neg (fun h => h.elim hne_ c_15), hp_, Option.getD_some, if_neg (fun h => h c_30), if_neg (by decide), if_neg (by decide), if_neg (by decide), if_pos rfl]) rfl)
        · refine a_tableOut (tgt := 112) (pc := 42) dX5_flow_42 (by decide) (by decide) ?_
          refine a_aload_0 (pc := 112) dX5_flow_112 ?_
          refine a_getf (ci := 5) (j := 4) rfl win_X5 (by decide) (pc := 113) dX5_flow_113 kf_X5_33 rfl rfl ?_
          refine a_getfN (ci := 0) (j := 7) rfl win_X0 (by decide) (pc := 116) dX5_flow_116 kf_X5_127 rfl rfl ?_
          refine a_iload_3 (pc := 119) dX5_flow_119 ?_
          refine a_laldN (pc := 120) dX5_flow_120 rfl (by omega) (by decide) ?_
          rw [zFlow_at hσ hu_.1 hk_ c_30 (a := 5) (by decide)]
          exact a_lret (pc := 121) dX5_flow_121 rfl rfl (zret' (r := zCell σ 5 k) u_ (by unfold o_flow; rw [if_neg (fun h => h.elim hne_ c_15), hp_, Option.getD_some, if_neg (fun h => h c_30), if_neg (by decide), if_neg (by decide), if_neg (by decide), if_neg (by decide)]) rfl)
      · refine a_ldc2 (pc := 33) dX5_flow_33 kl_X5_109 ?_
        exact a_lret (pc := 36) dX5_flow_36 rfl rfl (zret' x0 (by unfold o_flow; rw [if_neg (fun h => h.elim hne_ c_15), hp_, Option.getD_some, if_pos c_30]) rfl)
    · refine a_ldc2 (pc := 18) dX5_flow_18 kl_X5_68 ?_
      exact a_lret (pc := 21) dX5_flow_21 rfl rfl (by first | exact zret' x0 (by unfold o_flow; rw [if_pos (Or.inl hp_)]) rfl | exact zret' x0 (by unfold o_flow; rw [if_pos (Or.inr c_15)]) rfl)

set_option maxRecDepth 100000 in
set_option maxHeartbeats 4000000 in
theorem p_sweet (l : Launch) (G : zG) (ad : Nat → Nat) (σ : zσ) (x0 : zX) (hσ : zOk σ) (c : Int32) : zSem l G sX5_sweet [.ref (ad 0), .int c] (wP G ad σ x0) (zPost G ad (o_sweet σ c)) := by
  refine zEnterV (L := [some (.ref (ad 0)), some (.int c)]) (by decide) rfl (Nat.le_of_ble_eq_true rfl) rfl ?_
  refine a_iload_1 (pc := 0) dX5_sweet_0 ?_
  refine a_iconst (v := 0) (pc := 1) dX5_sweet_1 (by decide) ?_
  refine a_iconst (v := 2) (pc := 2) dX5_sweet_2 (by decide) ?_
  refine cS_P (S2 := sX5_outside) (c_outside l G _ _ _) kc_X5_outside km_X5_64 ks_X5_outside kini_X5 ⟨kn_X5_outside, by decide, by decide⟩ (pc := 3) dX5_sweet_3 [] rfl rfl rfl rfl (Nat.le_of_ble_eq_true rfl) ?_
  first | refine a_if_eqB (tgt := 13) (pc := 6) dX5_sweet_6 (by decide) (fun c_6 => ?_) (fun c_6 => ?_) | refine a_if_eq (tgt := 13) (pc := 6) dX5_sweet_6 (by decide) (fun c_6 => ?_) (fun c_6 => ?_)
  · refine a_aload_0 (pc := 13) dX5_sweet_13 ?_
    refine f_0 (ad := ad) (q0 := 0) (S2 := sX5_letFlow) (p_letFlow l G ad σ x0 hσ) kc_X5_letFlow km_X5_111 ki_X5_letFlow kv_X5_letFlow kini_X5 ⟨kn_X5_letFlow, by decide, by decide⟩ (pc := 14) dX5_sweet_14 (znd_of rfl znd28) rfl rfl (Nat.le_of_ble_eq_true rfl) rfl rfl rfl (fun u_ hu_ => ?_)
    refine a_iload_1 (pc := 17) dX5_sweet_17 ?_
    rcases zsw2 c_6 with rfl | rfl | rfl
    · refine a_lookup (off := 26) (tgt := 44) (pc := 18) dX5_sweet_18 (by decide) (by decide) (by decide) ?_
      refine a_aload_0 (pc := 44) dX5_sweet_44 ?_
      refine a_getf (ci := 5) (j := 4) rfl win_X5 (by decide) (pc := 45) dX5_sweet_45 kf_X5_33 rfl rfl ?_
      refine a_getfN (ci := 0) (j := 11) rfl win_X0 (by decide) (pc := 48) dX5_sweet_48 kf_X5_130 rfl rfl ?_
      rw [hu_.1.2.2.2.2.1]
      exact a_lret (pc := 51) dX5_sweet_51 rfl rfl (zret' u_ (by unfold o_sweet; rw [if_neg c_6, if_pos rfl]) rfl)
    · refine a_lookup (off := 34) (tgt := 52) (pc := 18) dX5_sweet_18 (by decide) (by decide) (by decide) ?_
      refine a_aload_0 (pc := 52) dX5_sweet_52 ?_
      refine a_getf (ci := 5) (j := 4) rfl win_X5 (by decide) (pc := 53) dX5_sweet_53 kf_X5_33 rfl rfl ?_
      refine a_getfN (ci := 0) (j := 12) rfl win_X0 (by decide) (pc := 56) dX5_sweet_56 kf_X5_134 rfl rfl ?_
      rw [hu_.1.2.2.2.2.2]
      exact a_lret (pc := 59) dX5_sweet_59 rfl rfl (zret' u_ (by unfold o_sweet; rw [if_neg c_6, if_neg (by decide), if_pos rfl]) rfl)
    · refine a_lookup (off := 42) (tgt := 60) (pc := 18) dX5_sweet_18 (by decide) (by decide) (by decide) ?_
      refine a_aload_0 (pc := 60) dX5_sweet_60 ?_
      refine a_getf (ci := 5) (j := 4) rfl win_X5 (by decide) (pc := 61) dX5_sweet_61 kf_X5_33 rfl rfl ?_
      refine a_getfN (ci := 0) (j := 11) rfl win_X0 (by decide) (pc := 64) dX5_sweet_64 kf_X5_130 rfl rfl ?_
      refine a_aload_0 (pc := 67) dX5_sweet_67 ?_
      refine a_getf (ci := 5) (j := 4) rfl win_X5 (by decide) (pc := 68) dX5_sweet_68 kf_X5_33 rfl rfl ?_
      refine a_getfN (ci := 0) (j := 12) rfl win_X0 (by decide) (pc := 71) dX5_sweet_71 kf_X5_134 rfl rfl ?_
      rw [hu_.1.2.2.2.2.1, hu_.1.2.2.2.2.2]
      refine cS_P (S2 := sX0_saltOf) (c_saltOf l G _ _) kc_X0_saltOf km_X5_137 ks_X0_saltOf kini_X0 ⟨kn_X0_saltOf, by decide, by decide⟩ (pc := 74) dX5_sweet_74 [] rfl rfl rfl rfl (Nat.le_of_ble_eq_true rfl) ?_
      exact a_lret (pc := 77) dX5_sweet_77 rfl rfl (zret' u_ (by unfold o_sweet; rw [if_neg c_6, if_neg (by decide), if_neg (by decide)]) rfl)
  · refine a_ldc2 (pc := 9) dX5_sweet_9 kl_X5_68 ?_
    exact a_lret (pc := 12) dX5_sweet_12 rfl rfl (zret' x0 (by unfold o_sweet; rw [if_pos c_6]) rfl)

set_option maxRecDepth 100000 in
set_option maxHeartbeats 4000000 in
theorem p_brine (l : Launch) (G : zG) (ad : Nat → Nat) (σ : zσ) (x0 : zX) (hσ : zOk σ) (c : Int32) : zSem l G sX5_brine [.ref (ad 0), .int c] (wP G ad σ x0) (zPost G ad (o_brine σ c)) := by
  refine zEnterV (L := [some (.ref (ad 0)), some (.int c)]) (by decide) rfl (Nat.le_of_ble_eq_true rfl) rfl ?_
  refine a_iload_1 (pc := 0) dX5_brine_0 ?_
  refine a_iconst (v := 0) (pc := 1) dX5_brine_1 (by decide) ?_
  refine a_iconst (v := 2) (pc := 2) dX5_brine_2 (by decide) ?_
  refine cS_P (S2 := sX5_outside) (c_outside l G _ _ _) kc_X5_outside km_X5_64 ks_X5_outside kini_X5 ⟨kn_X5_outside, by decide, by decide⟩ (pc := 3) dX5_brine_3 [] rfl rfl rfl rfl (Nat.le_of_ble_eq_true rfl) ?_
  first | refine a_if_eqB (tgt := 13) (pc := 6) dX5_brine_6 (by decide) (fun c_6 => ?_) (fun c_6 => ?_) | refine a_if_eq (tgt := 13) (pc := 6) dX5_brine_6 (by decide) (fun c_6 => ?_) (fun c_6 => ?_)
  · refine a_aload_0 (pc := 13) dX5_brine_13 ?_
    refine f_0 (ad := ad) (q0 := 0) (S2 := sX5_letFlow) (p_letFlow l G ad σ x0 hσ) kc_X5_letFlow km_X5_111 ki_X5_letFlow kv_X5_letFlow kini_X5 ⟨kn_X5_letFlow, by decide, by decide⟩ (pc := 14) dX5_brine_14 (znd_of rfl znd28) rfl rfl (Nat.le_of_ble_eq_true rfl) rfl rfl rfl (fun u_ hu_ => ?_)
    refine a_iload_1 (pc := 17) dX5_brine_17 ?_
    rcases zsw2 c_6 with rfl | rfl | rfl
    · refine a_lookup (off := 26) (tgt := 44) (pc := 18) dX5_brine_18 (by decide) (by decide) (by decide) ?_
      refine a_aload_0 (pc := 44) dX5_brine_44 ?_
      refine a_getf (ci := 5) (j := 4) rfl win_X5 (by decide) (pc := 45) dX5_brine_45 kf_X5_33 rfl rfl ?_
      refine a_getfN (ci := 0) (j := 8) rfl win_X0 (by decide) (pc := 48) dX5_brine_48 kf_X5_141 rfl rfl ?_
      rw [hu_.1.2.1]
      exact a_lret (pc := 51) dX5_brine_51 rfl rfl (zret' u_ (by unfold o_brine; rw [if_neg c_6, if_pos rfl]) rfl)
    · refine a_lookup (off := 34) (tgt := 52) (pc := 18) dX5_brine_18 (by decide) (by decide) (by decide) ?_
      refine a_aload_0 (pc := 52) dX5_brine_52 ?_
      refine a_getf (ci := 5) (j := 4) rfl win_X5 (by decide) (pc := 53) dX5_brine_53 kf_X5_33 rfl rfl ?_
      refine a_getfN (ci := 0) (j := 9) rfl win_X0 (by decide) (pc := 56) dX5_brine_56 kf_X5_144 rfl rfl ?_
      rw [hu_.1.2.2.1]
      exact a_lret (pc := 59) dX5_brine_59 rfl rfl (zret' u_ (by unfold o_brine; rw [if_neg c_6, if_neg (by decide), if_pos rfl]) rfl)
    · refine a_lookup (off := 42) (tgt := 60) (pc := 18) dX5_brine_18 (by decide) (by decide) (by decide) ?_
      refine a_aload_0 (pc := 60) dX5_brine_60 ?_
      refine a_getf (ci := 5) (j := 4) rfl win_X5 (by decide) (pc := 61) dX5_brine_61 kf_X5_33 rfl rfl ?_
      refine a_getfN (ci := 0) (j := 10) rfl win_X0 (by decide) (pc := 64) dX5_brine_64 kf_X5_147 rfl rfl ?_
      rw [hu_.1.2.2.2.1]
      exact a_lret (pc := 67) dX5_brine_67 rfl rfl (zret' u_ (by unfold o_brine; rw [if_neg c_6, if_neg (by decide), if_neg (by decide)]) rfl)
  · refine a_ldc2 (pc := 9) dX5_brine_9 kl_X5_68 ?_
    exact a_lret (pc := 12) dX5_brine_12 rfl rfl (zret' x0 (by unfold o_brine; rw [if_pos c_6]) rfl)

set_option maxRecDepth 100000 in
set_option maxHeartbeats 4000000 in
/-- powerAt -/
theorem p_powerAt (l : Launch) (G : zG) (ad : Nat → Nat) (σ : zσ) (x0 : zX) (p : Int32) : zSem l G sX5_powerAt [.ref (ad 0), .int p] (wP G ad σ x0) (zP (.long (zPow σ p (x0.2.2.2.2.2.1 0) (x0.2.2.2.2.2.1 2))) (wP G ad σ x0)) := by
  refine zEnterV (L := [some (.ref (ad 0)), some (.int p), none, none, none, none]) (by decide) rfl (Nat.le_of_ble_eq_true rfl) rfl ?_
  refine a_iload_1 (pc := 0) dX5_powerAt_0 ?_
  refine a_i2l (pc := 1) dX5_powerAt_1 ?_
  refine a_aload_0 (pc := 2) dX5_powerAt_2 ?_
  refine a_getf (ci := 5) (j := 7) rfl win_X5 (by decide) (pc := 3) dX5_powerAt_3 kf_X5_51 rfl rfl ?_
  refine a_i2l (pc := 6) dX5_powerAt_6 ?_
  refine a_lmul (pc := 7) dX5_powerAt_7 ?_
  refine a_ldc2 (pc := 8) dX5_powerAt_8 kl_X5_274 ?_
  refine a_ldiv (pc := 11) dX5_powerAt_11 (by decide) ?_
  refine a_lstore_2 (pc := 12) dX5_powerAt_12 rfl (by decide) ?_
  refine a_aload_0 (pc := 13) dX5_powerAt_13 ?_
  refine a_getf (ci := 5) (j := 4) rfl win_X5 (by decide) (pc := 14) dX5_powerAt_14 kf_X5_33 rfl rfl ?_
  refine a_getfN (ci := 0) (j := 10) rfl win_X0 (by decide) (pc := 17) dX5_powerAt_17 kf_X5_147 rfl rfl ?_
  refine a_aload_0 (pc := 20) dX5_powerAt_20 ?_
  refine a_getf (ci := 5) (j := 4) rfl win_X5 (by decide) (pc := 21) dX5_powerAt_21 kf_X5_33 rfl rfl ?_
  refine a_getfN (ci := 0) (j := 8) rfl win_X0 (by decide) (pc := 24) dX5_powerAt_24 kf_X5_141 rfl rfl ?_
  refine a_lmul (pc := 27) dX5_powerAt_27 ?_
  refine a_ldc2 (pc := 28) dX5_powerAt_28 kl_X5_274 ?_
  refine a_ldiv (pc := 31) dX5_powerAt_31 (by decide) ?_
  refine a_lstore_4 (pc := 32) dX5_powerAt_32 rfl (by decide) ?_
  refine a_lload_2 (pc := 34) dX5_powerAt_34 ?_
  refine a_aload_0 (pc := 35) dX5_powerAt_35 ?_
  refine a_getf (ci := 5) (j := 0) rfl win_X5 (by decide) (pc := 36) dX5_powerAt_36 kf_X5_9 rfl rfl ?_
  refine a_iconst (v := 2) (pc := 39) dX5_powerAt_39 (by decide) ?_
  refine a_ialdN (k := 2) (pc := 40) dX5_powerAt_40 rfl (by omega) (by decide) ?_
  refine a_i2l (pc := 41) dX5_powerAt_41 ?_
  refine a_lload_4 (pc := 42) dX5_powerAt_42 ?_
  refine a_lmul (pc := 44) dX5_powerAt_44 ?_
  refine a_ldc2 (pc := 45) dX5_powerAt_45 kl_X5_274 ?_
  refine a_ldiv (pc := 48) dX5_powerAt_48 (by decide) ?_
  refine a_lsub (pc := 49) dX5_powerAt_49 ?_
  exact a_lret (pc := 50) dX5_powerAt_50 rfl rfl ⟨rfl, rfl⟩

set_option maxRecDepth 100000 in
set_option maxHeartbeats 4000000 in
theorem p_power (l : Launch) (G : zG) (ad : Nat → Nat) (σ : zσ) (x0 : zX) (hσ : zOk σ)  : zSem l G sX5_power [.ref (ad 0)] (wP G ad σ x0) (zPost G ad (o_power σ)) := by
  refine zEnterV (L := [some (.ref (ad 0))]) (by decide) rfl (Nat.le_of_ble_eq_true rfl) rfl ?_
  refine a_aload_0 (pc := 0) dX5_power_0 ?_
  refine f_0 (ad := ad) (q0 := 0) (S2 := sX5_letFlow) (p_letFlow l G ad σ x0 hσ) kc_X5_letFlow km_X5_111 ki_X5_letFlow kv_X5_letFlow kini_X5 ⟨kn_X5_letFlow, by decide, by decide⟩ (pc := 1) dX5_power_1 (znd_of rfl znd28) rfl rfl (Nat.le_of_ble_eq_true rfl) rfl rfl rfl (fun u_ hu_ => ?_)
  refine a_aload_0 (pc := 4) dX5_power_4 ?_
  refine a_aload_0 (pc := 5) dX5_power_5 ?_
  refine a_getf (ci := 5) (j := 9) rfl win_X5 (by decide) (pc := 6) dX5_power_6 kf_X5_58 rfl rfl ?_
  refine f_P (ad := ad) (q0 := 0) (S2 := sX5_powerAt) (p_powerAt l G ad σ u_ _) kc_X5_powerAt km_X5_150 ki_X5_powerAt kv_X5_powerAt kini_X5 ⟨kn_X5_powerAt, by decide, by decide⟩ (pc := 9) dX5_power_9 (znd_of rfl znd28) rfl rfl (Nat.le_of_ble_eq_true rfl) rfl rfl rfl ?_
  rw [hu_.1.2.1, hu_.1.2.2.2.1]
  exact a_lret (pc := 12) dX5_power_12 rfl rfl (zret' u_ rfl rfl)

set_option maxRecDepth 100000 in
set_option maxHeartbeats 4000000 in
theorem p_failure (l : Launch) (G : zG) (ad : Nat → Nat) (σ : zσ) (x0 : zX) (hσ : zOk σ)  : zSem l G sX5_failure [.ref (ad 0)] (wP G ad σ x0) (zPost G ad (o_failure σ)) := by
  refine zEnterV (L := [some (.ref (ad 0))]) (by decide) rfl (Nat.le_of_ble_eq_true rfl) rfl ?_
  refine a_aload_0 (pc := 0) dX5_failure_0 ?_
  refine f_0 (ad := ad) (q0 := 0) (S2 := sX5_letFlow) (p_letFlow l G ad σ x0 hσ) kc_X5_letFlow km_X5_111 ki_X5_letFlow kv_X5_letFlow kini_X5 ⟨kn_X5_letFlow, by decide, by decide⟩ (pc := 1) dX5_failure_1 (znd_of rfl znd28) rfl rfl (Nat.le_of_ble_eq_true rfl) rfl rfl rfl (fun u_ hu_ => ?_)
  refine a_aload_0 (pc := 4) dX5_failure_4 ?_
  refine a_getf (ci := 5) (j := 4) rfl win_X5 (by decide) (pc := 5) dX5_failure_5 kf_X5_33 rfl rfl ?_
  refine a_aload_0 (pc := 8) dX5_failure_8 ?_
  refine a_getf (ci := 5) (j := 1) rfl win_X5 (by decide) (pc := 9) dX5_failure_9 kf_X5_16 rfl rfl ?_
  refine a_aload_0 (pc := 12) dX5_failure_12 ?_
  refine a_getf (ci := 5) (j := 0) rfl win_X5 (by decide) (pc := 13) dX5_failure_13 kf_X5_9 rfl rfl ?_
  refine a_iconst (v := 0) (pc := 16) dX5_failure_16 (by decide) ?_
  refine a_ialdN (k := 0) (pc := 17) dX5_failure_17 rfl (by omega) (by decide) ?_
  refine a_aload_0 (pc := 18) dX5_failure_18 ?_
  refine a_getf (ci := 5) (j := 0) rfl win_X5 (by decide) (pc := 19) dX5_failure_19 kf_X5_9 rfl rfl ?_
  refine a_iconst (v := 1) (pc := 22) dX5_failure_22 (by decide) ?_
  refine a_ialdN (k := 1) (pc := 23) dX5_failure_23 rfl (by omega) (by decide) ?_
  refine cV_P (ad := ad) (q0 := 9) (S2 := sX0_firstFailure) (c_firstFailure l G (zpk ad [9, 10, 11, 12, 13, 14, 15, 16, 17, 2, 3]) u_.2.2.1 u_.2.2.2.1 u_.2.2.2.2.1 u_.2.2.2.2.2.1 (zVesf σ) (nI (σ.1 0)) _ _) kc_X0_firstFailure km_X5_154 ki_X0_firstFailure kv_X0_firstFailure kini_X0 ⟨kn_X0_firstFailure, by decide, by decide⟩ (pc := 24) dX5_failure_24 [9, 10, 11, 12, 13, 14, 15, 16, 17, 2, 3] rfl rfl rfl rfl (Nat.le_of_ble_eq_true rfl) rfl rfl rfl ?_
  rw [zFf_cg (fun k hk hd => ⟨zFlow_at hσ hu_.1 hk hd (a := 0) (by decide), zFlow_at hσ hu_.1 hk hd (a := 3) (by decide)⟩) 72 0 rfl]
  exact a_lret (pc := 27) dX5_failure_27 rfl rfl (zret' u_ rfl rfl)

abbrev zHR (n x y : Int32) : Prop := ¬ x < 0 ∧ ¬ y < 0 ∧ ¬ n - y < x
def o_copy (σ : zσ) (f p t a m : Int32) : Int64 × zσ := if zOR f 0 1 ∨ zOR t 0 1 then (zBAD, σ) else if σ.2.2.1 f.toNatClampNeg = -1 ∨ σ.2.2.1 t.toNatClampNeg = -1 then (zNOTH, σ) else if ¬ zHR (σ.2.2.1 f.toNatClampNeg) p m ∨ ¬ zHR (σ.2.2.1 t.toNatClampNeg) a m then (zINDEX, σ) else (m.toInt64, (σ.1, σ.2.1, σ.2.2.1, zuC σ.2.2.2 t.toNatClampNeg (va_cpy (σ.2.2.2 f.toNatClampNeg) (σ.2.2.2 t.toNatClampNeg) p.toNatClampNeg a.toNatClampNeg m.toNatClampNeg)))
theorem zHR_le {σ : zσ} (hσ : zOk σ) {s : Nat} (hs : s < 2) {p m : Int32} (h : zHR (σ.2.2.1 s) p m) : p.toNatClampNeg + m.toNatClampNeg ≤ 24 := by
  have k0 : (0:Int32).toInt = 0 := by decide
  have h1 : 0 ≤ p.toInt := by have := mt Int32.lt_iff_toInt_lt.mpr h.1; omega
  have h2 : 0 ≤ m.toInt := by have := mt Int32.lt_iff_toInt_lt.mpr h.2.1; omega
  have hz : -1 ≤ (σ.2.2.1 s).toInt ∧ (σ.2.2.1 s).toInt ≤ 24 := by
    rcases hσ.2.2.2.2.2.2.2.2.2.2.2.2.1 s hs with h | ⟨n, hn, h⟩
    · rw [h]; decide
    · rw [h, nI_toInt (by omega)]; omega
  have hb := i_bd m
  have e : (σ.2.2.1 s - m).toInt = (σ.2.2.1 s).toInt - m.toInt := i_sub (by omega) (by omega)
  have h3 := mt Int32.lt_iff_toInt_lt.mpr h.2.2
  rw [e] at h3
  show p.toInt.toNat + m.toInt.toNat ≤ 24
  omega
set_option maxRecDepth 100000 in
set_option maxHeartbeats 4000000 in
theorem p_copy (l : Launch) (G : zG) (ad : Nat → Nat) (σ : zσ) (x0 : zX) (hσ : zOk σ) (f : Int32) (p : Int32) (t : Int32) (a : Int32) (m : Int32) : zSem l G sX5_copy [.ref (ad 0), .int f, .int p, .int t, .int a, .int m] (wP G ad σ x0) (zPost G ad (o_copy σ f p t a m)) := by
  refine zEnterV (L := [some (.ref (ad 0)), some (.int f), some (.int p), some (.int t), some (.int a), some (.int m)]) (by decide) rfl (Nat.le_of_ble_eq_true rfl) rfl ?_
  refine a_iload_1 (pc := 0) dX5_copy_0 ?_
  refine a_iconst (v := 0) (pc := 1) dX5_copy_1 (by decide) ?_
  refine a_iconst (v := 1) (pc := 2) dX5_copy_2 (by decide) ?_
  refine cS_P (S2 := sX5_outside) (c_outside l G _ _ _) kc_X5_outside km_X5_64 ks_X5_outside kini_X5 ⟨kn_X5_outside, by decide, by decide⟩ (pc := 3) dX5_copy_3 [] rfl rfl rfl rfl (Nat.le_of_ble_eq_true rfl) ?_
  first | refine a_if_neB (tgt := 18) (pc := 6) dX5_copy_6 (by decide) (fun c_6 => ?_) (fun c_6 => ?_) | refine a_if_ne (tgt := 18) (pc := 6) dX5_copy_6 (by decide) (fun c_6 => ?_) (fun c_6 => ?_)
  · refine a_ldc2 (pc := 18) dX5_copy_18 kl_X5_68 ?_
    exact a_lret (pc := 21) dX5_copy_21 rfl rfl (by first | exact zret' x0 (if_pos (Or.inl c_6)) rfl | exact zret' x0 (if_pos (Or.inr c_15)) rfl)
  · refine a_iload_3 (pc := 9) dX5_copy_9 ?_
    refine a_iconst (v := 0) (pc := 10) dX5_copy_10 (by decide) ?_
    refine a_iconst (v := 1) (pc := 11) dX5_copy_11 (by decide) ?_
    refine cS_P (S2 := sX5_outside) (c_outside l G _ _ _) kc_X5_outside km_X5_64 ks_X5_outside kini_X5 ⟨kn_X5_outside, by decide, by decide⟩ (pc := 12) dX5_copy_12 [] rfl rfl rfl rfl (Nat.le_of_ble_eq_true rfl) ?_
    first | refine a_if_eqB (tgt := 22) (pc := 15) dX5_copy_15 (by decide) (fun c_15 => ?_) (fun c_15 => ?_) | refine a_if_eq (tgt := 22) (pc := 15) dX5_copy_15 (by decide) (fun c_15 => ?_) (fun c_15 => ?_)
    · rcases zrange2 c_6 with rfl | rfl <;> rcases zrange2 c_15 with rfl | rfl
      · refine a_aload_0 (pc := 22) dX5_copy_22 ?_
        refine a_getf (ci := 5) (j := 6) rfl win_X5 (by decide) (pc := 23) dX5_copy_23 kf_X5_47 rfl rfl ?_
        refine a_iload_1 (pc := 26) dX5_copy_26 ?_
        refine a_aaldN (k := 0) (pc := 27) dX5_copy_27 rfl (by decide) (by decide) rfl ?_
        first
          | refine cV_P (ad := ad) (q0 := 24) (S2 := sX3_isMissing) (c_isMissing l G (zpk ad [24, 25]) (σ.2.2.2 0) (σ.2.2.1 0)) kc_X3_isMissing km_X5_211 ki_X3_isMissing kv_X3_isMissing kini_X3 ⟨kn_X3_isMissing, by decide, by decide⟩ (pc := 28) dX5_copy_28 [24, 25] rfl rfl rfl rfl (Nat.le_of_ble_eq_true rfl) rfl rfl rfl ?_
          | refine cV_P (ad := ad) (q0 := 26) (S2 := sX3_isMissing) (c_isMissing l G (zpk ad [26, 27]) (σ.2.2.2 1) (σ.2.2.1 1)) kc_X3_isMissing km_X5_211 ki_X3_isMissing kv_X3_isMissing kini_X3 ⟨kn_X3_isMissing, by decide, by decide⟩ (pc := 28) dX5_copy_28 [26, 27] rfl rfl rfl rfl (Nat.le_of_ble_eq_true rfl) rfl rfl rfl ?_
        first | refine a_if_neB (tgt := 46) (pc := 31) dX5_copy_31 (by decide) (fun c_31 => ?_) (fun c_31 => ?_) | refine a_if_ne (tgt := 46) (pc := 31) dX5_copy_31 (by decide) (fun c_31 => ?_) (fun c_31 => ?_)
        · refine a_ldc2 (pc := 46) dX5_copy_46 kl_X5_215 ?_
          exact a_lret (pc := 49) dX5_copy_49 rfl rfl (by unfold o_copy; rw [if_neg (fun h => h.elim c_6 c_15)]; first | exact zret' x0 (if_pos (Or.inl c_31)) rfl | exact zret' x0 (if_pos (Or.inr c_43)) rfl)
        · refine a_aload_0 (pc := 34) dX5_copy_34 ?_
          refine a_getf (ci := 5) (j := 6) rfl win_X5 (by decide) (pc := 35) dX5_copy_35 kf_X5_47 rfl rfl ?_
          refine a_iload_3 (pc := 38) dX5_copy_38 ?_
          refine a_aaldN (k := 0) (pc := 39) dX5_copy_39 rfl (by decide) (by decide) rfl ?_
          first
            | refine cV_P (ad := ad) (q0 := 24) (S2 := sX3_isMissing) (c_isMissing l G (zpk ad [24, 25]) (σ.2.2.2 0) (σ.2.2.1 0)) kc_X3_isMissing km_X5_211 ki_X3_isMissing kv_X3_isMissing kini_X3 ⟨kn_X3_isMissing, by decide, by decide⟩ (pc := 40) dX5_copy_40 [24, 25] rfl rfl rfl rfl (Nat.le_of_ble_eq_true rfl) rfl rfl rfl ?_
            | refine cV_P (ad := ad) (q0 := 26) (S2 := sX3_isMissing) (c_isMissing l G (zpk ad [26, 27]) (σ.2.2.2 1) (σ.2.2.1 1)) kc_X3_isMissing km_X5_211 ki_X3_isMissing kv_X3_isMissing kini_X3 ⟨kn_X3_isMissing, by decide, by decide⟩ (pc := 40) dX5_copy_40 [26, 27] rfl rfl rfl rfl (Nat.le_of_ble_eq_true rfl) rfl rfl rfl ?_
          first | refine a_if_eqB (tgt := 50) (pc := 43) dX5_copy_43 (by decide) (fun c_43 => ?_) (fun c_43 => ?_) | refine a_if_eq (tgt := 50) (pc := 43) dX5_copy_43 (by decide) (fun c_43 => ?_) (fun c_43 => ?_)
          · refine a_aload_0 (pc := 50) dX5_copy_50 ?_
            refine a_getf (ci := 5) (j := 6) rfl win_X5 (by decide) (pc := 51) dX5_copy_51 kf_X5_47 rfl rfl ?_
            refine a_iload_1 (pc := 54) dX5_copy_54 ?_
            refine a_aaldN (k := 0) (pc := 55) dX5_copy_55 rfl (by decide) (by decide) rfl ?_
            refine a_iload_2 (pc := 56) dX5_copy_56 ?_
            refine a_iload_5 (pc := 57) dX5_copy_57 ?_
            first
              | refine cV_P (ad := ad) (q0 := 24) (S2 := sX3_hasRun) (c_hasRun l G (zpk ad [24, 25]) (σ.2.2.2 0) (σ.2.2.1 0) p m) kc_X3_hasRun km_X5_262 ki_X3_hasRun kv_X3_hasRun kini_X3 ⟨kn_X3_hasRun, by decide, by decide⟩ (pc := 59) dX5_copy_59 [24, 25] rfl rfl rfl rfl (Nat.le_of_ble_eq_true rfl) rfl rfl rfl ?_
              | refine cV_P (ad := ad) (q0 := 26) (S2 := sX3_hasRun) (c_hasRun l G (zpk ad [26, 27]) (σ.2.2.2 1) (σ.2.2.1 1) p m) kc_X3_hasRun km_X5_262 ki_X3_hasRun kv_X3_hasRun kini_X3 ⟨kn_X3_hasRun, by decide, by decide⟩ (pc := 59) dX5_copy_59 [26, 27] rfl rfl rfl rfl (Nat.le_of_ble_eq_true rfl) rfl rfl rfl ?_
            first | refine a_if_eqB (tgt := 81) (pc := 62) dX5_copy_62 (by decide) (fun c_62 => ?_) (fun c_62 => ?_) | refine a_if_eq (tgt := 81) (pc := 62) dX5_copy_62 (by decide) (fun c_62 => ?_) (fun c_62 => ?_)
            · refine a_ldc2 (pc := 81) dX5_copy_81 kl_X5_260 ?_
              exact a_lret (pc := 84) dX5_copy_84 rfl rfl (by unfold o_copy; rw [if_neg (fun h => h.elim c_6 c_15)]; first | exact zret' x0 ((if_neg (fun h => h.elim c_31 c_43)).trans (if_pos (Or.inl c_62))) rfl | exact zret' x0 ((if_neg (fun h => h.elim c_31 c_43)).trans (if_pos (Or.inr c_78))) rfl)
            · refine a_aload_0 (pc := 65) dX5_copy_65 ?_
              refine a_getf (ci := 5) (j := 6) rfl win_X5 (by decide) (pc := 66) dX5_copy_66 kf_X5_47 rfl rfl ?_
              refine a_iload_3 (pc := 69) dX5_copy_69 ?_
              refine a_aaldN (k := 0) (pc := 70) dX5_copy_70 rfl (by decide) (by decide) rfl ?_
              refine a_iload_4 (pc := 71) dX5_copy_71 ?_
              refine a_iload_5 (pc := 73) dX5_copy_73 ?_
              first
                | refine cV_P (ad := ad) (q0 := 24) (S2 := sX3_hasRun) (c_hasRun l G (zpk ad [24, 25]) (σ.2.2.2 0) (σ.2.2.1 0) a m) kc_X3_hasRun km_X5_262 ki_X3_hasRun kv_X3_hasRun kini_X3 ⟨kn_X3_hasRun, by decide, by decide⟩ (pc := 75) dX5_copy_75 [24, 25] rfl rfl rfl rfl (Nat.le_of_ble_eq_true rfl) rfl rfl rfl ?_
                | refine cV_P (ad := ad) (q0 := 26) (S2 := sX3_hasRun) (c_hasRun l G (zpk ad [26, 27]) (σ.2.2.2 1) (σ.2.2.1 1) a m) kc_X3_hasRun km_X5_262 ki_X3_hasRun kv_X3_hasRun kini_X3 ⟨kn_X3_hasRun, by decide, by decide⟩ (pc := 75) dX5_copy_75 [26, 27] rfl rfl rfl rfl (Nat.le_of_ble_eq_true rfl) rfl rfl rfl ?_
              first | refine a_if_neB (tgt := 85) (pc := 78) dX5_copy_78 (by decide) (fun c_78 => ?_) (fun c_78 => ?_) | refine a_if_ne (tgt := 85) (pc := 78) dX5_copy_78 (by decide) (fun c_78 => ?_) (fun c_78 => ?_)
              · refine a_aload_0 (pc := 85) dX5_copy_85 ?_
                refine a_getf (ci := 5) (j := 6) rfl win_X5 (by decide) (pc := 86) dX5_copy_86 kf_X5_47 rfl rfl ?_
                refine a_iload_1 (pc := 89) dX5_copy_89 ?_
                refine a_aaldN (k := 0) (pc := 90) dX5_copy_90 rfl (by decide) (by decide) rfl ?_
                refine a_getfN (ci := 3) (j := 0) rfl win_X3 (by decide) (pc := 91) dX5_copy_91 kf_X5_220 rfl rfl ?_
                refine a_iload_2 (pc := 94) dX5_copy_94 ?_
                refine a_aload_0 (pc := 95) dX5_copy_95 ?_
                refine a_getf (ci := 5) (j := 6) rfl win_X5 (by decide) (pc := 96) dX5_copy_96 kf_X5_47 rfl rfl ?_
                refine a_iload_3 (pc := 99) dX5_copy_99 ?_
                refine a_aaldN (k := 0) (pc := 100) dX5_copy_100 rfl (by decide) (by decide) rfl ?_
                refine a_getfN (ci := 3) (j := 0) rfl win_X3 (by decide) (pc := 101) dX5_copy_101 kf_X5_220 rfl rfl ?_
                refine a_iload_4 (pc := 104) dX5_copy_104 ?_
                refine a_iload_5 (pc := 106) dX5_copy_106 ?_
                refine a_copy (t0 := 2) (pc := 108) dX5_copy_108 km_X5_265 knat_copy kstat_copy kini_J10 rfl rfl rfl rfl rfl c_62.1 c_78.1 c_62.2.1 (by first | exact zHR_le hσ (s := 0) (by decide) c_62 | exact zHR_le hσ (s := 1) (by decide) c_62) (by first | exact zHR_le hσ (s := 0) (by decide) c_78 | exact zHR_le hσ (s := 1) (by decide) c_78) (fun i_ hi_ => by first | exact hσ.2.2.2.2.2.2.2.2.2.2.2.2.2 0 (by decide) _ (by have := zHR_le hσ (s := 0) (by decide) c_62; omega) | exact hσ.2.2.2.2.2.2.2.2.2.2.2.2.2 1 (by decide) _ (by have := zHR_le hσ (s := 1) (by decide) c_62; omega)) (by decide) (Nat.le_of_ble_eq_true (by decide)) ?_
                refine a_iload_5 (pc := 111) dX5_copy_111 ?_
                refine a_i2l (pc := 113) dX5_copy_113 ?_
                exact a_lret (pc := 114) dX5_copy_114 rfl rfl (by unfold o_copy; rw [if_neg (fun h => h.elim c_6 c_15)]; exact zret' x0 ((if_neg (fun h => h.elim c_31 c_43)).trans (if_neg (fun h => h.elim (fun h => h c_62) (fun h => h c_78)))) rfl)
              · refine a_ldc2 (pc := 81) dX5_copy_81 kl_X5_260 ?_
                exact a_lret (pc := 84) dX5_copy_84 rfl rfl (by unfold o_copy; rw [if_neg (fun h => h.elim c_6 c_15)]; first | exact zret' x0 ((if_neg (fun h => h.elim c_31 c_43)).trans (if_pos (Or.inl c_62))) rfl | exact zret' x0 ((if_neg (fun h => h.elim c_31 c_43)).trans (if_pos (Or.inr c_78))) rfl)
          · refine a_ldc2 (pc := 46) dX5_copy_46 kl_X5_215 ?_
            exact a_lret (pc := 49) dX5_copy_49 rfl rfl (by unfold o_copy; rw [if_neg (fun h => h.elim c_6 c_15)]; first | exact zret' x0 (if_pos (Or.inl c_31)) rfl | exact zret' x0 (if_pos (Or.inr c_43)) rfl)
      · refine a_aload_0 (pc := 22) dX5_copy_22 ?_
        refine a_getf (ci := 5) (j := 6) rfl win_X5 (by decide) (pc := 23) dX5_copy_23 kf_X5_47 rfl rfl ?_
        refine a_iload_1 (pc := 26) dX5_copy_26 ?_
        refine a_aaldN (k := 0) (pc := 27) dX5_copy_27 rfl (by decide) (by decide) rfl ?_
        first
          | refine cV_P (ad := ad) (q0 := 24) (S2 := sX3_isMissing) (c_isMissing l G (zpk ad [24, 25]) (σ.2.2.2 0) (σ.2.2.1 0)) kc_X3_isMissing km_X5_211 ki_X3_isMissing kv_X3_isMissing kini_X3 ⟨kn_X3_isMissing, by decide, by decide⟩ (pc := 28) dX5_copy_28 [24, 25] rfl rfl rfl rfl (Nat.le_of_ble_eq_true rfl) rfl rfl rfl ?_
          | refine cV_P (ad := ad) (q0 := 26) (S2 := sX3_isMissing) (c_isMissing l G (zpk ad [26, 27]) (σ.2.2.2 1) (σ.2.2.1 1)) kc_X3_isMissing km_X5_211 ki_X3_isMissing kv_X3_isMissing kini_X3 ⟨kn_X3_isMissing, by decide, by decide⟩ (pc := 28) dX5_copy_28 [26, 27] rfl rfl rfl rfl (Nat.le_of_ble_eq_true rfl) rfl rfl rfl ?_
        first | refine a_if_neB (tgt := 46) (pc := 31) dX5_copy_31 (by decide) (fun c_31 => ?_) (fun c_31 => ?_) | refine a_if_ne (tgt := 46) (pc := 31) dX5_copy_31 (by decide) (fun c_31 => ?_) (fun c_31 => ?_)
        · refine a_ldc2 (pc := 46) dX5_copy_46 kl_X5_215 ?_
          exact a_lret (pc := 49) dX5_copy_49 rfl rfl (by unfold o_copy; rw [if_neg (fun h => h.elim c_6 c_15)]; first | exact zret' x0 (if_pos (Or.inl c_31)) rfl | exact zret' x0 (if_pos (Or.inr c_43)) rfl)
        · refine a_aload_0 (pc := 34) dX5_copy_34 ?_
          refine a_getf (ci := 5) (j := 6) rfl win_X5 (by decide) (pc := 35) dX5_copy_35 kf_X5_47 rfl rfl ?_
          refine a_iload_3 (pc := 38) dX5_copy_38 ?_
          refine a_aaldN (k := 1) (pc := 39) dX5_copy_39 rfl (by decide) (by decide) rfl ?_
          first
            | refine cV_P (ad := ad) (q0 := 24) (S2 := sX3_isMissing) (c_isMissing l G (zpk ad [24, 25]) (σ.2.2.2 0) (σ.2.2.1 0)) kc_X3_isMissing km_X5_211 ki_X3_isMissing kv_X3_isMissing kini_X3 ⟨kn_X3_isMissing, by decide, by decide⟩ (pc := 40) dX5_copy_40 [24, 25] rfl rfl rfl rfl (Nat.le_of_ble_eq_true rfl) rfl rfl rfl ?_
            | refine cV_P (ad := ad) (q0 := 26) (S2 := sX3_isMissing) (c_isMissing l G (zpk ad [26, 27]) (σ.2.2.2 1) (σ.2.2.1 1)) kc_X3_isMissing km_X5_211 ki_X3_isMissing kv_X3_isMissing kini_X3 ⟨kn_X3_isMissing, by decide, by decide⟩ (pc := 40) dX5_copy_40 [26, 27] rfl rfl rfl rfl (Nat.le_of_ble_eq_true rfl) rfl rfl rfl ?_
          first | refine a_if_eqB (tgt := 50) (pc := 43) dX5_copy_43 (by decide) (fun c_43 => ?_) (fun c_43 => ?_) | refine a_if_eq (tgt := 50) (pc := 43) dX5_copy_43 (by decide) (fun c_43 => ?_) (fun c_43 => ?_)
          · refine a_aload_0 (pc := 50) dX5_copy_50 ?_
            refine a_getf (ci := 5) (j := 6) rfl win_X5 (by decide) (pc := 51) dX5_copy_51 kf_X5_47 rfl rfl ?_
            refine a_iload_1 (pc := 54) dX5_copy_54 ?_
            refine a_aaldN (k := 0) (pc := 55) dX5_copy_55 rfl (by decide) (by decide) rfl ?_
            refine a_iload_2 (pc := 56) dX5_copy_56 ?_
            refine a_iload_5 (pc := 57) dX5_copy_57 ?_
            first
              | refine cV_P (ad := ad) (q0 := 24) (S2 := sX3_hasRun) (c_hasRun l G (zpk ad [24, 25]) (σ.2.2.2 0) (σ.2.2.1 0) p m) kc_X3_hasRun km_X5_262 ki_X3_hasRun kv_X3_hasRun kini_X3 ⟨kn_X3_hasRun, by decide, by decide⟩ (pc := 59) dX5_copy_59 [24, 25] rfl rfl rfl rfl (Nat.le_of_ble_eq_true rfl) rfl rfl rfl ?_
              | refine cV_P (ad := ad) (q0 := 26) (S2 := sX3_hasRun) (c_hasRun l G (zpk ad [26, 27]) (σ.2.2.2 1) (σ.2.2.1 1) p m) kc_X3_hasRun km_X5_262 ki_X3_hasRun kv_X3_hasRun kini_X3 ⟨kn_X3_hasRun, by decide, by decide⟩ (pc := 59) dX5_copy_59 [26, 27] rfl rfl rfl rfl (Nat.le_of_ble_eq_true rfl) rfl rfl rfl ?_
            first | refine a_if_eqB (tgt := 81) (pc := 62) dX5_copy_62 (by decide) (fun c_62 => ?_) (fun c_62 => ?_) | refine a_if_eq (tgt := 81) (pc := 62) dX5_copy_62 (by decide) (fun c_62 => ?_) (fun c_62 => ?_)
            · refine a_ldc2 (pc := 81) dX5_copy_81 kl_X5_260 ?_
              exact a_lret (pc := 84) dX5_copy_84 rfl rfl (by unfold o_copy; rw [if_neg (fun h => h.elim c_6 c_15)]; first | exact zret' x0 ((if_neg (fun h => h.elim c_31 c_43)).trans (if_pos (Or.inl c_62))) rfl | exact zret' x0 ((if_neg (fun h => h.elim c_31 c_43)).trans (if_pos (Or.inr c_78))) rfl)
            · refine a_aload_0 (pc := 65) dX5_copy_65 ?_
              refine a_getf (ci := 5) (j := 6) rfl win_X5 (by decide) (pc := 66) dX5_copy_66 kf_X5_47 rfl rfl ?_
              refine a_iload_3 (pc := 69) dX5_copy_69 ?_
              refine a_aaldN (k := 1) (pc := 70) dX5_copy_70 rfl (by decide) (by decide) rfl ?_
              refine a_iload_4 (pc := 71) dX5_copy_71 ?_
              refine a_iload_5 (pc := 73) dX5_copy_73 ?_
              first
                | refine cV_P (ad := ad) (q0 := 24) (S2 := sX3_hasRun) (c_hasRun l G (zpk ad [24, 25]) (σ.2.2.2 0) (σ.2.2.1 0) a m) kc_X3_hasRun km_X5_262 ki_X3_hasRun kv_X3_hasRun kini_X3 ⟨kn_X3_hasRun, by decide, by decide⟩ (pc := 75) dX5_copy_75 [24, 25] rfl rfl rfl rfl (Nat.le_of_ble_eq_true rfl) rfl rfl rfl ?_
                | refine cV_P (ad := ad) (q0 := 26) (S2 := sX3_hasRun) (c_hasRun l G (zpk ad [26, 27]) (σ.2.2.2 1) (σ.2.2.1 1) a m) kc_X3_hasRun km_X5_262 ki_X3_hasRun kv_X3_hasRun kini_X3 ⟨kn_X3_hasRun, by decide, by decide⟩ (pc := 75) dX5_copy_75 [26, 27] rfl rfl rfl rfl (Nat.le_of_ble_eq_true rfl) rfl rfl rfl ?_
              first | refine a_if_neB (tgt := 85) (pc := 78) dX5_copy_78 (by decide) (fun c_78 => ?_) (fun c_78 => ?_) | refine a_if_ne (tgt := 85) (pc := 78) dX5_copy_78 (by decide) (fun c_78 => ?_) (fun c_78 => ?_)
              · refine a_aload_0 (pc := 85) dX5_copy_85 ?_
                refine a_getf (ci := 5) (j := 6) rfl win_X5 (by decide) (pc := 86) dX5_copy_86 kf_X5_47 rfl rfl ?_
                refine a_iload_1 (pc := 89) dX5_copy_89 ?_
                refine a_aaldN (k := 0) (pc := 90) dX5_copy_90 rfl (by decide) (by decide) rfl ?_
                refine a_getfN (ci := 3) (j := 0) rfl win_X3 (by decide) (pc := 91) dX5_copy_91 kf_X5_220 rfl rfl ?_
                refine a_iload_2 (pc := 94) dX5_copy_94 ?_
                refine a_aload_0 (pc := 95) dX5_copy_95 ?_
                refine a_getf (ci := 5) (j := 6) rfl win_X5 (by decide) (pc := 96) dX5_copy_96 kf_X5_47 rfl rfl ?_
                refine a_iload_3 (pc := 99) dX5_copy_99 ?_
                refine a_aaldN (k := 1) (pc := 100) dX5_copy_100 rfl (by decide) (by decide) rfl ?_
                refine a_getfN (ci := 3) (j := 0) rfl win_X3 (by decide) (pc := 101) dX5_copy_101 kf_X5_220 rfl rfl ?_
                refine a_iload_4 (pc := 104) dX5_copy_104 ?_
                refine a_iload_5 (pc := 106) dX5_copy_106 ?_
                refine a_copy (t0 := 2) (pc := 108) dX5_copy_108 km_X5_265 knat_copy kstat_copy kini_J10 rfl rfl rfl rfl rfl c_62.1 c_78.1 c_62.2.1 (by first | exact zHR_le hσ (s := 0) (by decide) c_62 | exact zHR_le hσ (s := 1) (by decide) c_62) (by first | exact zHR_le hσ (s := 0) (by decide) c_78 | exact zHR_le hσ (s := 1) (by decide) c_78) (fun i_ hi_ => by first | exact hσ.2.2.2.2.2.2.2.2.2.2.2.2.2 0 (by decide) _ (by have := zHR_le hσ (s := 0) (by decide) c_62; omega) | exact hσ.2.2.2.2.2.2.2.2.2.2.2.2.2 1 (by decide) _ (by have := zHR_le hσ (s := 1) (by decide) c_62; omega)) (by decide) (Nat.le_of_ble_eq_true (by decide)) ?_
                refine a_iload_5 (pc := 111) dX5_copy_111 ?_
                refine a_i2l (pc := 113) dX5_copy_113 ?_
                exact a_lret (pc := 114) dX5_copy_114 rfl rfl (by unfold o_copy; rw [if_neg (fun h => h.elim c_6 c_15)]; exact zret' x0 ((if_neg (fun h => h.elim c_31 c_43)).trans (if_neg (fun h => h.elim (fun h => h c_62) (fun h => h c_78)))) rfl)
              · refine a_ldc2 (pc := 81) dX5_copy_81 kl_X5_260 ?_
                exact a_lret (pc := 84) dX5_copy_84 rfl rfl (by unfold o_copy; rw [if_neg (fun h => h.elim c_6 c_15)]; first | exact zret' x0 ((if_neg (fun h => h.elim c_31 c_43)).trans (if_pos (Or.inl c_62))) rfl | exact zret' x0 ((if_neg (fun h => h.elim c_31 c_43)).trans (if_pos (Or.inr c_78))) rfl)
          · refine a_ldc2 (pc := 46) dX5_copy_46 kl_X5_215 ?_
            exact a_lret (pc := 49) dX5_copy_49 rfl rfl (by unfold o_copy; rw [if_neg (fun h => h.elim c_6 c_15)]; first | exact zret' x0 (if_pos (Or.inl c_31)) rfl | exact zret' x0 (if_pos (Or.inr c_43)) rfl)
      · refine a_aload_0 (pc := 22) dX5_copy_22 ?_
        refine a_getf (ci := 5) (j := 6) rfl win_X5 (by decide) (pc := 23) dX5_copy_23 kf_X5_47 rfl rfl ?_
        refine a_iload_1 (pc := 26) dX5_copy_26 ?_
        refine a_aaldN (k := 1) (pc := 27) dX5_copy_27 rfl (by decide) (by decide) rfl ?_
        first
          | refine cV_P (ad := ad) (q0 := 24) (S2 := sX3_isMissing) (c_isMissing l G (zpk ad [24, 25]) (σ.2.2.2 0) (σ.2.2.1 0)) kc_X3_isMissing km_X5_211 ki_X3_isMissing kv_X3_isMissing kini_X3 ⟨kn_X3_isMissing, by decide, by decide⟩ (pc := 28) dX5_copy_28 [24, 25] rfl rfl rfl rfl (Nat.le_of_ble_eq_true rfl) rfl rfl rfl ?_
          | refine cV_P (ad := ad) (q0 := 26) (S2 := sX3_isMissing) (c_isMissing l G (zpk ad [26, 27]) (σ.2.2.2 1) (σ.2.2.1 1)) kc_X3_isMissing km_X5_211 ki_X3_isMissing kv_X3_isMissing kini_X3 ⟨kn_X3_isMissing, by decide, by decide⟩ (pc := 28) dX5_copy_28 [26, 27] rfl rfl rfl rfl (Nat.le_of_ble_eq_true rfl) rfl rfl rfl ?_
        first | refine a_if_neB (tgt := 46) (pc := 31) dX5_copy_31 (by decide) (fun c_31 => ?_) (fun c_31 => ?_) | refine a_if_ne (tgt := 46) (pc := 31) dX5_copy_31 (by decide) (fun c_31 => ?_) (fun c_31 => ?_)
        · refine a_ldc2 (pc := 46) dX5_copy_46 kl_X5_215 ?_
          exact a_lret (pc := 49) dX5_copy_49 rfl rfl (by unfold o_copy; rw [if_neg (fun h => h.elim c_6 c_15)]; first | exact zret' x0 (if_pos (Or.inl c_31)) rfl | exact zret' x0 (if_pos (Or.inr c_43)) rfl)
        · refine a_aload_0 (pc := 34) dX5_copy_34 ?_
          refine a_getf (ci := 5) (j := 6) rfl win_X5 (by decide) (pc := 35) dX5_copy_35 kf_X5_47 rfl rfl ?_
          refine a_iload_3 (pc := 38) dX5_copy_38 ?_
          refine a_aaldN (k := 0) (pc := 39) dX5_copy_39 rfl (by decide) (by decide) rfl ?_
          first
            | refine cV_P (ad := ad) (q0 := 24) (S2 := sX3_isMissing) (c_isMissing l G (zpk ad [24, 25]) (σ.2.2.2 0) (σ.2.2.1 0)) kc_X3_isMissing km_X5_211 ki_X3_isMissing kv_X3_isMissing kini_X3 ⟨kn_X3_isMissing, by decide, by decide⟩ (pc := 40) dX5_copy_40 [24, 25] rfl rfl rfl rfl (Nat.le_of_ble_eq_true rfl) rfl rfl rfl ?_
            | refine cV_P (ad := ad) (q0 := 26) (S2 := sX3_isMissing) (c_isMissing l G (zpk ad [26, 27]) (σ.2.2.2 1) (σ.2.2.1 1)) kc_X3_isMissing km_X5_211 ki_X3_isMissing kv_X3_isMissing kini_X3 ⟨kn_X3_isMissing, by decide, by decide⟩ (pc := 40) dX5_copy_40 [26, 27] rfl rfl rfl rfl (Nat.le_of_ble_eq_true rfl) rfl rfl rfl ?_
          first | refine a_if_eqB (tgt := 50) (pc := 43) dX5_copy_43 (by decide) (fun c_43 => ?_) (fun c_43 => ?_) | refine a_if_eq (tgt := 50) (pc := 43) dX5_copy_43 (by decide) (fun c_43 => ?_) (fun c_43 => ?_)
          · refine a_aload_0 (pc := 50) dX5_copy_50 ?_
            refine a_getf (ci := 5) (j := 6) rfl win_X5 (by decide) (pc := 51) dX5_copy_51 kf_X5_47 rfl rfl ?_
            refine a_iload_1 (pc := 54) dX5_copy_54 ?_
            refine a_aaldN (k := 1) (pc := 55) dX5_copy_55 rfl (by decide) (by decide) rfl ?_
            refine a_iload_2 (pc := 56) dX5_copy_56 ?_
            refine a_iload_5 (pc := 57) dX5_copy_57 ?_
            first
              | refine cV_P (ad := ad) (q0 := 24) (S2 := sX3_hasRun) (c_hasRun l G (zpk ad [24, 25]) (σ.2.2.2 0) (σ.2.2.1 0) p m) kc_X3_hasRun km_X5_262 ki_X3_hasRun kv_X3_hasRun kini_X3 ⟨kn_X3_hasRun, by decide, by decide⟩ (pc := 59) dX5_copy_59 [24, 25] rfl rfl rfl rfl (Nat.le_of_ble_eq_true rfl) rfl rfl rfl ?_
              | refine cV_P (ad := ad) (q0 := 26) (S2 := sX3_hasRun) (c_hasRun l G (zpk ad [26, 27]) (σ.2.2.2 1) (σ.2.2.1 1) p m) kc_X3_hasRun km_X5_262 ki_X3_hasRun kv_X3_hasRun kini_X3 ⟨kn_X3_hasRun, by decide, by decide⟩ (pc := 59) dX5_copy_59 [26, 27] rfl rfl rfl rfl (Nat.le_of_ble_eq_true rfl) rfl rfl rfl ?_
            first | refine a_if_eqB (tgt := 81) (pc := 62) dX5_copy_62 (by decide) (fun c_62 => ?_) (fun c_62 => ?_) | refine a_if_eq (tgt := 81) (pc := 62) dX5_copy_62 (by decide) (fun c_62 => ?_) (fun c_62 => ?_)
            · refine a_ldc2 (pc := 81) dX5_copy_81 kl_X5_260 ?_
              exact a_lret (pc := 84) dX5_copy_84 rfl rfl (by unfold o_copy; rw [if_neg (fun h => h.elim c_6 c_15)]; first | exact zret' x0 ((if_neg (fun h => h.elim c_31 c_43)).trans (if_pos (Or.inl c_62))) rfl | exact zret' x0 ((if_neg (fun h => h.elim c_31 c_43)).trans (if_pos (Or.inr c_78))) rfl)
            · refine a_aload_0 (pc := 65) dX5_copy_65 ?_
              refine a_getf (ci := 5) (j := 6) rfl win_X5 (by decide) (pc := 66) dX5_copy_66 kf_X5_47 rfl rfl ?_
              refine a_iload_3 (pc := 69) dX5_copy_69 ?_
              refine a_aaldN (k := 0) (pc := 70) dX5_copy_70 rfl (by decide) (by decide) rfl ?_
              refine a_iload_4 (pc := 71) dX5_copy_71 ?_
              refine a_iload_5 (pc := 73) dX5_copy_73 ?_
              first
                | refine cV_P (ad := ad) (q0 := 24) (S2 := sX3_hasRun) (c_hasRun l G (zpk ad [24, 25]) (σ.2.2.2 0) (σ.2.2.1 0) a m) kc_X3_hasRun km_X5_262 ki_X3_hasRun kv_X3_hasRun kini_X3 ⟨kn_X3_hasRun, by decide, by decide⟩ (pc := 75) dX5_copy_75 [24, 25] rfl rfl rfl rfl (Nat.le_of_ble_eq_true rfl) rfl rfl rfl ?_
                | refine cV_P (ad := ad) (q0 := 26) (S2 := sX3_hasRun) (c_hasRun l G (zpk ad [26, 27]) (σ.2.2.2 1) (σ.2.2.1 1) a m) kc_X3_hasRun km_X5_262 ki_X3_hasRun kv_X3_hasRun kini_X3 ⟨kn_X3_hasRun, by decide, by decide⟩ (pc := 75) dX5_copy_75 [26, 27] rfl rfl rfl rfl (Nat.le_of_ble_eq_true rfl) rfl rfl rfl ?_
              first | refine a_if_neB (tgt := 85) (pc := 78) dX5_copy_78 (by decide) (fun c_78 => ?_) (fun c_78 => ?_) | refine a_if_ne (tgt := 85) (pc := 78) dX5_copy_78 (by decide) (fun c_78 => ?_) (fun c_78 => ?_)
              · refine a_aload_0 (pc := 85) dX5_copy_85 ?_
                refine a_getf (ci := 5) (j := 6) rfl win_X5 (by decide) (pc := 86) dX5_copy_86 kf_X5_47 rfl rfl ?_
                refine a_iload_1 (pc := 89) dX5_copy_89 ?_
                refine a_aaldN (k := 1) (pc := 90) dX5_copy_90 rfl (by decide) (by decide) rfl ?_
                refine a_getfN (ci := 3) (j := 0) rfl win_X3 (by decide) (pc := 91) dX5_copy_91 kf_X5_220 rfl rfl ?_
                refine a_iload_2 (pc := 94) dX5_copy_94 ?_
                refine a_aload_0 (pc := 95) dX5_copy_95 ?_
                refine a_getf (ci := 5) (j := 6) rfl win_X5 (by decide) (pc := 96) dX5_copy_96 kf_X5_47 rfl rfl ?_
                refine a_iload_3 (pc := 99) dX5_copy_99 ?_
                refine a_aaldN (k := 0) (pc := 100) dX5_copy_100 rfl (by decide) (by decide) rfl ?_
                refine a_getfN (ci := 3) (j := 0) rfl win_X3 (by decide) (pc := 101) dX5_copy_101 kf_X5_220 rfl rfl ?_
                refine a_iload_4 (pc := 104) dX5_copy_104 ?_
                refine a_iload_5 (pc := 106) dX5_copy_106 ?_
                refine a_copy (t0 := 2) (pc := 108) dX5_copy_108 km_X5_265 knat_copy kstat_copy kini_J10 rfl rfl rfl rfl rfl c_62.1 c_78.1 c_62.2.1 (by first | exact zHR_le hσ (s := 0) (by decide) c_62 | exact zHR_le hσ (s := 1) (by decide) c_62) (by first | exact zHR_le hσ (s := 0) (by decide) c_78 | exact zHR_le hσ (s := 1) (by decide) c_78) (fun i_ hi_ => by first | exact hσ.2.2.2.2.2.2.2.2.2.2.2.2.2 0 (by decide) _ (by have := zHR_le hσ (s := 0) (by decide) c_62; omega) | exact hσ.2.2.2.2.2.2.2.2.2.2.2.2.2 1 (by decide) _ (by have := zHR_le hσ (s := 1) (by decide) c_62; omega)) (by decide) (Nat.le_of_ble_eq_true (by decide)) ?_
                refine a_iload_5 (pc := 111) dX5_copy_111 ?_
                refine a_i2l (pc := 113) dX5_copy_113 ?_
                exact a_lret (pc := 114) dX5_copy_114 rfl rfl (by unfold o_copy; rw [if_neg (fun h => h.elim c_6 c_15)]; exact zret' x0 ((if_neg (fun h => h.elim c_31 c_43)).trans (if_neg (fun h => h.elim (fun h => h c_62) (fun h => h c_78)))) rfl)
              · refine a_ldc2 (pc := 81) dX5_copy_81 kl_X5_260 ?_
                exact a_lret (pc := 84) dX5_copy_84 rfl rfl (by unfold o_copy; rw [if_neg (fun h => h.elim c_6 c_15)]; first | exact zret' x0 ((if_neg (fun h => h.elim c_31 c_43)).trans (if_pos (Or.inl c_62))) rfl | exact zret' x0 ((if_neg (fun h => h.elim c_31 c_43)).trans (if_pos (Or.inr c_78))) rfl)
          · refine a_ldc2 (pc := 46) dX5_copy_46 kl_X5_215 ?_
            exact a_lret (pc := 49) dX5_copy_49 rfl rfl (by unfold o_copy; rw [if_neg (fun h => h.elim c_6 c_15)]; first | exact zret' x0 (if_pos (Or.inl c_31)) rfl | exact zret' x0 (if_pos (Or.inr c_43)) rfl)
      · refine a_aload_0 (pc := 22) dX5_copy_22 ?_
        refine a_getf (ci := 5) (j := 6) rfl win_X5 (by decide) (pc := 23) dX5_copy_23 kf_X5_47 rfl rfl ?_
        refine a_iload_1 (pc := 26) dX5_copy_26 ?_
        refine a_aaldN (k := 1) (pc := 27) dX5_copy_27 rfl (by decide) (by decide) rfl ?_
        first
          | refine cV_P (ad := ad) (q0 := 24) (S2 := sX3_isMissing) (c_isMissing l G (zpk ad [24, 25]) (σ.2.2.2 0) (σ.2.2.1 0)) kc_X3_isMissing km_X5_211 ki_X3_isMissing kv_X3_isMissing kini_X3 ⟨kn_X3_isMissing, by decide, by decide⟩ (pc := 28) dX5_copy_28 [24, 25] rfl rfl rfl rfl (Nat.le_of_ble_eq_true rfl) rfl rfl rfl ?_
          | refine cV_P (ad := ad) (q0 := 26) (S2 := sX3_isMissing) (c_isMissing l G (zpk ad [26, 27]) (σ.2.2.2 1) (σ.2.2.1 1)) kc_X3_isMissing km_X5_211 ki_X3_isMissing kv_X3_isMissing kini_X3 ⟨kn_X3_isMissing, by decide, by decide⟩ (pc := 28) dX5_copy_28 [26, 27] rfl rfl rfl rfl (Nat.le_of_ble_eq_true rfl) rfl rfl rfl ?_
        first | refine a_if_neB (tgt := 46) (pc := 31) dX5_copy_31 (by decide) (fun c_31 => ?_) (fun c_31 => ?_) | refine a_if_ne (tgt := 46) (pc := 31) dX5_copy_31 (by decide) (fun c_31 => ?_) (fun c_31 => ?_)
        · refine a_ldc2 (pc := 46) dX5_copy_46 kl_X5_215 ?_
          exact a_lret (pc := 49) dX5_copy_49 rfl rfl (by unfold o_copy; rw [if_neg (fun h => h.elim c_6 c_15)]; first | exact zret' x0 (if_pos (Or.inl c_31)) rfl | exact zret' x0 (if_pos (Or.inr c_43)) rfl)
        · refine a_aload_0 (pc := 34) dX5_copy_34 ?_
          refine a_getf (ci := 5) (j := 6) rfl win_X5 (by decide) (pc := 35) dX5_copy_35 kf_X5_47 rfl rfl ?_
          refine a_iload_3 (pc := 38) dX5_copy_38 ?_
          refine a_aaldN (k := 1) (pc := 39) dX5_copy_39 rfl (by decide) (by decide) rfl ?_
          first
            | refine cV_P (ad := ad) (q0 := 24) (S2 := sX3_isMissing) (c_isMissing l G (zpk ad [24, 25]) (σ.2.2.2 0) (σ.2.2.1 0)) kc_X3_isMissing km_X5_211 ki_X3_isMissing kv_X3_isMissing kini_X3 ⟨kn_X3_isMissing, by decide, by decide⟩ (pc := 40) dX5_copy_40 [24, 25] rfl rfl rfl rfl (Nat.le_of_ble_eq_true rfl) rfl rfl rfl ?_
            | refine cV_P (ad := ad) (q0 := 26) (S2 := sX3_isMissing) (c_isMissing l G (zpk ad [26, 27]) (σ.2.2.2 1) (σ.2.2.1 1)) kc_X3_isMissing km_X5_211 ki_X3_isMissing kv_X3_isMissing kini_X3 ⟨kn_X3_isMissing, by decide, by decide⟩ (pc := 40) dX5_copy_40 [26, 27] rfl rfl rfl rfl (Nat.le_of_ble_eq_true rfl) rfl rfl rfl ?_
          first | refine a_if_eqB (tgt := 50) (pc := 43) dX5_copy_43 (by decide) (fun c_43 => ?_) (fun c_43 => ?_) | refine a_if_eq (tgt := 50) (pc := 43) dX5_copy_43 (by decide) (fun c_43 => ?_) (fun c_43 => ?_)
          · refine a_aload_0 (pc := 50) dX5_copy_50 ?_
            refine a_getf (ci := 5) (j := 6) rfl win_X5 (by decide) (pc := 51) dX5_copy_51 kf_X5_47 rfl rfl ?_
            refine a_iload_1 (pc := 54) dX5_copy_54 ?_
            refine a_aaldN (k := 1) (pc := 55) dX5_copy_55 rfl (by decide) (by decide) rfl ?_
            refine a_iload_2 (pc := 56) dX5_copy_56 ?_
            refine a_iload_5 (pc := 57) dX5_copy_57 ?_
            first
              | refine cV_P (ad := ad) (q0 := 24) (S2 := sX3_hasRun) (c_hasRun l G (zpk ad [24, 25]) (σ.2.2.2 0) (σ.2.2.1 0) p m) kc_X3_hasRun km_X5_262 ki_X3_hasRun kv_X3_hasRun kini_X3 ⟨kn_X3_hasRun, by decide, by decide⟩ (pc := 59) dX5_copy_59 [24, 25] rfl rfl rfl rfl (Nat.le_of_ble_eq_true rfl) rfl rfl rfl ?_
              | refine cV_P (ad := ad) (q0 := 26) (S2 := sX3_hasRun) (c_hasRun l G (zpk ad [26, 27]) (σ.2.2.2 1) (σ.2.2.1 1) p m) kc_X3_hasRun km_X5_262 ki_X3_hasRun kv_X3_hasRun kini_X3 ⟨kn_X3_hasRun, by decide, by decide⟩ (pc := 59) dX5_copy_59 [26, 27] rfl rfl rfl rfl (Nat.le_of_ble_eq_true rfl) rfl rfl rfl ?_
            first | refine a_if_eqB (tgt := 81) (pc := 62) dX5_copy_62 (by decide) (fun c_62 => ?_) (fun c_62 => ?_) | refine a_if_eq (tgt := 81) (pc := 62) dX5_copy_62 (by decide) (fun c_62 => ?_) (fun c_62 => ?_)
            · refine a_ldc2 (pc := 81) dX5_copy_81 kl_X5_260 ?_
              exact a_lret (pc := 84) dX5_copy_84 rfl rfl (by unfold o_copy; rw [if_neg (fun h => h.elim c_6 c_15)]; first | exact zret' x0 ((if_neg (fun h => h.elim c_31 c_43)).trans (if_pos (Or.inl c_62))) rfl | exact zret' x0 ((if_neg (fun h => h.elim c_31 c_43)).trans (if_pos (Or.inr c_78))) rfl)
            · refine a_aload_0 (pc := 65) dX5_copy_65 ?_
              refine a_getf (ci := 5) (j := 6) rfl win_X5 (by decide) (pc := 66) dX5_copy_66 kf_X5_47 rfl rfl ?_
              refine a_iload_3 (pc := 69) dX5_copy_69 ?_
              refine a_aaldN (k := 1) (pc := 70) dX5_copy_70 rfl (by decide) (by decide) rfl ?_
              refine a_iload_4 (pc := 71) dX5_copy_71 ?_
              refine a_iload_5 (pc := 73) dX5_copy_73 ?_
              first
                | refine cV_P (ad := ad) (q0 := 24) (S2 := sX3_hasRun) (c_hasRun l G (zpk ad [24, 25]) (σ.2.2.2 0) (σ.2.2.1 0) a m) kc_X3_hasRun km_X5_262 ki_X3_hasRun kv_X3_hasRun kini_X3 ⟨kn_X3_hasRun, by decide, by decide⟩ (pc := 75) dX5_copy_75 [24, 25] rfl rfl rfl rfl (Nat.le_of_ble_eq_true rfl) rfl rfl rfl ?_
                | refine cV_P (ad := ad) (q0 := 26) (S2 := sX3_hasRun) (c_hasRun l G (zpk ad [26, 27]) (σ.2.2.2 1) (σ.2.2.1 1) a m) kc_X3_hasRun km_X5_262 ki_X3_hasRun kv_X3_hasRun kini_X3 ⟨kn_X3_hasRun, by decide, by decide⟩ (pc := 75) dX5_copy_75 [26, 27] rfl rfl rfl rfl (Nat.le_of_ble_eq_true rfl) rfl rfl rfl ?_
              first | refine a_if_neB (tgt := 85) (pc := 78) dX5_copy_78 (by decide) (fun c_78 => ?_) (fun c_78 => ?_) | refine a_if_ne (tgt := 85) (pc := 78) dX5_copy_78 (by decide) (fun c_78 => ?_) (fun c_78 => ?_)
              · refine a_aload_0 (pc := 85) dX5_copy_85 ?_
                refine a_getf (ci := 5) (j := 6) rfl win_X5 (by decide) (pc := 86) dX5_copy_86 kf_X5_47 rfl rfl ?_
                refine a_iload_1 (pc := 89) dX5_copy_89 ?_
                refine a_aaldN (k := 1) (pc := 90) dX5_copy_90 rfl (by decide) (by decide) rfl ?_
                refine a_getfN (ci := 3) (j := 0) rfl win_X3 (by decide) (pc := 91) dX5_copy_91 kf_X5_220 rfl rfl ?_
                refine a_iload_2 (pc := 94) dX5_copy_94 ?_
                refine a_aload_0 (pc := 95) dX5_copy_95 ?_
                refine a_getf (ci := 5) (j := 6) rfl win_X5 (by decide) (pc := 96) dX5_copy_96 kf_X5_47 rfl rfl ?_
                refine a_iload_3 (pc := 99) dX5_copy_99 ?_
                refine a_aaldN (k := 1) (pc := 100) dX5_copy_100 rfl (by decide) (by decide) rfl ?_
                refine a_getfN (ci := 3) (j := 0) rfl win_X3 (by decide) (pc := 101) dX5_copy_101 kf_X5_220 rfl rfl ?_
                refine a_iload_4 (pc := 104) dX5_copy_104 ?_
                refine a_iload_5 (pc := 106) dX5_copy_106 ?_
                refine a_copy (t0 := 2) (pc := 108) dX5_copy_108 km_X5_265 knat_copy kstat_copy kini_J10 rfl rfl rfl rfl rfl c_62.1 c_78.1 c_62.2.1 (by first | exact zHR_le hσ (s := 0) (by decide) c_62 | exact zHR_le hσ (s := 1) (by decide) c_62) (by first | exact zHR_le hσ (s := 0) (by decide) c_78 | exact zHR_le hσ (s := 1) (by decide) c_78) (fun i_ hi_ => by first | exact hσ.2.2.2.2.2.2.2.2.2.2.2.2.2 0 (by decide) _ (by have := zHR_le hσ (s := 0) (by decide) c_62; omega) | exact hσ.2.2.2.2.2.2.2.2.2.2.2.2.2 1 (by decide) _ (by have := zHR_le hσ (s := 1) (by decide) c_62; omega)) (by decide) (Nat.le_of_ble_eq_true (by decide)) ?_
                refine a_iload_5 (pc := 111) dX5_copy_111 ?_
                refine a_i2l (pc := 113) dX5_copy_113 ?_
                exact a_lret (pc := 114) dX5_copy_114 rfl rfl (by unfold o_copy; rw [if_neg (fun h => h.elim c_6 c_15)]; exact zret' x0 ((if_neg (fun h => h.elim c_31 c_43)).trans (if_neg (fun h => h.elim (fun h => h c_62) (fun h => h c_78)))) rfl)
              · refine a_ldc2 (pc := 81) dX5_copy_81 kl_X5_260 ?_
                exact a_lret (pc := 84) dX5_copy_84 rfl rfl (by unfold o_copy; rw [if_neg (fun h => h.elim c_6 c_15)]; first | exact zret' x0 ((if_neg (fun h => h.elim c_31 c_43)).trans (if_pos (Or.inl c_62))) rfl | exact zret' x0 ((if_neg (fun h => h.elim c_31 c_43)).trans (if_pos (Or.inr c_78))) rfl)
          · refine a_ldc2 (pc := 46) dX5_copy_46 kl_X5_215 ?_
            exact a_lret (pc := 49) dX5_copy_49 rfl rfl (by unfold o_copy; rw [if_neg (fun h => h.elim c_6 c_15)]; first | exact zret' x0 (if_pos (Or.inl c_31)) rfl | exact zret' x0 (if_pos (Or.inr c_43)) rfl)
    · refine a_ldc2 (pc := 18) dX5_copy_18 kl_X5_68 ?_
      exact a_lret (pc := 21) dX5_copy_21 rfl rfl (by first | exact zret' x0 (if_pos (Or.inl c_6)) rfl | exact zret' x0 (if_pos (Or.inr c_15)) rfl)

