/-! Skins, Sheet, Arrays.fill. -/
abbrev wSk (G : zG) (ad : Nat → Nat) (kd fo : Nat → Int32) : va_W := [(ad 0, .inr (4, [.ref (ad 1), .ref (ad 2)])), (ad 1, .inl (zcI G, 72, .inl kd)), (ad 2, .inl (zcI G, 72, .inl fo))]
def zPassOf (x : Int32) : Int32 := ([40, 30, 60, 20] : List Int32).getD x.toNatClampNeg 0
def zLeakOf (x : Int32) : Int32 := ([10, 5, 25, 2] : List Int32).getD x.toNatClampNeg 0
def zAbove (x : Int32) : Int32 := ([0, 0, 0, 1] : List Int32).getD x.toNatClampNeg 0
def zPass (kd fo : Nat → Int32) (k : Nat) : Int32 := zPassOf (kd k) - zPassOf (kd k) * fo k / 100
def zLeak (kd : Nat → Int32) (k : Nat) : Int32 := zLeakOf (kd k)
def zExch (f : Nat → Int32) (a b : Nat) : Nat → Int32 := upd (upd f a (f b)) b (f a)
set_option maxRecDepth 100000 in
set_option maxHeartbeats 4000000 in
/-- passAt -/
theorem c_passAt (l : Launch) (G : zG) (ad : Nat → Nat) (kd fo : Nat → Int32) (k : Nat) (hk : k < 72) (hv : vp_in (kd k) 4) : zSem l G sX4_passAt [.ref (ad 0), .int (nI k)] (wSk G ad kd fo) (zP (.int (zPass kd fo k)) (wSk G ad kd fo)) := by
  refine zEnterV (L := [some (.ref (ad 0)), some (.int (nI k)), none]) (by decide) rfl (Nat.le_of_ble_eq_true rfl) rfl ?_
  refine a_gets (k := 0) (pc := 0) dX4_passAt_0 rfl kf_X4_18 ?_
  refine a_aload_0 (pc := 3) dX4_passAt_3 ?_
  refine a_getf (ci := 4) (j := 0) rfl win_X4 (by decide) (pc := 4) dX4_passAt_4 kf_X4_9 rfl rfl ?_
  refine a_iload_1 (pc := 7) dX4_passAt_7 ?_
  refine a_ialdN (pc := 8) dX4_passAt_8 rfl (by omega) (by decide) ?_
  refine a_stald rfl (pc := 9) dX4_passAt_9 hv ?_
  refine a_istore_2 (pc := 10) dX4_passAt_10 rfl (by decide) ?_
  refine a_iload_2 (pc := 11) dX4_passAt_11 ?_
  refine a_iload_2 (pc := 12) dX4_passAt_12 ?_
  refine a_aload_0 (pc := 13) dX4_passAt_13 ?_
  refine a_getf (ci := 4) (j := 1) rfl win_X4 (by decide) (pc := 14) dX4_passAt_14 kf_X4_15 rfl rfl ?_
  refine a_iload_1 (pc := 17) dX4_passAt_17 ?_
  refine a_ialdN (pc := 18) dX4_passAt_18 rfl (by omega) (by decide) ?_
  refine a_imul (pc := 19) dX4_passAt_19 ?_
  refine a_bipush (v := 100) (pc := 20) dX4_passAt_20 (by decide) ?_
  refine a_idiv (pc := 22) dX4_passAt_22 (by decide) ?_
  refine a_isub (pc := 23) dX4_passAt_23 ?_
  exact a_iret (pc := 24) dX4_passAt_24 rfl rfl ⟨rfl, rfl⟩

set_option maxRecDepth 100000 in
set_option maxHeartbeats 4000000 in
/-- leakAt -/
theorem c_leakAt (l : Launch) (G : zG) (ad : Nat → Nat) (kd fo : Nat → Int32) (k : Nat) (hk : k < 72) (hv : vp_in (kd k) 4) : zSem l G sX4_leakAt [.ref (ad 0), .int (nI k)] (wSk G ad kd fo) (zP (.int (zLeak kd k)) (wSk G ad kd fo)) := by
  refine zEnterV (L := [some (.ref (ad 0)), some (.int (nI k))]) (by decide) rfl (Nat.le_of_ble_eq_true rfl) rfl ?_
  refine a_gets (k := 1) (pc := 0) dX4_leakAt_0 rfl kf_X4_21 ?_
  refine a_aload_0 (pc := 3) dX4_leakAt_3 ?_
  refine a_getf (ci := 4) (j := 0) rfl win_X4 (by decide) (pc := 4) dX4_leakAt_4 kf_X4_9 rfl rfl ?_
  refine a_iload_1 (pc := 7) dX4_leakAt_7 ?_
  refine a_ialdN (pc := 8) dX4_leakAt_8 rfl (by omega) (by decide) ?_
  refine a_stald rfl (pc := 9) dX4_leakAt_9 hv ?_
  exact a_iret (pc := 10) dX4_leakAt_10 rfl rfl ⟨rfl, rfl⟩

set_option maxRecDepth 100000 in
set_option maxHeartbeats 4000000 in
/-- isUnder -/
theorem c_isUnder (l : Launch) (G : zG) (ad : Nat → Nat) (kd fo : Nat → Int32) (k : Nat) (hk : k < 72) (hv : vp_in (kd k) 4) (x : Int32) : zSem l G sX4_isUnder [.ref (ad 0), .int (nI k), .int x] (wSk G ad kd fo) (zP (.int (zB (x = 0 ∨ x = kd k ∨ x = zAbove (kd k)))) (wSk G ad kd fo)) := by
  refine zEnterV (L := [some (.ref (ad 0)), some (.int (nI k)), some (.int x), none]) (by decide) rfl (Nat.le_of_ble_eq_true rfl) rfl ?_
  refine a_aload_0 (pc := 0) dX4_isUnder_0 ?_
  refine a_getf (ci := 4) (j := 0) rfl win_X4 (by decide) (pc := 1) dX4_isUnder_1 kf_X4_9 rfl rfl ?_
  refine a_iload_1 (pc := 4) dX4_isUnder_4 ?_
  refine a_ialdN (pc := 5) dX4_isUnder_5 rfl (by omega) (by decide) ?_
  refine a_istore_3 (pc := 6) dX4_isUnder_6 rfl (by decide) ?_
  refine a_iload_2 (pc := 7) dX4_isUnder_7 ?_
  first | refine a_if_eqB (tgt := 25) (pc := 8) dX4_isUnder_8 (by decide) (fun c_8 => ?_) (fun c_8 => ?_) | refine a_if_eq (tgt := 25) (pc := 8) dX4_isUnder_8 (by decide) (fun c_8 => ?_) (fun c_8 => ?_)
  · refine a_iconst (v := 1) (pc := 25) dX4_isUnder_25 (by decide) ?_
    refine a_goto (tgt := 30) (pc := 26) dX4_isUnder_26 (by decide) ?_
    exact a_zret (pc := 30) dX4_isUnder_30 rfl (by decide) rfl (by first | exact zPB1 (Or.inl c_8) | exact zPB1 (Or.inr (Or.inl c_13)) | exact zPB1 (Or.inr (Or.inr c_22)) | exact zPB0 (fun h => h.elim c_8 (fun h => h.elim c_13 c_22)))
  · refine a_iload_2 (pc := 11) dX4_isUnder_11 ?_
    refine a_iload_3 (pc := 12) dX4_isUnder_12 ?_
    refine a_icmp_eq (tgt := 25) (pc := 13) dX4_isUnder_13 (by decide) (fun c_13 => ?_) (fun c_13 => ?_)
    · refine a_iconst (v := 1) (pc := 25) dX4_isUnder_25 (by decide) ?_
      refine a_goto (tgt := 30) (pc := 26) dX4_isUnder_26 (by decide) ?_
      exact a_zret (pc := 30) dX4_isUnder_30 rfl (by decide) rfl (by first | exact zPB1 (Or.inl c_8) | exact zPB1 (Or.inr (Or.inl c_13)) | exact zPB1 (Or.inr (Or.inr c_22)) | exact zPB0 (fun h => h.elim c_8 (fun h => h.elim c_13 c_22)))
    · refine a_iload_2 (pc := 16) dX4_isUnder_16 ?_
      refine a_gets (k := 2) (pc := 17) dX4_isUnder_17 rfl kf_X4_24 ?_
      refine a_iload_3 (pc := 20) dX4_isUnder_20 ?_
      refine a_stald rfl (pc := 21) dX4_isUnder_21 hv ?_
      refine a_icmp_ne (tgt := 29) (pc := 22) dX4_isUnder_22 (by decide) (fun c_22 => ?_) (fun c_22 => ?_)
      · refine a_iconst (v := 0) (pc := 29) dX4_isUnder_29 (by decide) ?_
        exact a_zret (pc := 30) dX4_isUnder_30 rfl (by decide) rfl (by first | exact zPB1 (Or.inl c_8) | exact zPB1 (Or.inr (Or.inl c_13)) | exact zPB1 (Or.inr (Or.inr c_22)) | exact zPB0 (fun h => h.elim c_8 (fun h => h.elim c_13 c_22)))
      · refine a_iconst (v := 1) (pc := 25) dX4_isUnder_25 (by decide) ?_
        refine a_goto (tgt := 30) (pc := 26) dX4_isUnder_26 (by decide) ?_
        exact a_zret (pc := 30) dX4_isUnder_30 rfl (by decide) rfl (by first | exact zPB1 (Or.inl c_8) | exact zPB1 (Or.inr (Or.inl c_13)) | exact zPB1 (Or.inr (Or.inr c_22)) | exact zPB0 (fun h => h.elim c_8 (fun h => h.elim c_13 c_22)))

set_option maxRecDepth 100000 in
set_option maxHeartbeats 4000000 in
/-- renew -/
theorem c_renew (l : Launch) (G : zG) (ad : Nat → Nat) (kd fo : Nat → Int32) (k : Nat) (hk : k < 72) (x : Int32) : zSem l G sX4_renew [.ref (ad 0), .int (nI k), .int x] (wSk G ad kd fo) (zV (fun _ : Unit => True) (fun _ => .int (fo k)) (fun _ => wSk G ad (upd kd k x) (upd fo k 0))) := by
  refine zEnterV (L := [some (.ref (ad 0)), some (.int (nI k)), some (.int x), none]) (by decide) rfl (Nat.le_of_ble_eq_true rfl) rfl ?_
  refine a_aload_0 (pc := 0) dX4_renew_0 ?_
  refine a_getf (ci := 4) (j := 1) rfl win_X4 (by decide) (pc := 1) dX4_renew_1 kf_X4_15 rfl rfl ?_
  refine a_iload_1 (pc := 4) dX4_renew_4 ?_
  refine a_ialdN (pc := 5) dX4_renew_5 rfl (by omega) (by decide) ?_
  refine a_istore_3 (pc := 6) dX4_renew_6 rfl (by decide) ?_
  refine a_aload_0 (pc := 7) dX4_renew_7 ?_
  refine a_getf (ci := 4) (j := 0) rfl win_X4 (by decide) (pc := 8) dX4_renew_8 kf_X4_9 rfl rfl ?_
  refine a_iload_1 (pc := 11) dX4_renew_11 ?_
  refine a_iload_2 (pc := 12) dX4_renew_12 ?_
  refine a_iastN (pc := 13) dX4_renew_13 rfl (by omega) (by decide) ?_
  refine a_aload_0 (pc := 14) dX4_renew_14 ?_
  refine a_getf (ci := 4) (j := 1) rfl win_X4 (by decide) (pc := 15) dX4_renew_15 kf_X4_15 rfl rfl ?_
  refine a_iload_1 (pc := 18) dX4_renew_18 ?_
  refine a_iconst (v := 0) (pc := 19) dX4_renew_19 (by decide) ?_
  refine a_iastN (pc := 20) dX4_renew_20 rfl (by omega) (by decide) ?_
  refine a_iload_3 (pc := 21) dX4_renew_21 ?_
  exact a_iret (pc := 22) dX4_renew_22 rfl rfl ⟨(), trivial, rfl, rfl⟩

set_option maxRecDepth 100000 in
set_option maxHeartbeats 4000000 in
/-- exchange -/
theorem c_skExch (l : Launch) (G : zG) (ad : Nat → Nat) (kd fo : Nat → Int32) (k j : Nat) (hk : k < 72) (hj : j < 72) : zSem l G sX4_exchange [.ref (ad 0), .int (nI k), .int (nI j)] (wSk G ad kd fo) (z0 (fun _ : Unit => True) (fun _ => wSk G ad (zExch kd k j) (zExch fo k j))) := by
  refine zEnterV (L := [some (.ref (ad 0)), some (.int (nI k)), some (.int (nI j)), none, none]) (by decide) rfl (Nat.le_of_ble_eq_true rfl) rfl ?_
  refine a_aload_0 (pc := 0) dX4_exchange_0 ?_
  refine a_getf (ci := 4) (j := 0) rfl win_X4 (by decide) (pc := 1) dX4_exchange_1 kf_X4_9 rfl rfl ?_
  refine a_iload_1 (pc := 4) dX4_exchange_4 ?_
  refine a_ialdN (pc := 5) dX4_exchange_5 rfl (by omega) (by decide) ?_
  refine a_istore_3 (pc := 6) dX4_exchange_6 rfl (by decide) ?_
  refine a_aload_0 (pc := 7) dX4_exchange_7 ?_
  refine a_getf (ci := 4) (j := 1) rfl win_X4 (by decide) (pc := 8) dX4_exchange_8 kf_X4_15 rfl rfl ?_
  refine a_iload_1 (pc := 11) dX4_exchange_11 ?_
  refine a_ialdN (pc := 12) dX4_exchange_12 rfl (by omega) (by decide) ?_
  refine a_istore_4 (pc := 13) dX4_exchange_13 rfl (by decide) ?_
  refine a_aload_0 (pc := 15) dX4_exchange_15 ?_
  refine a_getf (ci := 4) (j := 0) rfl win_X4 (by decide) (pc := 16) dX4_exchange_16 kf_X4_9 rfl rfl ?_
  refine a_iload_1 (pc := 19) dX4_exchange_19 ?_
  refine a_aload_0 (pc := 20) dX4_exchange_20 ?_
  refine a_getf (ci := 4) (j := 0) rfl win_X4 (by decide) (pc := 21) dX4_exchange_21 kf_X4_9 rfl rfl ?_
  refine a_iload_2 (pc := 24) dX4_exchange_24 ?_
  refine a_ialdN (pc := 25) dX4_exchange_25 rfl (by omega) (by decide) ?_
  refine a_iastN (pc := 26) dX4_exchange_26 rfl (by omega) (by decide) ?_
  refine a_aload_0 (pc := 27) dX4_exchange_27 ?_
  refine a_getf (ci := 4) (j := 1) rfl win_X4 (by decide) (pc := 28) dX4_exchange_28 kf_X4_15 rfl rfl ?_
  refine a_iload_1 (pc := 31) dX4_exchange_31 ?_
  refine a_aload_0 (pc := 32) dX4_exchange_32 ?_
  refine a_getf (ci := 4) (j := 1) rfl win_X4 (by decide) (pc := 33) dX4_exchange_33 kf_X4_15 rfl rfl ?_
  refine a_iload_2 (pc := 36) dX4_exchange_36 ?_
  refine a_ialdN (pc := 37) dX4_exchange_37 rfl (by omega) (by decide) ?_
  refine a_iastN (pc := 38) dX4_exchange_38 rfl (by omega) (by decide) ?_
  refine a_aload_0 (pc := 39) dX4_exchange_39 ?_
  refine a_getf (ci := 4) (j := 0) rfl win_X4 (by decide) (pc := 40) dX4_exchange_40 kf_X4_9 rfl rfl ?_
  refine a_iload_2 (pc := 43) dX4_exchange_43 ?_
  refine a_iload_3 (pc := 44) dX4_exchange_44 ?_
  refine a_iastN (pc := 45) dX4_exchange_45 rfl (by omega) (by decide) ?_
  refine a_aload_0 (pc := 46) dX4_exchange_46 ?_
  refine a_getf (ci := 4) (j := 1) rfl win_X4 (by decide) (pc := 47) dX4_exchange_47 kf_X4_15 rfl rfl ?_
  refine a_iload_2 (pc := 50) dX4_exchange_50 ?_
  refine a_iload_4 (pc := 51) dX4_exchange_51 ?_
  refine a_iastN (pc := 53) dX4_exchange_53 rfl (by omega) (by decide) ?_
  exact a_vret (pc := 54) dX4_exchange_54 rfl rfl ⟨(), trivial, rfl, rfl⟩

def zSoil (f : Int32) (x : Int64) : Int32 := (if f.toInt64 + x < 90 then f.toInt64 + x else 90).toInt32
set_option maxRecDepth 100000 in
set_option maxHeartbeats 4000000 in
/-- soil -/
theorem c_soil (l : Launch) (G : zG) (ad : Nat → Nat) (kd fo : Nat → Int32) (k : Nat) (hk : k < 72) (x : Int64) : zSem l G sX4_soil [.ref (ad 0), .int (nI k), .long x] (wSk G ad kd fo) (z0 (fun _ : Unit => True) (fun _ => wSk G ad kd (upd fo k (zSoil (fo k) x)))) := by
  refine zEnterV (L := [some (.ref (ad 0)), some (.int (nI k)), some (.long x), none]) (by decide) rfl (Nat.le_of_ble_eq_true rfl) rfl ?_
  refine a_aload_0 (pc := 0) dX4_soil_0 ?_
  refine a_getf (ci := 4) (j := 1) rfl win_X4 (by decide) (pc := 1) dX4_soil_1 kf_X4_15 rfl rfl ?_
  refine a_iload_1 (pc := 4) dX4_soil_4 ?_
  refine a_ldc2 (pc := 5) dX4_soil_5 kl_X4_27 ?_
  refine a_aload_0 (pc := 8) dX4_soil_8 ?_
  refine a_getf (ci := 4) (j := 1) rfl win_X4 (by decide) (pc := 9) dX4_soil_9 kf_X4_15 rfl rfl ?_
  refine a_iload_1 (pc := 12) dX4_soil_12 ?_
  refine a_ialdN (pc := 13) dX4_soil_13 rfl (by omega) (by decide) ?_
  refine a_i2l (pc := 14) dX4_soil_14 ?_
  refine a_lload_2 (pc := 15) dX4_soil_15 ?_
  refine a_ladd (pc := 16) dX4_soil_16 ?_
  refine a_minJ (pc := 17) dX4_soil_17 km_X4_29 (by decide) (Nat.le_of_ble_eq_true rfl) ?_
  refine a_l2i (pc := 20) dX4_soil_20 ?_
  refine a_iastN (pc := 21) dX4_soil_21 rfl (by omega) (by decide) ?_
  exact a_vret (pc := 22) dX4_soil_22 rfl rfl ⟨(), trivial, rfl, rfl⟩

set_option maxRecDepth 100000 in
set_option maxHeartbeats 4000000 in
/-- wash -/
theorem c_wash (l : Launch) (G : zG) (ad : Nat → Nat) (kd fo : Nat → Int32) (k : Nat) (hk : k < 72) : zSem l G sX4_wash [.ref (ad 0), .int (nI k)] (wSk G ad kd fo) (z0 (fun _ : Unit => True) (fun _ => wSk G ad kd (upd fo k (fo k / 2)))) := by
  refine zEnterV (L := [some (.ref (ad 0)), some (.int (nI k))]) (by decide) rfl (Nat.le_of_ble_eq_true rfl) rfl ?_
  refine a_aload_0 (pc := 0) dX4_wash_0 ?_
  refine a_getf (ci := 4) (j := 1) rfl win_X4 (by decide) (pc := 1) dX4_wash_1 kf_X4_15 rfl rfl ?_
  refine a_iload_1 (pc := 4) dX4_wash_4 ?_
  refine a_dup2 (pc := 5) dX4_wash_5 rfl rfl ?_
  refine a_ialdN (pc := 6) dX4_wash_6 rfl (by omega) (by decide) ?_
  refine a_iconst (v := 2) (pc := 7) dX4_wash_7 (by decide) ?_
  refine a_idiv (pc := 8) dX4_wash_8 (by decide) ?_
  refine a_iastN (pc := 9) dX4_wash_9 rfl (by omega) (by decide) ?_
  exact a_vret (pc := 10) dX4_wash_10 rfl rfl ⟨(), trivial, rfl, rfl⟩

def zfill (f : Nat → Int32) (m : Nat) (x : Int32) : Nat → Int32 := fun j => if j < m then x else f j
theorem zfill_0 (f : Nat → Int32) (x : Int32) : zfill f 0 x = f := by funext j; simp [zfill]
theorem zfill_s (f : Nat → Int32) (m : Nat) (x : Int32) : upd (zfill f m x) m x = zfill f (m + 1) x := by
  funext j
  simp only [upd, zfill]
  by_cases h1 : j = m
  · rw [if_pos h1, if_pos (by omega)]
  · rw [if_neg h1]
    by_cases h2 : j < m
    · rw [if_pos h2, if_pos (by omega)]
    · rw [if_neg h2, if_neg (by omega)]
set_option maxRecDepth 100000 in
set_option maxHeartbeats 4000000 in
theorem lp_fillI (l : Launch) (G : zG) (ad : Nat → Nat) (n : Nat) (hn : n < 2 ^ 31) (f : Nat → Int32) (x : Int32) : ∀ (q i : Nat), i + q = n → AV l G sJ7_fill_53178 ([(ad 0, .inl (zcI G, n, .inl (f)))]) (z0 (fun _ : Unit => True) (fun _ => [(ad 0, .inl (zcI G, n, .inl (zfill f n x)))])) 5 [some (.ref (ad 0)), some (.int x), some (.int (nI i)), some (.int (nI n))] [] ([(ad 0, .inl (zcI G, n, .inl (zfill f i x)))]) := by
  intro q_
  induction q_ using Nat.strongRecOn
  rename_i q_ ih_
  intro i hq_
  refine a_iload_2 (pc := 5) dJ7_fill_53178_5 ?_
  refine a_iload_3 (pc := 6) dJ7_fill_53178_6 ?_
  refine a_icmp_ge (tgt := 20) (pc := 7) dJ7_fill_53178_7 (by decide) (fun c_7 => ?_) (fun c_7 => ?_)
  · obtain rfl : i = n := by have := (zI_le (by omega) (by omega)).mp c_7; omega
    exact a_vret (pc := 20) dJ7_fill_53178_20 rfl rfl ⟨(), trivial, rfl, rfl⟩
  · have hi_ : i < n := by have := mt (zI_le (a := n) (b := i) (by omega) (by omega)).mpr c_7; omega
    refine a_aload_0 (pc := 10) dJ7_fill_53178_10 ?_
    refine a_iload_2 (pc := 11) dJ7_fill_53178_11 ?_
    refine a_iload_1 (pc := 12) dJ7_fill_53178_12 ?_
    refine a_iastN (pc := 13) dJ7_fill_53178_13 rfl hi_ hn ?_
    refine a_iinc_2 (cst := 1) (pc := 14) dJ7_fill_53178_14 rfl (by decide) (by decide) ?_
    refine a_goto (tgt := 5) (pc := 17) dJ7_fill_53178_17 (by decide) ?_
    have hw_ : upd (zfill f i x) i x = zfill f (i + 1) x := zfill_s f i x
    rw [← nI_succ]
    exact a_to (ih_ (q_ - 1) (by omega) (i + 1) (by omega)) rfl rfl rfl (by rw [← hw_]; rfl)

set_option maxRecDepth 100000 in
set_option maxHeartbeats 4000000 in
/-- fill -/
theorem c_fillI (l : Launch) (G : zG) (ad : Nat → Nat) (n : Nat) (hn : n < 2 ^ 31) (f : Nat → Int32) (x : Int32) : zSem l G sJ7_fill_53178 [.ref (ad 0), .int x] ([(ad 0, .inl (zcI G, n, .inl (f)))]) (z0 (fun _ : Unit => True) (fun _ => [(ad 0, .inl (zcI G, n, .inl (zfill f n x)))])) := by
  refine zEnterV (L := [some (.ref (ad 0)), some (.int x), none, none]) (by decide) rfl (Nat.le_of_ble_eq_true rfl) rfl ?_
  refine a_iconst (v := 0) (pc := 0) dJ7_fill_53178_0 (by decide) ?_
  refine a_istore_2 (pc := 1) dJ7_fill_53178_1 rfl (by decide) ?_
  refine a_aload_0 (pc := 2) dJ7_fill_53178_2 ?_
  refine a_alenI (pc := 3) dJ7_fill_53178_3 rfl rfl ?_
  refine a_istore_3 (pc := 4) dJ7_fill_53178_4 rfl (by decide) ?_
  exact a_to (lp_fillI l G ad n hn f x n 0 (by omega)) rfl rfl rfl (by rw [zfill_0])

set_option maxRecDepth 100000 in
set_option maxHeartbeats 4000000 in
theorem lp_fillS (l : Launch) (G : zG) (ad : Nat → Nat) (n : Nat) (hn : n < 2 ^ 31) (f : Nat → Int32) (x : Int32) (hx : vp_nar .short x = x) : ∀ (q i : Nat), i + q = n → AV l G sJ7_fill_fb410 ([(ad 0, .inl (zcS G, n, .inl (f)))]) (z0 (fun _ : Unit => True) (fun _ => [(ad 0, .inl (zcS G, n, .inl (zfill f n x)))])) 5 [some (.ref (ad 0)), some (.int x), some (.int (nI i)), some (.int (nI n))] [] ([(ad 0, .inl (zcS G, n, .inl (zfill f i x)))]) := by
  intro q_
  induction q_ using Nat.strongRecOn
  rename_i q_ ih_
  intro i hq_
  refine a_iload_2 (pc := 5) dJ7_fill_fb410_5 ?_
  refine a_iload_3 (pc := 6) dJ7_fill_fb410_6 ?_
  refine a_icmp_ge (tgt := 20) (pc := 7) dJ7_fill_fb410_7 (by decide) (fun c_7 => ?_) (fun c_7 => ?_)
  · obtain rfl : i = n := by have := (zI_le (by omega) (by omega)).mp c_7; omega
    exact a_vret (pc := 20) dJ7_fill_fb410_20 rfl rfl ⟨(), trivial, rfl, rfl⟩
  · have hi_ : i < n := by have := mt (zI_le (a := n) (b := i) (by omega) (by omega)).mpr c_7; omega
    refine a_aload_0 (pc := 10) dJ7_fill_fb410_10 ?_
    refine a_iload_2 (pc := 11) dJ7_fill_fb410_11 ?_
    refine a_iload_1 (pc := 12) dJ7_fill_fb410_12 ?_
    refine a_sastN (pc := 13) dJ7_fill_fb410_13 rfl hi_ hn ?_
    refine a_iinc_2 (cst := 1) (pc := 14) dJ7_fill_fb410_14 rfl (by decide) (by decide) ?_
    refine a_goto (tgt := 5) (pc := 17) dJ7_fill_fb410_17 (by decide) ?_
    have hw_ : upd (zfill f i x) i (vp_nar .short x) = zfill f (i + 1) x := by rw [hx]; exact zfill_s f i x
    rw [← nI_succ]
    exact a_to (ih_ (q_ - 1) (by omega) (i + 1) (by omega)) rfl rfl rfl (by rw [← hw_]; rfl)

set_option maxRecDepth 100000 in
set_option maxHeartbeats 4000000 in
/-- fill -/
theorem c_fillS (l : Launch) (G : zG) (ad : Nat → Nat) (n : Nat) (hn : n < 2 ^ 31) (f : Nat → Int32) (x : Int32) (hx : vp_nar .short x = x) : zSem l G sJ7_fill_fb410 [.ref (ad 0), .int x] ([(ad 0, .inl (zcS G, n, .inl (f)))]) (z0 (fun _ : Unit => True) (fun _ => [(ad 0, .inl (zcS G, n, .inl (zfill f n x)))])) := by
  refine zEnterV (L := [some (.ref (ad 0)), some (.int x), none, none]) (by decide) rfl (Nat.le_of_ble_eq_true rfl) rfl ?_
  refine a_iconst (v := 0) (pc := 0) dJ7_fill_fb410_0 (by decide) ?_
  refine a_istore_2 (pc := 1) dJ7_fill_fb410_1 rfl (by decide) ?_
  refine a_aload_0 (pc := 2) dJ7_fill_fb410_2 ?_
  refine a_alenS (pc := 3) dJ7_fill_fb410_3 rfl rfl ?_
  refine a_istore_3 (pc := 4) dJ7_fill_fb410_4 rfl (by decide) ?_
  exact a_to (lp_fillS l G ad n hn f x hx n 0 (by omega)) rfl rfl rfl (by rw [zfill_0])

abbrev wSh (G : zG) (ad : Nat → Nat) (f : Nat → Int32) (n : Int32) : va_W := [(ad 0, .inr (3, [.ref (ad 1), .int n])), (ad 1, .inl (zcS G, 24, .inl f))]
set_option maxRecDepth 100000 in
set_option maxHeartbeats 4000000 in
/-- isMissing -/
theorem c_isMissing (l : Launch) (G : zG) (ad : Nat → Nat) (f : Nat → Int32) (n : Int32) : zSem l G sX3_isMissing [.ref (ad 0)] (wSh G ad f n) (zP (.int (zB (n = -1))) (wSh G ad f n)) := by
  refine zEnterV (L := [some (.ref (ad 0))]) (by decide) rfl (Nat.le_of_ble_eq_true rfl) rfl ?_
  refine a_aload_0 (pc := 0) dX3_isMissing_0 ?_
  refine a_getf (ci := 3) (j := 1) rfl win_X3 (by decide) (pc := 1) dX3_isMissing_1 kf_X3_13 rfl rfl ?_
  refine a_iconst (v := -1) (pc := 4) dX3_isMissing_4 (by decide) ?_
  refine a_icmp_ne (tgt := 12) (pc := 5) dX3_isMissing_5 (by decide) (fun c_5 => ?_) (fun c_5 => ?_)
  · refine a_iconst (v := 0) (pc := 12) dX3_isMissing_12 (by decide) ?_
    exact a_zret (pc := 13) dX3_isMissing_13 rfl (by decide) rfl (by first | exact zPB1 c_5 | exact zPB0 c_5)
  · refine a_iconst (v := 1) (pc := 8) dX3_isMissing_8 (by decide) ?_
    refine a_goto (tgt := 13) (pc := 9) dX3_isMissing_9 (by decide) ?_
    exact a_zret (pc := 13) dX3_isMissing_13 rfl (by decide) rfl (by first | exact zPB1 c_5 | exact zPB0 c_5)

set_option maxRecDepth 100000 in
set_option maxHeartbeats 4000000 in
/-- has -/
theorem c_has (l : Launch) (G : zG) (ad : Nat → Nat) (f : Nat → Int32) (n : Int32) (x : Int32) : zSem l G sX3_has [.ref (ad 0), .int x] (wSh G ad f n) (zP (.int (zB (¬ x < 0 ∧ ¬ n ≤ x))) (wSh G ad f n)) := by
  refine zEnterV (L := [some (.ref (ad 0)), some (.int x)]) (by decide) rfl (Nat.le_of_ble_eq_true rfl) rfl ?_
  refine a_iload_1 (pc := 0) dX3_has_0 ?_
  refine a_if_lt (tgt := 16) (pc := 1) dX3_has_1 (by decide) (fun c_1 => ?_) (fun c_1 => ?_)
  · refine a_iconst (v := 0) (pc := 16) dX3_has_16 (by decide) ?_
    exact a_zret (pc := 17) dX3_has_17 rfl (by decide) rfl (by first | exact zPB1 ⟨c_1, c_9⟩ | exact zPB0 (fun h => h.2 c_9) | exact zPB0 (fun h => h.1 c_1))
  · refine a_iload_1 (pc := 4) dX3_has_4 ?_
    refine a_aload_0 (pc := 5) dX3_has_5 ?_
    refine a_getf (ci := 3) (j := 1) rfl win_X3 (by decide) (pc := 6) dX3_has_6 kf_X3_13 rfl rfl ?_
    refine a_icmp_ge (tgt := 16) (pc := 9) dX3_has_9 (by decide) (fun c_9 => ?_) (fun c_9 => ?_)
    · refine a_iconst (v := 0) (pc := 16) dX3_has_16 (by decide) ?_
      exact a_zret (pc := 17) dX3_has_17 rfl (by decide) rfl (by first | exact zPB1 ⟨c_1, c_9⟩ | exact zPB0 (fun h => h.2 c_9) | exact zPB0 (fun h => h.1 c_1))
    · refine a_iconst (v := 1) (pc := 12) dX3_has_12 (by decide) ?_
      refine a_goto (tgt := 17) (pc := 13) dX3_has_13 (by decide) ?_
      exact a_zret (pc := 17) dX3_has_17 rfl (by decide) rfl (by first | exact zPB1 ⟨c_1, c_9⟩ | exact zPB0 (fun h => h.2 c_9) | exact zPB0 (fun h => h.1 c_1))

set_option maxRecDepth 100000 in
set_option maxHeartbeats 4000000 in
/-- hasRun -/
theorem c_hasRun (l : Launch) (G : zG) (ad : Nat → Nat) (f : Nat → Int32) (n : Int32) (x y : Int32) : zSem l G sX3_hasRun [.ref (ad 0), .int x, .int y] (wSh G ad f n) (zP (.int (zB (¬ x < 0 ∧ ¬ y < 0 ∧ ¬ n - y < x))) (wSh G ad f n)) := by
  refine zEnterV (L := [some (.ref (ad 0)), some (.int x), some (.int y)]) (by decide) rfl (Nat.le_of_ble_eq_true rfl) rfl ?_
  refine a_iload_1 (pc := 0) dX3_hasRun_0 ?_
  refine a_if_lt (tgt := 22) (pc := 1) dX3_hasRun_1 (by decide) (fun c_1 => ?_) (fun c_1 => ?_)
  · refine a_iconst (v := 0) (pc := 22) dX3_hasRun_22 (by decide) ?_
    exact a_zret (pc := 23) dX3_hasRun_23 rfl (by decide) rfl (by first | exact zPB1 ⟨c_1, c_5, c_15⟩ | exact zPB0 (fun h => h.2.2 c_15) | exact zPB0 (fun h => h.2.1 c_5) | exact zPB0 (fun h => h.1 c_1))
  · refine a_iload_2 (pc := 4) dX3_hasRun_4 ?_
    refine a_if_lt (tgt := 22) (pc := 5) dX3_hasRun_5 (by decide) (fun c_5 => ?_) (fun c_5 => ?_)
    · refine a_iconst (v := 0) (pc := 22) dX3_hasRun_22 (by decide) ?_
      exact a_zret (pc := 23) dX3_hasRun_23 rfl (by decide) rfl (by first | exact zPB1 ⟨c_1, c_5, c_15⟩ | exact zPB0 (fun h => h.2.2 c_15) | exact zPB0 (fun h => h.2.1 c_5) | exact zPB0 (fun h => h.1 c_1))
    · refine a_iload_1 (pc := 8) dX3_hasRun_8 ?_
      refine a_aload_0 (pc := 9) dX3_hasRun_9 ?_
      refine a_getf (ci := 3) (j := 1) rfl win_X3 (by decide) (pc := 10) dX3_hasRun_10 kf_X3_13 rfl rfl ?_
      refine a_iload_2 (pc := 13) dX3_hasRun_13 ?_
      refine a_isub (pc := 14) dX3_hasRun_14 ?_
      refine a_icmp_gt (tgt := 22) (pc := 15) dX3_hasRun_15 (by decide) (fun c_15 => ?_) (fun c_15 => ?_)
      · refine a_iconst (v := 0) (pc := 22) dX3_hasRun_22 (by decide) ?_
        exact a_zret (pc := 23) dX3_hasRun_23 rfl (by decide) rfl (by first | exact zPB1 ⟨c_1, c_5, c_15⟩ | exact zPB0 (fun h => h.2.2 c_15) | exact zPB0 (fun h => h.2.1 c_5) | exact zPB0 (fun h => h.1 c_1))
      · refine a_iconst (v := 1) (pc := 18) dX3_hasRun_18 (by decide) ?_
        refine a_goto (tgt := 23) (pc := 19) dX3_hasRun_19 (by decide) ?_
        exact a_zret (pc := 23) dX3_hasRun_23 rfl (by decide) rfl (by first | exact zPB1 ⟨c_1, c_5, c_15⟩ | exact zPB0 (fun h => h.2.2 c_15) | exact zPB0 (fun h => h.2.1 c_5) | exact zPB0 (fun h => h.1 c_1))

set_option maxRecDepth 100000 in
set_option maxHeartbeats 4000000 in
/-- begin -/
theorem c_begin (l : Launch) (G : zG) (ad : Nat → Nat) (f : Nat → Int32) (n : Int32) (x : Int32) : zSem l G sX3_begin [.ref (ad 0), .int x] (wSh G ad f n) (z0 (fun _ : Unit => True) (fun _ => wSh G ad (zfill f 24 0) x)) := by
  refine zEnterV (L := [some (.ref (ad 0)), some (.int x)]) (by decide) rfl (Nat.le_of_ble_eq_true rfl) rfl ?_
  refine a_aload_0 (pc := 0) dX3_begin_0 ?_
  refine a_getf (ci := 3) (j := 0) rfl win_X3 (by decide) (pc := 1) dX3_begin_1 kf_X3_9 rfl rfl ?_
  refine a_iconst (v := 0) (pc := 4) dX3_begin_4 (by decide) ?_
  refine cS_0 (S2 := sJ7_fill_fb410) (c_fillS l G (zpk ad [1]) 24 (by decide) f 0 (by decide)) kc_J7_fill_fb410 km_X3_17 ks_J7_fill_fb410 kini_J7 ⟨kn_J7_fill_fb410, by decide, by decide⟩ (pc := 5) dX3_begin_5 [1] rfl rfl rfl rfl (Nat.le_of_ble_eq_true rfl) (fun _ => wSh G ad (zfill f 24 0) n) (fun _ => rfl) ?_
  intro _u _
  refine a_aload_0 (pc := 8) dX3_begin_8 ?_
  refine a_iload_1 (pc := 9) dX3_begin_9 ?_
  refine a_putf (ci := 3) (j := 1) rfl win_X3 tyX3_ok nmX3 (by decide) (pc := 10) dX3_begin_10 kf_X3_13 rfl rfl rfl rfl rfl (Nat.le_of_ble_eq_true rfl) ?_
  exact a_vret (pc := 13) dX3_begin_13 rfl rfl ⟨(), trivial, rfl, rfl⟩

