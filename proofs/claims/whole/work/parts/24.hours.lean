/-! Hours. -/
abbrev wHr (G : zG) (ad : Nat → Nat) (pr nd nw lt : Nat → Int32) : va_W := [(ad 0, .inr (1, [.ref (ad 1), .ref (ad 2), .ref (ad 3), .ref (ad 4)])), (ad 1, .inl (zcI G, 12, .inl pr)), (ad 2, .inl (zcI G, 12, .inl nd)), (ad 3, .inl (zcI G, 201, .inl nw)), (ad 4, .inl (zcI G, 201, .inl lt))]
set_option maxRecDepth 100000 in
set_option maxHeartbeats 4000000 in
/-- mostOf -/
theorem c_mostOf (l : Launch) (G : zG) (x : Int32) : zSem l G sX1_mostOf [.int x] ([]) (zP (.int (if x = 0 then 99 else 999)) []) := by
  refine zEnterV (L := [some (.int x)]) (by decide) rfl (Nat.le_of_ble_eq_true rfl) rfl ?_
  refine a_iload_0 (pc := 0) dX1_mostOf_0 ?_
  first | refine a_if_neB (tgt := 9) (pc := 1) dX1_mostOf_1 (by decide) (fun c_1 => ?_) (fun c_1 => ?_) | refine a_if_ne (tgt := 9) (pc := 1) dX1_mostOf_1 (by decide) (fun c_1 => ?_) (fun c_1 => ?_)
  · refine a_sipush (v := 999) (pc := 9) dX1_mostOf_9 (by decide) ?_
    exact a_iret (pc := 12) dX1_mostOf_12 rfl rfl (by first | exact ⟨congrArg (fun z => some (Value.int z)) (if_pos c_1).symm, rfl⟩ | exact ⟨congrArg (fun z => some (Value.int z)) (if_neg c_1).symm, rfl⟩)
  · refine a_bipush (v := 99) (pc := 4) dX1_mostOf_4 (by decide) ?_
    refine a_goto (tgt := 12) (pc := 6) dX1_mostOf_6 (by decide) ?_
    exact a_iret (pc := 12) dX1_mostOf_12 rfl rfl (by first | exact ⟨congrArg (fun z => some (Value.int z)) (if_pos c_1).symm, rfl⟩ | exact ⟨congrArg (fun z => some (Value.int z)) (if_neg c_1).symm, rfl⟩)

set_option maxRecDepth 100000 in
set_option maxHeartbeats 4000000 in
/-- rowOf 0 -/
theorem c_rowOf0 (l : Launch) (G : zG) (ad : Nat → Nat) (pr nd nw lt : Nat → Int32) (x : Int32) (hx : x = 0) : zSem l G sX1_rowOf [.ref (ad 0), .int x] (wHr G ad pr nd nw lt) (zP (.ref (ad 1)) (wHr G ad pr nd nw lt)) := by
  refine zEnterV (L := [some (.ref (ad 0)), some (.int x)]) (by decide) rfl (Nat.le_of_ble_eq_true rfl) rfl ?_
  refine a_iload_1 (pc := 0) dX1_rowOf_0 ?_
  first | refine a_if_neB (tgt := 11) (pc := 1) dX1_rowOf_1 (by decide) (fun c_1 => ?_) (fun c_1 => ?_) | refine a_if_ne (tgt := 11) (pc := 1) dX1_rowOf_1 (by decide) (fun c_1 => ?_) (fun c_1 => ?_)
  · exact absurd hx c_1
  · refine a_aload_0 (pc := 4) dX1_rowOf_4 ?_
    refine a_getf (ci := 1) (j := 0) rfl win_X1 (by decide) (pc := 5) dX1_rowOf_5 kf_X1_9 rfl rfl ?_
    refine a_goto (tgt := 15) (pc := 8) dX1_rowOf_8 (by decide) ?_
    exact a_aret (pc := 15) dX1_rowOf_15 rfl rfl ⟨rfl, rfl⟩

set_option maxRecDepth 100000 in
set_option maxHeartbeats 4000000 in
/-- rowOf 1 -/
theorem c_rowOf1 (l : Launch) (G : zG) (ad : Nat → Nat) (pr nd nw lt : Nat → Int32) (x : Int32) (hx : ¬ x = 0) : zSem l G sX1_rowOf [.ref (ad 0), .int x] (wHr G ad pr nd nw lt) (zP (.ref (ad 2)) (wHr G ad pr nd nw lt)) := by
  refine zEnterV (L := [some (.ref (ad 0)), some (.int x)]) (by decide) rfl (Nat.le_of_ble_eq_true rfl) rfl ?_
  refine a_iload_1 (pc := 0) dX1_rowOf_0 ?_
  first | refine a_if_neB (tgt := 11) (pc := 1) dX1_rowOf_1 (by decide) (fun c_1 => ?_) (fun c_1 => ?_) | refine a_if_ne (tgt := 11) (pc := 1) dX1_rowOf_1 (by decide) (fun c_1 => ?_) (fun c_1 => ?_)
  · refine a_aload_0 (pc := 11) dX1_rowOf_11 ?_
    refine a_getf (ci := 1) (j := 1) rfl win_X1 (by decide) (pc := 12) dX1_rowOf_12 kf_X1_13 rfl rfl ?_
    exact a_aret (pc := 15) dX1_rowOf_15 rfl rfl ⟨rfl, rfl⟩
  · exact absurd c_1 hx

set_option maxRecDepth 100000 in
set_option maxHeartbeats 4000000 in
/-- isPlan -/
theorem c_isPlan (l : Launch) (G : zG) (x : Int32) : zSem l G sX1_isPlan [.int x] ([]) (zP (.int (zB (¬ 1073741824 ≤ x))) []) := by
  refine zEnterV (L := [some (.int x)]) (by decide) rfl (Nat.le_of_ble_eq_true rfl) rfl ?_
  refine a_iload_0 (pc := 0) dX1_isPlan_0 ?_
  refine a_ldc (pc := 1) dX1_isPlan_1 kl_X1_22 ?_
  refine a_icmp_ge (tgt := 10) (pc := 3) dX1_isPlan_3 (by decide) (fun c_3 => ?_) (fun c_3 => ?_)
  · refine a_iconst (v := 0) (pc := 10) dX1_isPlan_10 (by decide) ?_
    exact a_zret (pc := 11) dX1_isPlan_11 rfl (by decide) rfl (by first | exact zPB1 c_3 | exact zPB0 (fun h => h c_3))
  · refine a_iconst (v := 1) (pc := 6) dX1_isPlan_6 (by decide) ?_
    refine a_goto (tgt := 11) (pc := 7) dX1_isPlan_7 (by decide) ?_
    exact a_zret (pc := 11) dX1_isPlan_11 rfl (by decide) rfl (by first | exact zPB1 c_3 | exact zPB0 (fun h => h c_3))

set_option maxRecDepth 100000 in
set_option maxHeartbeats 4000000 in
/-- costOf -/
theorem c_costOf (l : Launch) (G : zG) (x : Int32) : zSem l G sX1_costOf [.int x] ([]) (zP (.int (x >>> (12 &&& 31))) []) := by
  refine zEnterV (L := [some (.int x)]) (by decide) rfl (Nat.le_of_ble_eq_true rfl) rfl ?_
  refine a_iload_0 (pc := 0) dX1_costOf_0 ?_
  refine a_bipush (v := 12) (pc := 1) dX1_costOf_1 (by decide) ?_
  refine a_ishr (pc := 3) dX1_costOf_3 ?_
  exact a_iret (pc := 4) dX1_costOf_4 rfl rfl ⟨rfl, rfl⟩

abbrev zRunsAt (x h : Int32) : Prop := x >>> ((11 - h) &&& 31) &&& 1 = 1
set_option maxRecDepth 100000 in
set_option maxHeartbeats 4000000 in
/-- runsAt -/
theorem c_runsAt (l : Launch) (G : zG) (x h : Int32) : zSem l G sX1_runsAt [.int x, .int h] ([]) (zP (.int (zB (zRunsAt x h))) []) := by
  refine zEnterV (L := [some (.int x), some (.int h)]) (by decide) rfl (Nat.le_of_ble_eq_true rfl) rfl ?_
  refine a_iload_0 (pc := 0) dX1_runsAt_0 ?_
  refine a_bipush (v := 11) (pc := 1) dX1_runsAt_1 (by decide) ?_
  refine a_iload_1 (pc := 3) dX1_runsAt_3 ?_
  refine a_isub (pc := 4) dX1_runsAt_4 ?_
  refine a_ishr (pc := 5) dX1_runsAt_5 ?_
  refine a_iconst (v := 1) (pc := 6) dX1_runsAt_6 (by decide) ?_
  refine a_iand (pc := 7) dX1_runsAt_7 ?_
  refine a_iconst (v := 1) (pc := 8) dX1_runsAt_8 (by decide) ?_
  refine a_icmp_ne (tgt := 16) (pc := 9) dX1_runsAt_9 (by decide) (fun c_9 => ?_) (fun c_9 => ?_)
  · refine a_iconst (v := 0) (pc := 16) dX1_runsAt_16 (by decide) ?_
    exact a_zret (pc := 17) dX1_runsAt_17 rfl (by decide) rfl (by first | exact zPB1 c_9 | exact zPB0 c_9)
  · refine a_iconst (v := 1) (pc := 12) dX1_runsAt_12 (by decide) ?_
    refine a_goto (tgt := 17) (pc := 13) dX1_runsAt_13 (by decide) ?_
    exact a_zret (pc := 17) dX1_runsAt_17 rfl (by decide) rfl (by first | exact zPB1 c_9 | exact zPB0 c_9)

def zBitsOf (x : Int32) : Nat → Int32
  | 0 => 0
  | h + 1 => zBitsOf x h ||| (if zRunsAt x (nI h) then 1 <<< (nI h &&& 31) else 0)
set_option maxRecDepth 100000 in
set_option maxHeartbeats 4000000 in
theorem lp_bitsOf (l : Launch) (G : zG) (x : Int32) : ∀ (q i : Nat), i + q = 12 → AV l G sX1_bitsOf ([]) (zP (.int (zBitsOf x 12)) []) 4 [some (.int x), some (.int (zBitsOf x i)), some (.int (nI i))] [] ([]) := by
  intro q_
  induction q_ using Nat.strongRecOn
  rename_i q_ ih_
  intro i hq_
  refine a_iload_2 (pc := 4) dX1_bitsOf_4 ?_
  refine a_bipush (v := 12) (pc := 5) dX1_bitsOf_5 (by decide) ?_
  refine a_icmp_ge (tgt := 34) (pc := 7) dX1_bitsOf_7 (by decide) (fun c_7 => ?_) (fun c_7 => ?_)
  · obtain rfl : i = 12 := by have := (zI_le (a := 12) (b := i) (by decide) (by omega)).mp c_7; omega
    refine a_iload_1 (pc := 34) dX1_bitsOf_34 ?_
    exact a_iret (pc := 35) dX1_bitsOf_35 rfl rfl ⟨rfl, rfl⟩
  · have hi_ : i < 12 := by have := mt (zI_le (a := 12) (b := i) (by decide) (by omega)).mpr c_7; omega
    refine a_iload_1 (pc := 10) dX1_bitsOf_10 ?_
    refine a_iload_0 (pc := 11) dX1_bitsOf_11 ?_
    refine a_iload_2 (pc := 12) dX1_bitsOf_12 ?_
    refine cS_P (S2 := sX1_runsAt) (c_runsAt l G x (nI i)) kc_X1_runsAt km_X1_23 ks_X1_runsAt kini_X1 ⟨kn_X1_runsAt, by decide, by decide⟩ (pc := 13) dX1_bitsOf_13 [] rfl rfl rfl rfl (Nat.le_of_ble_eq_true rfl) ?_
    first | refine a_if_eqB (tgt := 25) (pc := 16) dX1_bitsOf_16 (by decide) (fun c_16 => ?_) (fun c_16 => ?_) | refine a_if_eq (tgt := 25) (pc := 16) dX1_bitsOf_16 (by decide) (fun c_16 => ?_) (fun c_16 => ?_)
    · refine a_iconst (v := 0) (pc := 25) dX1_bitsOf_25 (by decide) ?_
      refine a_ior (pc := 26) dX1_bitsOf_26 ?_
      refine a_istore_1 (pc := 27) dX1_bitsOf_27 rfl (by decide) ?_
      refine a_iinc_2 (cst := 1) (pc := 28) dX1_bitsOf_28 rfl (by decide) (by decide) ?_
      refine a_goto (tgt := 4) (pc := 31) dX1_bitsOf_31 (by decide) ?_
      rw [← nI_succ]
      refine a_to (ih_ (q_ - 1) (by omega) (i + 1) (by omega)) rfl ?_ rfl rfl
      show [some (Value.int x), some (Value.int (zBitsOf x i ||| (if zRunsAt x (nI i) then 1 <<< (nI i &&& 31) else 0))), some (Value.int (nI (i + 1)))] = _
      first | rw [if_pos c_16] | rw [if_neg c_16]
    · refine a_iconst (v := 1) (pc := 19) dX1_bitsOf_19 (by decide) ?_
      refine a_iload_2 (pc := 20) dX1_bitsOf_20 ?_
      refine a_ishl (pc := 21) dX1_bitsOf_21 ?_
      refine a_goto (tgt := 26) (pc := 22) dX1_bitsOf_22 (by decide) ?_
      refine a_ior (pc := 26) dX1_bitsOf_26 ?_
      refine a_istore_1 (pc := 27) dX1_bitsOf_27 rfl (by decide) ?_
      refine a_iinc_2 (cst := 1) (pc := 28) dX1_bitsOf_28 rfl (by decide) (by decide) ?_
      refine a_goto (tgt := 4) (pc := 31) dX1_bitsOf_31 (by decide) ?_
      rw [← nI_succ]
      refine a_to (ih_ (q_ - 1) (by omega) (i + 1) (by omega)) rfl ?_ rfl rfl
      show [some (Value.int x), some (Value.int (zBitsOf x i ||| (if zRunsAt x (nI i) then 1 <<< (nI i &&& 31) else 0))), some (Value.int (nI (i + 1)))] = _
      first | rw [if_pos c_16] | rw [if_neg c_16]

set_option maxRecDepth 100000 in
set_option maxHeartbeats 4000000 in
/-- bitsOf -/
theorem c_bitsOf (l : Launch) (G : zG) (x : Int32) : zSem l G sX1_bitsOf [.int x] ([]) (zP (.int (zBitsOf x 12)) []) := by
  refine zEnterV (L := [some (.int x), none, none]) (by decide) rfl (Nat.le_of_ble_eq_true rfl) rfl ?_
  refine a_iconst (v := 0) (pc := 0) dX1_bitsOf_0 (by decide) ?_
  refine a_istore_1 (pc := 1) dX1_bitsOf_1 rfl (by decide) ?_
  refine a_iconst (v := 0) (pc := 2) dX1_bitsOf_2 (by decide) ?_
  refine a_istore_2 (pc := 3) dX1_bitsOf_3 rfl (by decide) ?_
  exact lp_bitsOf l G x 12 0 rfl

def zBh (nd : Int32) (x t : Int32) : Int32 := if x - nd < t then x - nd else t
def zLat (lt : Nat → Int32) (x : Int32) : Int32 := if x < 0 then 1073741824 else if x ≤ 200 then lt x.toNatClampNeg else 1073741824
set_option maxRecDepth 100000 in
set_option maxHeartbeats 4000000 in
/-- behind -/
theorem c_behind (l : Launch) (G : zG) (ad : Nat → Nat) (pr nd nw lt : Nat → Int32) (h : Nat) (hh : h < 12) (x t : Int32) : zSem l G sX1_behind [.ref (ad 0), .int (nI h), .int x, .int t] (wHr G ad pr nd nw lt) (zP (.int (zBh (nd h) x t)) (wHr G ad pr nd nw lt)) := by
  refine zEnterV (L := [some (.ref (ad 0)), some (.int (nI h)), some (.int x), some (.int t)]) (by decide) rfl (Nat.le_of_ble_eq_true rfl) rfl ?_
  refine a_iload_3 (pc := 0) dX1_behind_0 ?_
  refine a_iload_2 (pc := 1) dX1_behind_1 ?_
  refine a_aload_0 (pc := 2) dX1_behind_2 ?_
  refine a_getf (ci := 1) (j := 1) rfl win_X1 (by decide) (pc := 3) dX1_behind_3 kf_X1_13 rfl rfl ?_
  refine a_iload_1 (pc := 6) dX1_behind_6 ?_
  refine a_ialdN (pc := 7) dX1_behind_7 rfl (by omega) (by decide) ?_
  refine a_isub (pc := 8) dX1_behind_8 ?_
  refine a_minI (pc := 9) dX1_behind_9 km_X1_27 (by decide) (Nat.le_of_ble_eq_true rfl) ?_
  exact a_iret (pc := 12) dX1_behind_12 rfl rfl ⟨rfl, rfl⟩

set_option maxRecDepth 100000 in
set_option maxHeartbeats 4000000 in
/-- laterAt -/
theorem c_laterAt (l : Launch) (G : zG) (ad : Nat → Nat) (pr nd nw lt : Nat → Int32) (x : Int32) : zSem l G sX1_laterAt [.ref (ad 0), .int x] (wHr G ad pr nd nw lt) (zP (.int (zLat lt x)) (wHr G ad pr nd nw lt)) := by
  refine zEnterV (L := [some (.ref (ad 0)), some (.int x)]) (by decide) rfl (Nat.le_of_ble_eq_true rfl) rfl ?_
  refine a_iload_1 (pc := 0) dX1_laterAt_0 ?_
  refine a_if_lt (tgt := 11) (pc := 1) dX1_laterAt_1 (by decide) (fun c_1 => ?_) (fun c_1 => ?_)
  · refine a_ldc (pc := 11) dX1_laterAt_11 kl_X1_22 ?_
    refine a_goto (tgt := 22) (pc := 13) dX1_laterAt_13 (by decide) ?_
    exact a_iret (pc := 22) dX1_laterAt_22 rfl rfl (by
        refine ⟨congrArg (fun z => some (Value.int z)) ?_, rfl⟩
        unfold zLat
        first | rw [if_pos c_1] | rw [if_neg c_1, if_pos c_8] | rw [if_neg c_1, if_neg c_8])
  · refine a_iload_1 (pc := 4) dX1_laterAt_4 ?_
    refine a_sipush (v := 200) (pc := 5) dX1_laterAt_5 (by decide) ?_
    refine a_icmp_le (tgt := 16) (pc := 8) dX1_laterAt_8 (by decide) (fun c_8 => ?_) (fun c_8 => ?_)
    · refine a_aload_0 (pc := 16) dX1_laterAt_16 ?_
      refine a_getf (ci := 1) (j := 3) rfl win_X1 (by decide) (pc := 17) dX1_laterAt_17 kf_X1_19 rfl rfl ?_
      refine a_iload_1 (pc := 20) dX1_laterAt_20 ?_
      refine a_iald (pc := 21) dX1_laterAt_21 rfl (zin (by
          have := mt Int32.lt_iff_toInt_lt.mpr c_1
          have k0_ : (0:Int32).toInt = 0 := by decide
          omega) (by
          have := Int32.le_iff_toInt_le.mp c_8
          have k0_ : (200:Int32).toInt = 200 := by decide
          omega)) ?_
      exact a_iret (pc := 22) dX1_laterAt_22 rfl rfl (by
          refine ⟨congrArg (fun z => some (Value.int z)) ?_, rfl⟩
          unfold zLat
          first | rw [if_pos c_1] | rw [if_neg c_1, if_pos c_8] | rw [if_neg c_1, if_neg c_8])
    · refine a_ldc (pc := 11) dX1_laterAt_11 kl_X1_22 ?_
      refine a_goto (tgt := 22) (pc := 13) dX1_laterAt_13 (by decide) ?_
      exact a_iret (pc := 22) dX1_laterAt_22 rfl rfl (by
          refine ⟨congrArg (fun z => some (Value.int z)) ?_, rfl⟩
          unfold zLat
          first | rw [if_pos c_1] | rw [if_neg c_1, if_pos c_8] | rw [if_neg c_1, if_neg c_8])

/-- the least number of a plan for the last r hours: its cost above twelve bits; 2 ^ 30: none -/
def zIdl (N : Nat → Nat) (t nd x : Nat) : Nat := if x < nd then 1073741824 else N (min t (x - nd))
def zN (pr nd : Nat → Nat) (t o : Nat) : Nat → Nat → Nat
  | 0, _ => 0
  | r + 1, c => min 1073741824 (min (zIdl (zN pr nd t o r) t (nd (11 - r)) c) (zIdl (zN pr nd t o r) t (nd (11 - r)) (c + o) + (pr (11 - r) * 4096 + 2 ^ r)))
theorem zN_le (pr nd : Nat → Nat) (t o : Nat) : ∀ r c, zN pr nd t o r c ≤ 1073741824
  | 0, _ => by simp [zN]
  | r + 1, c => Nat.min_le_left _ _
theorem zIdl_le {N : Nat → Nat} (h : ∀ c, N c ≤ 1073741824) (t nd x : Nat) : zIdl N t nd x ≤ 1073741824 := by
  unfold zIdl; split
  · exact Nat.le_refl _
  · exact h _
theorem zmin_nI {a b : Nat} (ha : a < 2 ^ 31) (hb : b < 2 ^ 31) : (if nI b < nI a then nI b else nI a) = nI (min a b) := by
  by_cases h : b < a
  · rw [if_pos ((zI_lt hb ha).mpr h), Nat.min_eq_right (by omega)]
  · rw [if_neg (mt (zI_lt hb ha).mp h), Nat.min_eq_left (by omega)]
theorem zLat_bh {lt : Nat → Int32} {N : Nat → Nat} {t nd x : Nat} (ht : t ≤ 200) (hnd : nd ≤ 999) (hx : x ≤ 400) (hl : ∀ c, c ≤ t → lt c = nI (N c)) : zLat lt (zBh (nI nd) (nI x) (nI t)) = nI (zIdl N t nd x) := by
  have e1 : (nI x - nI nd).toInt = (x : Int) - nd := by
    rw [i_sub (by rw [nI_toInt (by omega), nI_toInt (by omega)]; omega) (by rw [nI_toInt (by omega), nI_toInt (by omega)]; omega), nI_toInt (by omega), nI_toInt (by omega)]
  have k0 : (0:Int32).toInt = 0 := by decide
  have k2 : (200:Int32).toInt = 200 := by decide
  unfold zIdl
  by_cases h : x < nd
  · rw [if_pos h]
    have : zBh (nI nd) (nI x) (nI t) = nI x - nI nd := if_pos (Int32.lt_iff_toInt_lt.mpr (by rw [e1, nI_toInt (by omega)]; omega))
    rw [this]
    exact if_pos (Int32.lt_iff_toInt_lt.mpr (by rw [e1]; omega))
  · rw [if_neg h]
    have e2 : zBh (nI nd) (nI x) (nI t) = nI (min t (x - nd)) := by
      have e3 : nI x - nI nd = nI (x - nd) := i_nI (by rw [e1]; omega)
      unfold zBh
      rw [e3]
      exact zmin_nI (by omega) (by omega)
    rw [e2]
    unfold zLat
    rw [if_neg (nI_pos (by omega)), if_pos (show nI (min t (x - nd)) ≤ (200 : Int32) from nI_le (b := 200) (by omega) (by decide)), nI_clamp (by omega)]
    exact hl _ (by omega)
theorem zshl : ∀ p, p < 100 → nI p <<< ((12 : Int32) &&& 31) = nI (p * 4096) := by decide +kernel
theorem zshl1 : ∀ r, r < 12 → (1 : Int32) <<< ((11 - nI (11 - r)) &&& 31) = nI (2 ^ r) := by decide +kernel
set_option maxRecDepth 100000 in
set_option maxHeartbeats 4000000 in
theorem lp_bestI (l : Launch) (G : zG) (ad : Nat → Nat) (pr nd : Nat → Int32) (nw0 lt0 : Nat → Int32) (price need : Nat → Nat) (hpr : ∀ h, h < 12 → pr h = nI (price h) ∧ price h ≤ 99) (hnd : ∀ h, h < 12 → nd h = nI (need h) ∧ need h ≤ 999) (t o : Nat) (ht : t ≤ 200) (ho : o ≤ 200) (c : Nat) (hc : c ≤ t) (r : Nat) (hr : r < 12) (lt : Nat → Int32) (hlt : ∀ x, x ≤ t → lt x = nI (zN price need t o r x)) (K_ : ∀ nw : Nat → Int32, (∀ x, x ≤ t → nw x = nI (zN price need t o (r + 1) x)) → AV l G sX1_best (wHr G ad pr nd nw0 lt0) (zV (fun _ : (Nat → Int32) × (Nat → Int32) => True) (fun _ => .int (nI (zN price need t o 12 c))) (fun u => wHr G ad pr nd u.1 u.2)) 114 [some (.ref (ad 0)), some (.int (nI c)), some (.int (nI t)), some (.int (nI o)), some (.int (nI (11 - r))), some (.int (nI (price (11 - r) * 4096 + 2 ^ r))), none, none, none] [] (wHr G ad pr nd nw lt)) : ∀ (q i : Nat) (nw : Nat → Int32), i + q = t + 1 → (∀ x, x < i → nw x = nI (zN price need t o (r + 1) x)) → AV l G sX1_best (wHr G ad pr nd nw0 lt0) (zV (fun _ : (Nat → Int32) × (Nat → Int32) => True) (fun _ => .int (nI (zN price need t o 12 c))) (fun u => wHr G ad pr nd u.1 u.2)) 40 [some (.ref (ad 0)), some (.int (nI c)), some (.int (nI t)), some (.int (nI o)), some (.int (nI (11 - r))), some (.int (nI (price (11 - r) * 4096 + 2 ^ r))), some (.int (nI i)), none, none] [] (wHr G ad pr nd nw lt) := by
  intro q_
  induction q_ using Nat.strongRecOn
  rename_i q_ ih_
  intro i nw hq_ hw_
  refine a_iload_6 (pc := 40) dX1_best_40 ?_
  refine a_iload_2 (pc := 42) dX1_best_42 ?_
  refine a_icmp_gt (tgt := 114) (pc := 43) dX1_best_43 (by decide) (fun c_43 => ?_) (fun c_43 => ?_)
  · have hi_ : t < i := (zI_lt (by omega) (by omega)).mp c_43
    exact a_forget_6 (K_ nw (fun x hx => hw_ x (by omega)))
  · have hi_ : i ≤ t := by have := mt (zI_lt (a := t) (b := i) (by omega) (by omega)).mpr c_43; omega
    refine a_iload_6 (pc := 46) dX1_best_46 ?_
    refine a_sipush (v := 200) (pc := 48) dX1_best_48 (by decide) ?_
    refine a_icmp_gt (tgt := 114) (pc := 51) dX1_best_51 (by decide) (fun c_51 => ?_) (fun c_51 => ?_)
    · exact absurd ((zI_lt (a := 200) (b := i) (by decide) (by omega)).mp c_51) (by omega)
    · refine a_aload_0 (pc := 54) dX1_best_54 ?_
      refine a_aload_0 (pc := 55) dX1_best_55 ?_
      refine a_iload_4 (pc := 56) dX1_best_56 ?_
      refine a_iload_6 (pc := 58) dX1_best_58 ?_
      refine a_iload_2 (pc := 60) dX1_best_60 ?_
      refine cV_P (ad := ad) (q0 := 0) (S2 := sX1_behind) (c_behind l G ad pr nd nw lt (11 - r) (by omega) (nI i) (nI t)) kc_X1_behind km_X1_39 ki_X1_behind kv_X1_behind kini_X1 ⟨kn_X1_behind, by decide, by decide⟩ (pc := 61) dX1_best_61 [0, 1, 2, 3, 4] rfl rfl rfl rfl (Nat.le_of_ble_eq_true rfl) rfl rfl rfl ?_
      refine cV_P (ad := ad) (q0 := 0) (S2 := sX1_laterAt) (c_laterAt l G ad pr nd nw lt _) kc_X1_laterAt km_X1_43 ki_X1_laterAt kv_X1_laterAt kini_X1 ⟨kn_X1_laterAt, by decide, by decide⟩ (pc := 64) dX1_best_64 [0, 1, 2, 3, 4] rfl rfl rfl rfl (Nat.le_of_ble_eq_true rfl) rfl rfl rfl ?_
      rw [(hnd (11 - r) (by omega)).1, zLat_bh ht (hnd (11 - r) (by omega)).2 (by omega) hlt]
      refine a_istore_7 (pc := 67) dX1_best_67 rfl (by decide) ?_
      refine a_aload_0 (pc := 69) dX1_best_69 ?_
      refine a_aload_0 (pc := 70) dX1_best_70 ?_
      refine a_iload_4 (pc := 71) dX1_best_71 ?_
      refine a_iload_6 (pc := 73) dX1_best_73 ?_
      refine a_iload_3 (pc := 75) dX1_best_75 ?_
      refine a_iadd (pc := 76) dX1_best_76 ?_
      rw [← zI_add]
      refine a_iload_2 (pc := 77) dX1_best_77 ?_
      refine cV_P (ad := ad) (q0 := 0) (S2 := sX1_behind) (c_behind l G ad pr nd nw lt (11 - r) (by omega) _ (nI t)) kc_X1_behind km_X1_39 ki_X1_behind kv_X1_behind kini_X1 ⟨kn_X1_behind, by decide, by decide⟩ (pc := 78) dX1_best_78 [0, 1, 2, 3, 4] rfl rfl rfl rfl (Nat.le_of_ble_eq_true rfl) rfl rfl rfl ?_
      refine cV_P (ad := ad) (q0 := 0) (S2 := sX1_laterAt) (c_laterAt l G ad pr nd nw lt _) kc_X1_laterAt km_X1_43 ki_X1_laterAt kv_X1_laterAt kini_X1 ⟨kn_X1_laterAt, by decide, by decide⟩ (pc := 81) dX1_best_81 [0, 1, 2, 3, 4] rfl rfl rfl rfl (Nat.le_of_ble_eq_true rfl) rfl rfl rfl ?_
      rw [(hnd (11 - r) (by omega)).1, zLat_bh ht (hnd (11 - r) (by omega)).2 (by omega) hlt]
      refine a_iload_5 (pc := 84) dX1_best_84 ?_
      refine a_iadd (pc := 86) dX1_best_86 ?_
      rw [← zI_add]
      refine a_istore_8 (pc := 87) dX1_best_87 rfl (by decide) ?_
      refine a_aload_0 (pc := 89) dX1_best_89 ?_
      refine a_getf (ci := 1) (j := 2) rfl win_X1 (by decide) (pc := 90) dX1_best_90 kf_X1_16 rfl rfl ?_
      refine a_iload_6 (pc := 93) dX1_best_93 ?_
      refine a_ldc (pc := 95) dX1_best_95 kl_X1_22 ?_
      refine a_iload_7 (pc := 97) dX1_best_97 ?_
      refine a_iload_8 (pc := 99) dX1_best_99 ?_
      refine a_minI (pc := 101) dX1_best_101 km_X1_27 (by decide) (Nat.le_of_ble_eq_true rfl) ?_
      have hA_ := zIdl_le (zN_le price need t o r) t (need (11 - r)) i
      have hB_ := zIdl_le (zN_le price need t o r) t (need (11 - r)) (i + o)
      have hP_ := (hpr (11 - r) (by omega)).2
      have h2_ : 2 ^ r ≤ 2 ^ 12 := Nat.pow_le_pow_right (by decide) (by omega)
      rw [zmin_nI (by omega) (by omega)]
      refine a_minI (pc := 104) dX1_best_104 km_X1_27 (by decide) (Nat.le_of_ble_eq_true rfl) ?_
      rw [show (1073741824 : Int32) = nI 1073741824 from rfl, zmin_nI (by decide) (by omega)]
      refine a_iastN (pc := 107) dX1_best_107 rfl (by omega) (by decide) ?_
      refine a_iinc_6 (cst := 1) (pc := 108) dX1_best_108 rfl (by decide) (by decide) ?_
      refine a_goto (tgt := 40) (pc := 111) dX1_best_111 (by decide) ?_
      rw [← nI_succ]
      refine a_forget_7 (a_forget_8 ?_)
      exact ih_ (q_ - 1) (by omega) (i + 1) (upd nw i (nI (zN price need t o (r + 1) i))) (by omega) (fun x hx => by by_cases h : x = i; (subst h; exact upd_same _ _ _); rw [upd_ne _ _ h]; exact hw_ x (by omega))

set_option maxRecDepth 100000 in
set_option maxHeartbeats 4000000 in
theorem lp_bestO (l : Launch) (G : zG) (ad : Nat → Nat) (pr nd : Nat → Int32) (nw0 lt0 : Nat → Int32) (price need : Nat → Nat) (hpr : ∀ h, h < 12 → pr h = nI (price h) ∧ price h ≤ 99) (hnd : ∀ h, h < 12 → nd h = nI (need h) ∧ need h ≤ 999) (t o : Nat) (ht : t ≤ 200) (ho : o ≤ 200) (c : Nat) (hc : c ≤ t) : ∀ (q r : Nat) (nw lt : Nat → Int32), r + q = 12 → (∀ x, x ≤ t → lt x = nI (zN price need t o r x)) → AV l G sX1_best (wHr G ad pr nd nw0 lt0) (zV (fun _ : (Nat → Int32) × (Nat → Int32) => True) (fun _ => .int (nI (zN price need t o 12 c))) (fun u => wHr G ad pr nd u.1 u.2)) 12 [some (.ref (ad 0)), some (.int (nI c)), some (.int (nI t)), some (.int (nI o)), some (.int (nI (12 - r) - 1)), none, none, none, none] [] (wHr G ad pr nd nw lt) := by
  intro q_
  induction q_ using Nat.strongRecOn
  rename_i q_ ih_
  intro r nw lt hq_ hl_
  refine a_iload_4 (pc := 12) dX1_best_12 ?_
  refine a_if_lt (tgt := 136) (pc := 14) dX1_best_14 (by decide) (fun c_14 => ?_) (fun c_14 => ?_)
  · obtain rfl : r = 12 := by
      apply Decidable.byContradiction; intro hne_
      have e_ : nI (12 - r) - 1 = nI (11 - r) := by rw [show 12 - r = (11 - r) + 1 by omega]; exact nI_pred _
      rw [e_] at c_14
      exact nI_pos (by omega) c_14
    refine a_aload_0 (pc := 136) dX1_best_136 ?_
    refine a_iload_1 (pc := 137) dX1_best_137 ?_
    refine cV_P (ad := ad) (q0 := 0) (S2 := sX1_laterAt) (c_laterAt l G ad pr nd nw lt _) kc_X1_laterAt km_X1_43 ki_X1_laterAt kv_X1_laterAt kini_X1 ⟨kn_X1_laterAt, by decide, by decide⟩ (pc := 138) dX1_best_138 [0, 1, 2, 3, 4] rfl rfl rfl rfl (Nat.le_of_ble_eq_true rfl) rfl rfl rfl ?_
    exact a_iret (pc := 141) dX1_best_141 rfl rfl ⟨(nw, lt), trivial, congrArg (fun z => some (Value.int z)) (by
        unfold zLat
        rw [if_neg (nI_pos (by omega)), if_pos (show nI c ≤ (200 : Int32) from nI_le (b := 200) (by omega) (by decide)), nI_clamp (by omega)]
        exact hl_ c hc), rfl⟩
  · have hr_ : r < 12 := by
      apply Decidable.byContradiction; intro hne_
      obtain rfl : r = 12 := by omega
      exact c_14 (by decide)
    have e_ : nI (12 - r) - 1 = nI (11 - r) := by rw [show 12 - r = (11 - r) + 1 by omega]; exact nI_pred _
    rw [e_]
    refine a_aload_0 (pc := 17) dX1_best_17 ?_
    refine a_getf (ci := 1) (j := 0) rfl win_X1 (by decide) (pc := 18) dX1_best_18 kf_X1_9 rfl rfl ?_
    refine a_iload_4 (pc := 21) dX1_best_21 ?_
    refine a_ialdN (pc := 23) dX1_best_23 rfl (by omega) (by decide) ?_
    refine a_bipush (v := 12) (pc := 24) dX1_best_24 (by decide) ?_
    refine a_ishl (pc := 26) dX1_best_26 ?_
    refine a_iconst (v := 1) (pc := 27) dX1_best_27 (by decide) ?_
    refine a_bipush (v := 11) (pc := 28) dX1_best_28 (by decide) ?_
    refine a_iload_4 (pc := 30) dX1_best_30 ?_
    refine a_isub (pc := 32) dX1_best_32 ?_
    refine a_ishl (pc := 33) dX1_best_33 ?_
    rw [(hpr (11 - r) (by omega)).1, zshl _ (by have := (hpr (11 - r) (by omega)).2; omega), zshl1 r hr_]
    refine a_iadd (pc := 34) dX1_best_34 ?_
    rw [← zI_add]
    refine a_istore_5 (pc := 35) dX1_best_35 rfl (by decide) ?_
    refine a_iconst (v := 0) (pc := 37) dX1_best_37 (by decide) ?_
    refine a_istore_6 (pc := 38) dX1_best_38 rfl (by decide) ?_
    refine lp_bestI l G ad pr nd nw0 lt0 price need hpr hnd t o ht ho c hc r hr_ lt hl_ (fun nw hw_ => ?_) (t + 1) 0 nw (by omega) (fun x hx => absurd hx (Nat.not_lt_zero x))
    refine a_aload_0 (pc := 114) dX1_best_114 ?_
    refine a_getf (ci := 1) (j := 2) rfl win_X1 (by decide) (pc := 115) dX1_best_115 kf_X1_16 rfl rfl ?_
    refine a_iconst (v := 0) (pc := 118) dX1_best_118 (by decide) ?_
    refine a_aload_0 (pc := 119) dX1_best_119 ?_
    refine a_getf (ci := 1) (j := 3) rfl win_X1 (by decide) (pc := 120) dX1_best_120 kf_X1_19 rfl rfl ?_
    refine a_iconst (v := 0) (pc := 123) dX1_best_123 (by decide) ?_
    refine a_sipush (v := 201) (pc := 124) dX1_best_124 (by decide) ?_
    refine a_copy (t0 := 0) (pc := 127) dX1_best_127 km_X1_47 knat_copy kstat_copy kini_J10 rfl rfl rfl rfl rfl (by decide) (by decide) (by decide) (by decide) (by decide) (fun _ _ => rfl) (by decide) (Nat.le_of_ble_eq_true (by decide)) ?_
    refine a_iinc_4 (cst := -1) (pc := 130) dX1_best_130 rfl (by decide) (by decide) ?_
    refine a_goto (tgt := 12) (pc := 133) dX1_best_133 (by decide) ?_
    refine a_forget_5 ?_
    refine a_to (ih_ (q_ - 1) (by omega) (r + 1) nw (va_cpy nw lt 0 0 201) (by omega) (fun x hx => by
      show (if 0 ≤ x ∧ x < 0 + 201 then nw (0 + (x - 0)) else lt x) = _
      rw [if_pos (by omega), show 0 + (x - 0) = x by omega]
      exact hw_ x hx)) rfl ?_ rfl rfl
    rw [show 12 - (r + 1) = 11 - r by omega, Int32.sub_eq_add_neg]

set_option maxRecDepth 100000 in
set_option maxHeartbeats 4000000 in
/-- best -/
theorem c_best (l : Launch) (G : zG) (ad : Nat → Nat) (pr nd : Nat → Int32) (nw0 lt0 : Nat → Int32) (price need : Nat → Nat) (hpr : ∀ h, h < 12 → pr h = nI (price h) ∧ price h ≤ 99) (hnd : ∀ h, h < 12 → nd h = nI (need h) ∧ need h ≤ 999) (t o : Nat) (ht : t ≤ 200) (ho : o ≤ 200) (c : Nat) (hc : c ≤ t) : zSem l G sX1_best [.ref (ad 0), .int (nI c), .int (nI t), .int (nI o)] (wHr G ad pr nd nw0 lt0) (zV (fun _ : (Nat → Int32) × (Nat → Int32) => True) (fun _ => .int (nI (zN price need t o 12 c))) (fun u => wHr G ad pr nd u.1 u.2)) := by
  refine zEnterV (L := [some (.ref (ad 0)), some (.int (nI c)), some (.int (nI t)), some (.int (nI o)), none, none, none, none, none]) (by decide) rfl (Nat.le_of_ble_eq_true rfl) rfl ?_
  refine a_aload_0 (pc := 0) dX1_best_0 ?_
  refine a_getf (ci := 1) (j := 3) rfl win_X1 (by decide) (pc := 1) dX1_best_1 kf_X1_19 rfl rfl ?_
  refine a_iconst (v := 0) (pc := 4) dX1_best_4 (by decide) ?_
  refine cS_0 (S2 := sJ7_fill_53178) (c_fillI l G (zpk ad [4]) 201 (by decide) lt0 0) kc_J7_fill_53178 km_X1_33 ks_J7_fill_53178 kini_J7 ⟨kn_J7_fill_53178, by decide, by decide⟩ (pc := 5) dX1_best_5 [4] rfl rfl rfl rfl (Nat.le_of_ble_eq_true rfl) (fun _ => wHr G ad pr nd nw0 (zfill lt0 201 0)) (fun _ => rfl) ?_
  intro _u _
  refine a_bipush (v := 11) (pc := 8) dX1_best_8 (by decide) ?_
  refine a_istore_4 (pc := 10) dX1_best_10 rfl (by decide) ?_
  exact a_to (lp_bestO l G ad pr nd nw0 lt0 price need hpr hnd t o ht ho c hc 12 0 nw0 (zfill lt0 201 0) (by omega) (fun x hx => if_pos (by omega))) rfl rfl rfl rfl

