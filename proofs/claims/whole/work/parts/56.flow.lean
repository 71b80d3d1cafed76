/-! The model: the whole flow. -/
def zSuW (W : Int64) (m : Nat) : Nat → Int64
  | 0 => 0
  | v + 1 => zSuW W m v + zWv W m v
def zSuG (W g : Int64) (m : Nat) : Nat → Int64
  | 0 => 0
  | v + 1 => zSuG W g m v + zGv W g m v
theorem zSuW_i {W : Int64} {m : Nat} (hW : 0 ≤ W.toInt ∧ W.toInt ≤ 10000000) (hm : 0 < m ∧ m ≤ 4) : ∀ v : Nat, v ≤ m → (zSuW W m v).toInt = (v : Int) * (W.toInt / m) + min (v : Int) (W.toInt % m)
  | 0, _ => by
    have h1 : 0 ≤ W.toInt % m := Int.emod_nonneg _ (by omega)
    show (0 : Int64).toInt = (0 : Int) * (W.toInt / m) + min (0 : Int) (W.toInt % m)
    rw [j_0, Int.zero_mul]; omega
  | v + 1, hv => by
    have ih := zSuW_i hW hm v (by omega)
    have e := zWv_b (m := m) (v := v) hW hm (by omega)
    have h1 : 0 ≤ W.toInt % m := Int.emod_nonneg _ (by omega)
    have hd : W.toInt / m ≤ W.toInt := Int.ediv_le_self _ hW.1
    have hd0 : 0 ≤ W.toInt / m := Int.ediv_nonneg hW.1 (by omega)
    have h2 : (v : Int) * (W.toInt / m) ≤ 3 * (W.toInt / m) := Int.mul_le_mul_of_nonneg_right (by omega) hd0
    have h3 : 0 ≤ (v : Int) * (W.toInt / m) := Int.mul_nonneg (by omega) hd0
    have h4 : ((v + 1 : Nat) : Int) * (W.toInt / m) = (v : Int) * (W.toInt / m) + W.toInt / m := by rw [show ((v + 1 : Nat) : Int) = (v : Int) + 1 from rfl, Int.add_mul, Int.one_mul]
    show (zSuW W m v + zWv W m v).toInt = _
    rw [h4]
    by_cases h5 : W.toInt % m ≤ v
    · rw [if_pos h5] at e
      rw [j_add (by rw [ih, e]; omega) (by rw [ih, e]; omega), ih, e]
      omega
    · rw [if_neg h5] at e
      rw [j_add (by rw [ih, e]; omega) (by rw [ih, e]; omega), ih, e]
      omega
theorem zSuW_m {W : Int64} {m : Nat} (hW : 0 ≤ W.toInt ∧ W.toInt ≤ 10000000) (hm : 0 < m ∧ m ≤ 4) : zSuW W m m = W := by
  apply Int64.toInt_inj.mp
  rw [zSuW_i hW hm m (Nat.le_refl _)]
  have h1 : W.toInt % m < m := Int.emod_lt_of_pos _ (by omega)
  have h2 := Int.mul_ediv_add_emod W.toInt m
  omega
theorem zSuG_i (W g : Int64) (m : Nat) : ∀ v : Nat, zSuG W g m (v + 1) = zSuW W m (v + 1) * zSalt W g + (g - W * zSalt W g)
  | 0 => by
    show 0 + zGv W g m 0 = (0 + zWv W m 0) * zSalt W g + (g - W * zSalt W g)
    unfold zGv
    rw [if_pos rfl]
    exact j_r8 _ _ _
  | v + 1 => by
    show zSuG W g m (v + 1) + zGv W g m (v + 1) = (zSuW W m (v + 1) + zWv W m (v + 1)) * zSalt W g + (g - W * zSalt W g)
    rw [zSuG_i W g m v]
    unfold zGv
    rw [if_neg (Nat.succ_ne_zero v)]
    exact j_r4 _ _ _ _
theorem zSuG_m {W g : Int64} {m : Nat} (hW : 0 ≤ W.toInt ∧ W.toInt ≤ 10000000) (hm : 0 < m ∧ m ≤ 4) : zSuG W g m m = g := by
  obtain ⟨v, rfl⟩ : ∃ v, m = v + 1 := ⟨m - 1, by omega⟩
  rw [zSuG_i, zSuW_m hW hm]
  exact j_r5 _ _
/-- the five sums behind stages that left so much -/
def zJF (σ : zσ) (R : zSt3) : Nat → Int64 := zJq ((nI (σ.1 1)).toInt64 - R.1) ((nI (σ.1 1)).toInt64 * (nI (σ.1 2)).toInt64 - R.2.1) R.1 R.2.1 R.2.2
def zRowM (pa le : Nat → Int32) (s m n : Nat) (st : zSt3) (B : Nat → Nat → Int64) (c : Nat) : Prop := ∀ v, v < c → ∀ j, j < n → ∀ a, a < 5 → B a (s * 24 + v * 6 + j) = zOutM (pa (s * 24 + v * 6 + j)) (le (s * 24 + v * 6 + j)) (zVs pa le (s * 24 + v * 6) (zIn st m v) j) a
def zRowsM (pa le : Nat → Int32) (m : Nat → Nat) (n : Nat) (st : zSt3) (B : Nat → Nat → Int64) (c : Nat) : Prop := ∀ s, s < c → zRowM pa le s (m s) n (zRn pa le m n st s) B (m s)
theorem zRowM_s {pa le : Nat → Int32} {s m n c : Nat} {st : zSt3} {B u : Nat → Nat → Int64} (hn : n ≤ 6) (h : zRowM pa le s m n st B c) (h1 : zVrM pa le (s * 24 + c * 6) (zIn st m c) B u n) : zRowM pa le s m n st u (c + 1) := by
  intro v hv j hj a ha
  by_cases h2 : v = c
  · subst h2; exact h1.2 j hj a ha
  · rw [h1.1 a _ (by omega)]
    exact h v (by omega) j hj a ha
theorem zRowsM_k {pa le : Nat → Int32} {m : Nat → Nat} {n i c : Nat} {st s0 : zSt3} {B u : Nat → Nat → Int64} (hi : i < 3) (hn : n ≤ 6) (hm : ∀ s, s < 3 → m s ≤ 4) (h : zRowsM pa le m n st B i) (h1 : zVrM pa le (i * 24 + c * 6) s0 B u n) : zRowsM pa le m n st u i := by
  intro s hs v hv j hj a ha
  have := hm s (by omega)
  rw [h1.1 a _ (by omega)]
  exact h s hs v hv j hj a ha
theorem zRowsM_s {pa le : Nat → Int32} {m : Nat → Nat} {n i : Nat} {st : zSt3} {B : Nat → Nat → Int64} (h : zRowsM pa le m n st B i) (h1 : zRowM pa le i (m i) n (zRn pa le m n st i) B (m i)) : zRowsM pa le m n st B (i + 1) := by
  intro s hs
  by_cases h2 : s = i
  · subst h2; exact h1
  · exact h s (by omega)
theorem zMf_0 {f : Nat → Nat} {i s : Nat} (h : ¬ ∀ j, j < i + 1 → ¬ f j = 0) (hs : i ≤ s) : zMf f s = 0 := by
  unfold zMf
  by_cases q : ∀ j, j < s → ¬ f j = 0
  · rw [if_pos q]
    by_cases e : f s = 0
    · exact e
    · exact absurd (fun j hj => by
        by_cases h3 : j = s
        · subst h3; exact e
        · exact q j (by omega)) h
  · rw [if_neg q]
theorem zMf_f {f : Nat → Nat} {i : Nat} (h : ∀ j, j < i + 1 → ¬ f j = 0) : zMf f i = f i := if_pos (fun j hj => h j (by omega))
theorem zRn_stop {pa le : Nat → Int32} {f : Nat → Nat} {n i : Nat} {st : zSt3} (h : ¬ ∀ j, j < i + 1 → ¬ f j = 0) : ∀ d, zRn pa le (zMf f) n st (i + d) = zRn pa le (zMf f) n st i
  | 0 => rfl
  | d + 1 => by
    show zStN pa le (i + d) (zMf f (i + d)) n (zRn pa le (zMf f) n st (i + d)) = _
    rw [zMf_0 h (by omega), zRn_stop h d]
    exact if_pos rfl
theorem zRowsM_stop {pa le : Nat → Int32} {f : Nat → Nat} {n i : Nat} {st : zSt3} {B : Nat → Nat → Int64} (h : ¬ ∀ j, j < i + 1 → ¬ f j = 0) (hB : zRowsM pa le (zMf f) n st B i) : zRowsM pa le (zMf f) n st B 3 := by
  intro s hs v hv
  by_cases h2 : s < i
  · exact hB s h2 v hv
  · rw [zMf_0 h (by omega)] at hv
    exact absurd hv (Nat.not_lt_zero v)
theorem z2n_eq {n : Nat} (hn : n ≤ 6) : 2 * (nI n).toInt64 = (2 * nI n).toInt64 := by
  apply Int64.toInt_inj.mp
  have e := nI64 (n := n) (by omega)
  rw [z2n hn, j_mul (by rw [e, j_2]; omega) (by rw [e, j_2]; omega), e, j_2]
set_option maxRecDepth 100000 in
set_option maxHeartbeats 4000000 in
theorem lm_flowI (l : Launch) (G : zG) (ad : Nat → Nat) (σ : zσ) (hσ : zOk σ) (x0 : zY) (p : Nat) (hp : p ≤ 900) (i : Nat) (hi : i < 3) (hst : ∀ j, j < i + 1 → ¬ σ.2.1 0 j = 0) (K_ : ∀ B : Nat → Nat → Int64, zRowsM (zPaf σ) (zLef σ) (zMs σ) (σ.1 0) (zS0p σ (nI p)) B i → zRowM (zPaf σ) (zLef σ) i (σ.2.1 0 i) (σ.1 0) (zRn (zPaf σ) (zLef σ) (zMs σ) (σ.1 0) (zS0p σ (nI p)) i) B (σ.2.1 0 i) → AV l G sX6_flowAt (wM G ad σ x0) (z0 (fun B : Nat → Nat → Int64 => zRowsM (zPaf σ) (zLef σ) (zMs σ) (σ.1 0) (zS0p σ (nI p)) B 3) (fun B => wM G ad σ (x0.1, B, zJF σ (zFin σ (nI p) (zMs σ)), x0.2.2.2))) 175 [some (.ref (ad 0)), some (.int (nI p)), some (.int (nI i)), some (.long (zRn (zPaf σ) (zLef σ) (zMs σ) (σ.1 0) (zS0p σ (nI p)) i).1), none, some (.long (zRn (zPaf σ) (zLef σ) (zMs σ) (σ.1 0) (zS0p σ (nI p)) i).2.1), none, some (.long (nI (σ.2.1 0 i)).toInt64), none, some (.long (zSalt (zRn (zPaf σ) (zLef σ) (zMs σ) (σ.1 0) (zS0p σ (nI p)) i).1 (zRn (zPaf σ) (zLef σ) (zMs σ) (σ.1 0) (zS0p σ (nI p)) i).2.1)), none, some (.long ((zRn (zPaf σ) (zLef σ) (zMs σ) (σ.1 0) (zS0p σ (nI p)) i).2.1 - (zRn (zPaf σ) (zLef σ) (zMs σ) (σ.1 0) (zS0p σ (nI p)) i).1 * zSalt (zRn (zPaf σ) (zLef σ) (zMs σ) (σ.1 0) (zS0p σ (nI p)) i).1 (zRn (zPaf σ) (zLef σ) (zMs σ) (σ.1 0) (zS0p σ (nI p)) i).2.1)), none, none, none, none] [] (wM G ad σ (x0.1, B, zJq ((nI (σ.1 1)).toInt64 - (zStg (zPaf σ) (zLef σ) i (σ.2.1 0 i) (σ.1 0) (zRn (zPaf σ) (zLef σ) (zMs σ) (σ.1 0) (zS0p σ (nI p)) i) (σ.2.1 0 i)).1) (((nI (σ.1 1)).toInt64 * (nI (σ.1 2)).toInt64) - (zStg (zPaf σ) (zLef σ) i (σ.2.1 0 i) (σ.1 0) (zRn (zPaf σ) (zLef σ) (zMs σ) (σ.1 0) (zS0p σ (nI p)) i) (σ.2.1 0 i)).2) (zStg (zPaf σ) (zLef σ) i (σ.2.1 0 i) (σ.1 0) (zRn (zPaf σ) (zLef σ) (zMs σ) (σ.1 0) (zS0p σ (nI p)) i) (σ.2.1 0 i)).1 (zStg (zPaf σ) (zLef σ) i (σ.2.1 0 i) (σ.1 0) (zRn (zPaf σ) (zLef σ) (zMs σ) (σ.1 0) (zS0p σ (nI p)) i) (σ.2.1 0 i)).2 (zRn (zPaf σ) (zLef σ) (zMs σ) (σ.1 0) (zS0p σ (nI p)) i).2.2, x0.2.2.2))) : ∀ (q v : Nat) (B : Nat → Nat → Int64), v + q = (σ.2.1 0 i) → zRowsM (zPaf σ) (zLef σ) (zMs σ) (σ.1 0) (zS0p σ (nI p)) B i → zRowM (zPaf σ) (zLef σ) i (σ.2.1 0 i) (σ.1 0) (zRn (zPaf σ) (zLef σ) (zMs σ) (σ.1 0) (zS0p σ (nI p)) i) B v → AV l G sX6_flowAt (wM G ad σ x0) (z0 (fun B : Nat → Nat → Int64 => zRowsM (zPaf σ) (zLef σ) (zMs σ) (σ.1 0) (zS0p σ (nI p)) B 3) (fun B => wM G ad σ (x0.1, B, zJF σ (zFin σ (nI p) (zMs σ)), x0.2.2.2))) 105 [some (.ref (ad 0)), some (.int (nI p)), some (.int (nI i)), some (.long (zRn (zPaf σ) (zLef σ) (zMs σ) (σ.1 0) (zS0p σ (nI p)) i).1), none, some (.long (zRn (zPaf σ) (zLef σ) (zMs σ) (σ.1 0) (zS0p σ (nI p)) i).2.1), none, some (.long (nI (σ.2.1 0 i)).toInt64), none, some (.long (zSalt (zRn (zPaf σ) (zLef σ) (zMs σ) (σ.1 0) (zS0p σ (nI p)) i).1 (zRn (zPaf σ) (zLef σ) (zMs σ) (σ.1 0) (zS0p σ (nI p)) i).2.1)), none, some (.long ((zRn (zPaf σ) (zLef σ) (zMs σ) (σ.1 0) (zS0p σ (nI p)) i).2.1 - (zRn (zPaf σ) (zLef σ) (zMs σ) (σ.1 0) (zS0p σ (nI p)) i).1 * zSalt (zRn (zPaf σ) (zLef σ) (zMs σ) (σ.1 0) (zS0p σ (nI p)) i).1 (zRn (zPaf σ) (zLef σ) (zMs σ) (σ.1 0) (zS0p σ (nI p)) i).2.1)), none, some (.int (nI v)), none, none] [] (wM G ad σ (x0.1, B, (zJq ((nI (σ.1 1)).toInt64 - (zRn (zPaf σ) (zLef σ) (zMs σ) (σ.1 0) (zS0p σ (nI p)) i).1 + (zSuW (zRn (zPaf σ) (zLef σ) (zMs σ) (σ.1 0) (zS0p σ (nI p)) i).1 (σ.2.1 0 i) v - (zStg (zPaf σ) (zLef σ) i (σ.2.1 0 i) (σ.1 0) (zRn (zPaf σ) (zLef σ) (zMs σ) (σ.1 0) (zS0p σ (nI p)) i) v).1)) (((nI (σ.1 1)).toInt64 * (nI (σ.1 2)).toInt64) - (zRn (zPaf σ) (zLef σ) (zMs σ) (σ.1 0) (zS0p σ (nI p)) i).2.1 + (zSuG (zRn (zPaf σ) (zLef σ) (zMs σ) (σ.1 0) (zS0p σ (nI p)) i).1 (zRn (zPaf σ) (zLef σ) (zMs σ) (σ.1 0) (zS0p σ (nI p)) i).2.1 (σ.2.1 0 i) v - (zStg (zPaf σ) (zLef σ) i (σ.2.1 0 i) (σ.1 0) (zRn (zPaf σ) (zLef σ) (zMs σ) (σ.1 0) (zS0p σ (nI p)) i) v).2)) (zStg (zPaf σ) (zLef σ) i (σ.2.1 0 i) (σ.1 0) (zRn (zPaf σ) (zLef σ) (zMs σ) (σ.1 0) (zS0p σ (nI p)) i) v).1 (zStg (zPaf σ) (zLef σ) i (σ.2.1 0 i) (σ.1 0) (zRn (zPaf σ) (zLef σ) (zMs σ) (σ.1 0) (zS0p σ (nI p)) i) v).2 (zRn (zPaf σ) (zLef σ) (zMs σ) (σ.1 0) (zS0p σ (nI p)) i).2.2), x0.2.2.2)) := by
  have h4_ := hσ.2.2.2.2.2.1 i hi
  have h0_ := hst i (by omega)
  have h6_ := hσ.1.2
  have hRb_ : zB3 (zBA i) (zBB i) (zRn (zPaf σ) (zLef σ) (zMs σ) (σ.1 0) (zS0p σ (nI p)) i) := zRn_b (zPLσ hσ) (zS0_b hσ hp) (fun s hs => (zVin_N hσ.2.2.2.2.2.1 hs).2) hσ.1.2 i (by omega)
  have hA_ : zBA i ≤ 10000000 := by rcases (show i = 0 ∨ i = 1 ∨ i = 2 by omega) with e | e | e <;> rw [e] <;> decide
  have hWb_ : 0 ≤ (zRn (zPaf σ) (zLef σ) (zMs σ) (σ.1 0) (zS0p σ (nI p)) i).1.toInt ∧ (zRn (zPaf σ) (zLef σ) (zMs σ) (σ.1 0) (zS0p σ (nI p)) i).1.toInt ≤ 10000000 := ⟨hRb_.1.1, by have := hRb_.1.2; omega⟩
  intro q_
  induction q_ using Nat.strongRecOn
  rename_i q_ ih_
  intro v B hq_ hB_ hr_
  refine a_iload_13 (pc := 105) dX6_flowAt_105 ?_
  refine a_aload_0 (pc := 107) dX6_flowAt_107 ?_
  refine a_getf (ci := 6) (j := 0) rfl win_X6 (by decide) (pc := 108) dX6_flowAt_108 kf_X6_7 rfl rfl ?_
  refine a_iload_2 (pc := 111) dX6_flowAt_111 ?_
  refine a_ialdN (pc := 112) dX6_flowAt_112 rfl (by omega) (by decide) ?_
  refine a_icmp_ge (tgt := 175) (pc := 113) dX6_flowAt_113 (by decide) (fun c_113 => ?_) (fun c_113 => ?_)
  · obtain rfl : v = (σ.2.1 0 i) := by have := (zI_le (by omega) (by omega)).mp c_113; omega
    refine a_forget_13 (a_to (K_ B hB_ hr_) rfl rfl rfl (congrArg (fun j_ => wM G ad σ (x0.1, B, j_, x0.2.2.2)) ?_))
    rw [zSuW_m hWb_ ⟨by omega, h4_⟩, zSuG_m hWb_ ⟨by omega, h4_⟩, j_r3, j_r3]
  · have hv_ : v < (σ.2.1 0 i) := by have := mt (zI_le (a := (σ.2.1 0 i)) (b := v) (by omega) (by omega)).mpr c_113; omega
    have hne_ : ¬ (nI (σ.2.1 0 i)).toInt64 = 0 := fun h => by
      have := congrArg Int64.toInt h
      rw [nI64 (by omega), j_0] at this
      omega
    have J136_ : ∀ y_ : Int64, (zRn (zPaf σ) (zLef σ) (zMs σ) (σ.1 0) (zS0p σ (nI p)) i).1 / (nI (σ.2.1 0 i)).toInt64 + y_ = zWv (zRn (zPaf σ) (zLef σ) (zMs σ) (σ.1 0) (zS0p σ (nI p)) i).1 (σ.2.1 0 i) v → AV l G sX6_flowAt (wM G ad σ x0) (z0 (fun B : Nat → Nat → Int64 => zRowsM (zPaf σ) (zLef σ) (zMs σ) (σ.1 0) (zS0p σ (nI p)) B 3) (fun B => wM G ad σ (x0.1, B, zJF σ (zFin σ (nI p) (zMs σ)), x0.2.2.2))) 136 [some (.ref (ad 0)), some (.int (nI p)), some (.int (nI i)), some (.long (zRn (zPaf σ) (zLef σ) (zMs σ) (σ.1 0) (zS0p σ (nI p)) i).1), none, some (.long (zRn (zPaf σ) (zLef σ) (zMs σ) (σ.1 0) (zS0p σ (nI p)) i).2.1), none, some (.long (nI (σ.2.1 0 i)).toInt64), none, some (.long (zSalt (zRn (zPaf σ) (zLef σ) (zMs σ) (σ.1 0) (zS0p σ (nI p)) i).1 (zRn (zPaf σ) (zLef σ) (zMs σ) (σ.1 0) (zS0p σ (nI p)) i).2.1)), none, some (.long ((zRn (zPaf σ) (zLef σ) (zMs σ) (σ.1 0) (zS0p σ (nI p)) i).2.1 - (zRn (zPaf σ) (zLef σ) (zMs σ) (σ.1 0) (zS0p σ (nI p)) i).1 * zSalt (zRn (zPaf σ) (zLef σ) (zMs σ) (σ.1 0) (zS0p σ (nI p)) i).1 (zRn (zPaf σ) (zLef σ) (zMs σ) (σ.1 0) (zS0p σ (nI p)) i).2.1)), none, some (.int (nI v)), none, none] [.long y_, .long ((zRn (zPaf σ) (zLef σ) (zMs σ) (σ.1 0) (zS0p σ (nI p)) i).1 / (nI (σ.2.1 0 i)).toInt64)] (wM G ad σ (x0.1, B, (zJq ((nI (σ.1 1)).toInt64 - (zRn (zPaf σ) (zLef σ) (zMs σ) (σ.1 0) (zS0p σ (nI p)) i).1 + (zSuW (zRn (zPaf σ) (zLef σ) (zMs σ) (σ.1 0) (zS0p σ (nI p)) i).1 (σ.2.1 0 i) v - (zStg (zPaf σ) (zLef σ) i (σ.2.1 0 i) (σ.1 0) (zRn (zPaf σ) (zLef σ) (zMs σ) (σ.1 0) (zS0p σ (nI p)) i) v).1)) (((nI (σ.1 1)).toInt64 * (nI (σ.1 2)).toInt64) - (zRn (zPaf σ) (zLef σ) (zMs σ) (σ.1 0) (zS0p σ (nI p)) i).2.1 + (zSuG (zRn (zPaf σ) (zLef σ) (zMs σ) (σ.1 0) (zS0p σ (nI p)) i).1 (zRn (zPaf σ) (zLef σ) (zMs σ) (σ.1 0) (zS0p σ (nI p)) i).2.1 (σ.2.1 0 i) v - (zStg (zPaf σ) (zLef σ) i (σ.2.1 0 i) (σ.1 0) (zRn (zPaf σ) (zLef σ) (zMs σ) (σ.1 0) (zS0p σ (nI p)) i) v).2)) (zStg (zPaf σ) (zLef σ) i (σ.2.1 0 i) (σ.1 0) (zRn (zPaf σ) (zLef σ) (zMs σ) (σ.1 0) (zS0p σ (nI p)) i) v).1 (zStg (zPaf σ) (zLef σ) i (σ.2.1 0 i) (σ.1 0) (zRn (zPaf σ) (zLef σ) (zMs σ) (σ.1 0) (zS0p σ (nI p)) i) v).2 (zRn (zPaf σ) (zLef σ) (zMs σ) (σ.1 0) (zS0p σ (nI p)) i).2.2), x0.2.2.2)) := by
      intro y_ hy_
      refine a_ladd (pc := 136) dX6_flowAt_136 ?_
      rw [hy_]
      refine a_lstore_14 (pc := 137) dX6_flowAt_137 rfl (by decide) ?_
      refine a_aload_0 (pc := 139) dX6_flowAt_139 ?_
      refine a_iload_2 (pc := 140) dX6_flowAt_140 ?_
      refine a_iload_13 (pc := 141) dX6_flowAt_141 ?_
      refine a_lload_14 (pc := 143) dX6_flowAt_143 ?_
      refine a_lload_14 (pc := 145) dX6_flowAt_145 ?_
      refine a_lload_9 (pc := 147) dX6_flowAt_147 ?_
      refine a_lmul (pc := 149) dX6_flowAt_149 ?_
      have J161_ : ∀ z_ : Int64, zWv (zRn (zPaf σ) (zLef σ) (zMs σ) (σ.1 0) (zS0p σ (nI p)) i).1 (σ.2.1 0 i) v * zSalt (zRn (zPaf σ) (zLef σ) (zMs σ) (σ.1 0) (zS0p σ (nI p)) i).1 (zRn (zPaf σ) (zLef σ) (zMs σ) (σ.1 0) (zS0p σ (nI p)) i).2.1 + z_ = zGv (zRn (zPaf σ) (zLef σ) (zMs σ) (σ.1 0) (zS0p σ (nI p)) i).1 (zRn (zPaf σ) (zLef σ) (zMs σ) (σ.1 0) (zS0p σ (nI p)) i).2.1 (σ.2.1 0 i) v → AV l G sX6_flowAt (wM G ad σ x0) (z0 (fun B : Nat → Nat → Int64 => zRowsM (zPaf σ) (zLef σ) (zMs σ) (σ.1 0) (zS0p σ (nI p)) B 3) (fun B => wM G ad σ (x0.1, B, zJF σ (zFin σ (nI p) (zMs σ)), x0.2.2.2))) 161 [some (.ref (ad 0)), some (.int (nI p)), some (.int (nI i)), some (.long (zRn (zPaf σ) (zLef σ) (zMs σ) (σ.1 0) (zS0p σ (nI p)) i).1), none, some (.long (zRn (zPaf σ) (zLef σ) (zMs σ) (σ.1 0) (zS0p σ (nI p)) i).2.1), none, some (.long (nI (σ.2.1 0 i)).toInt64), none, some (.long (zSalt (zRn (zPaf σ) (zLef σ) (zMs σ) (σ.1 0) (zS0p σ (nI p)) i).1 (zRn (zPaf σ) (zLef σ) (zMs σ) (σ.1 0) (zS0p σ (nI p)) i).2.1)), none, some (.long ((zRn (zPaf σ) (zLef σ) (zMs σ) (σ.1 0) (zS0p σ (nI p)) i).2.1 - (zRn (zPaf σ) (zLef σ) (zMs σ) (σ.1 0) (zS0p σ (nI p)) i).1 * zSalt (zRn (zPaf σ) (zLef σ) (zMs σ) (σ.1 0) (zS0p σ (nI p)) i).1 (zRn (zPaf σ) (zLef σ) (zMs σ) (σ.1 0) (zS0p σ (nI p)) i).2.1)), none, some (.int (nI v)), some (.long (zWv (zRn (zPaf σ) (zLef σ) (zMs σ) (σ.1 0) (zS0p σ (nI p)) i).1 (σ.2.1 0 i) v)), none] [.long z_, .long (zWv (zRn (zPaf σ) (zLef σ) (zMs σ) (σ.1 0) (zS0p σ (nI p)) i).1 (σ.2.1 0 i) v * zSalt (zRn (zPaf σ) (zLef σ) (zMs σ) (σ.1 0) (zS0p σ (nI p)) i).1 (zRn (zPaf σ) (zLef σ) (zMs σ) (σ.1 0) (zS0p σ (nI p)) i).2.1), .long (zWv (zRn (zPaf σ) (zLef σ) (zMs σ) (σ.1 0) (zS0p σ (nI p)) i).1 (σ.2.1 0 i) v), .int (nI v), .int (nI i), .ref (ad 0)] (wM G ad σ (x0.1, B, (zJq ((nI (σ.1 1)).toInt64 - (zRn (zPaf σ) (zLef σ) (zMs σ) (σ.1 0) (zS0p σ (nI p)) i).1 + (zSuW (zRn (zPaf σ) (zLef σ) (zMs σ) (σ.1 0) (zS0p σ (nI p)) i).1 (σ.2.1 0 i) v - (zStg (zPaf σ) (zLef σ) i (σ.2.1 0 i) (σ.1 0) (zRn (zPaf σ) (zLef σ) (zMs σ) (σ.1 0) (zS0p σ (nI p)) i) v).1)) (((nI (σ.1 1)).toInt64 * (nI (σ.1 2)).toInt64) - (zRn (zPaf σ) (zLef σ) (zMs σ) (σ.1 0) (zS0p σ (nI p)) i).2.1 + (zSuG (zRn (zPaf σ) (zLef σ) (zMs σ) (σ.1 0) (zS0p σ (nI p)) i).1 (zRn (zPaf σ) (zLef σ) (zMs σ) (σ.1 0) (zS0p σ (nI p)) i).2.1 (σ.2.1 0 i) v - (zStg (zPaf σ) (zLef σ) i (σ.2.1 0 i) (σ.1 0) (zRn (zPaf σ) (zLef σ) (zMs σ) (σ.1 0) (zS0p σ (nI p)) i) v).2)) (zStg (zPaf σ) (zLef σ) i (σ.2.1 0 i) (σ.1 0) (zRn (zPaf σ) (zLef σ) (zMs σ) (σ.1 0) (zS0p σ (nI p)) i) v).1 (zStg (zPaf σ) (zLef σ) i (σ.2.1 0 i) (σ.1 0) (zRn (zPaf σ) (zLef σ) (zMs σ) (σ.1 0) (zS0p σ (nI p)) i) v).2 (zRn (zPaf σ) (zLef σ) (zMs σ) (σ.1 0) (zS0p σ (nI p)) i).2.2), x0.2.2.2)) := by
        intro z_ hz_
        refine a_ladd (pc := 161) dX6_flowAt_161 ?_
        rw [hz_]
        refine a_aload_0 (pc := 162) dX6_flowAt_162 ?_
        refine a_getf (ci := 6) (j := 22) rfl win_X6 (by decide) (pc := 163) dX6_flowAt_163 kf_X6_127 rfl rfl ?_
        refine f_0 (ad := ad) (q0 := 0) (S2 := sX6_vessel) (m_vessel l G ad σ hσ (x0.1, B, (zJq ((nI (σ.1 1)).toInt64 - (zRn (zPaf σ) (zLef σ) (zMs σ) (σ.1 0) (zS0p σ (nI p)) i).1 + (zSuW (zRn (zPaf σ) (zLef σ) (zMs σ) (σ.1 0) (zS0p σ (nI p)) i).1 (σ.2.1 0 i) v - (zStg (zPaf σ) (zLef σ) i (σ.2.1 0 i) (σ.1 0) (zRn (zPaf σ) (zLef σ) (zMs σ) (σ.1 0) (zS0p σ (nI p)) i) v).1)) (((nI (σ.1 1)).toInt64 * (nI (σ.1 2)).toInt64) - (zRn (zPaf σ) (zLef σ) (zMs σ) (σ.1 0) (zS0p σ (nI p)) i).2.1 + (zSuG (zRn (zPaf σ) (zLef σ) (zMs σ) (σ.1 0) (zS0p σ (nI p)) i).1 (zRn (zPaf σ) (zLef σ) (zMs σ) (σ.1 0) (zS0p σ (nI p)) i).2.1 (σ.2.1 0 i) v - (zStg (zPaf σ) (zLef σ) i (σ.2.1 0 i) (σ.1 0) (zRn (zPaf σ) (zLef σ) (zMs σ) (σ.1 0) (zS0p σ (nI p)) i) v).2)) (zStg (zPaf σ) (zLef σ) i (σ.2.1 0 i) (σ.1 0) (zRn (zPaf σ) (zLef σ) (zMs σ) (σ.1 0) (zS0p σ (nI p)) i) v).1 (zStg (zPaf σ) (zLef σ) i (σ.2.1 0 i) (σ.1 0) (zRn (zPaf σ) (zLef σ) (zMs σ) (σ.1 0) (zS0p σ (nI p)) i) v).2 (zRn (zPaf σ) (zLef σ) (zMs σ) (σ.1 0) (zS0p σ (nI p)) i).2.2), x0.2.2.2) i v hi (by omega) (zWv (zRn (zPaf σ) (zLef σ) (zMs σ) (σ.1 0) (zS0p σ (nI p)) i).1 (σ.2.1 0 i) v) (zGv (zRn (zPaf σ) (zLef σ) (zMs σ) (σ.1 0) (zS0p σ (nI p)) i).1 (zRn (zPaf σ) (zLef σ) (zMs σ) (σ.1 0) (zS0p σ (nI p)) i).2.1 (σ.2.1 0 i) v) (zRn (zPaf σ) (zLef σ) (zMs σ) (σ.1 0) (zS0p σ (nI p)) i).2.2 hRb_.2.2) kc_X6_vessel km_X6_130 ki_X6_vessel kv_X6_vessel kini_X6 ⟨kn_X6_vessel, by decide, by decide⟩ (pc := 166) dX6_flowAt_166 (znd_of rfl znd18) rfl rfl (Nat.le_of_ble_eq_true rfl) rfl rfl rfl (fun u_ hu_ => ?_)
        refine a_iinc_13 (cst := 1) (pc := 169) dX6_flowAt_169 rfl (by decide) (by decide) ?_
        refine a_goto (tgt := 105) (pc := 172) dX6_flowAt_172 (by decide) ?_
        rw [← nI_succ]
        refine a_forget_14 ?_
        refine a_to (ih_ (q_ - 1) (by omega) (v + 1) u_ (by omega) (zRowsM_k hi h6_ (fun s hs => (zVin_N hσ.2.2.2.2.2.1 hs).2) hB_ hu_) (zRowM_s h6_ hr_ hu_)) rfl rfl rfl ?_
        refine congrArg (fun j_ => wM G ad σ (x0.1, u_, j_, x0.2.2.2)) ?_
        refine Eq.trans ?_ (zJV_q _ _ _ _ _ _ _ _ _).symm
        show zJq _ _ _ _ _ = zJq ((nI (σ.1 1)).toInt64 - (zRn (zPaf σ) (zLef σ) (zMs σ) (σ.1 0) (zS0p σ (nI p)) i).1 + (zSuW (zRn (zPaf σ) (zLef σ) (zMs σ) (σ.1 0) (zS0p σ (nI p)) i).1 (σ.2.1 0 i) v - (zStg (zPaf σ) (zLef σ) i (σ.2.1 0 i) (σ.1 0) (zRn (zPaf σ) (zLef σ) (zMs σ) (σ.1 0) (zS0p σ (nI p)) i) v).1) + _) (((nI (σ.1 1)).toInt64 * (nI (σ.1 2)).toInt64) - (zRn (zPaf σ) (zLef σ) (zMs σ) (σ.1 0) (zS0p σ (nI p)) i).2.1 + (zSuG (zRn (zPaf σ) (zLef σ) (zMs σ) (σ.1 0) (zS0p σ (nI p)) i).1 (zRn (zPaf σ) (zLef σ) (zMs σ) (σ.1 0) (zS0p σ (nI p)) i).2.1 (σ.2.1 0 i) v - (zStg (zPaf σ) (zLef σ) i (σ.2.1 0 i) (σ.1 0) (zRn (zPaf σ) (zLef σ) (zMs σ) (σ.1 0) (zS0p σ (nI p)) i) v).2) + _) _ _ _
        rw [j_r2, j_r2]
        rfl
      refine a_iload_13 (pc := 150) dX6_flowAt_150 ?_
      first | refine a_if_neB (tgt := 160) (pc := 152) dX6_flowAt_152 (by decide) (fun c_152 => ?_) (fun c_152 => ?_) | refine a_if_ne (tgt := 160) (pc := 152) dX6_flowAt_152 (by decide) (fun c_152 => ?_) (fun c_152 => ?_)
      · have g_ : ¬ v = 0 := mt (zI_eq (a := v) (b := 0) (by omega) (by decide)).mpr c_152
        refine a_lconst (v := 0) (pc := 160) dX6_flowAt_160 (by decide) ?_
        first | exact J161_ _ (by unfold zGv; rw [if_pos g_]) | exact J161_ _ (by unfold zGv; rw [if_neg g_, Int64.add_zero])
      · have g_ : v = 0 := (zI_eq (a := v) (b := 0) (by omega) (by decide)).mp c_152
        refine a_lload_11 (pc := 155) dX6_flowAt_155 ?_
        refine a_goto (tgt := 161) (pc := 157) dX6_flowAt_157 (by decide) ?_
        first | exact J161_ _ (by unfold zGv; rw [if_pos g_]) | exact J161_ _ (by unfold zGv; rw [if_neg g_, Int64.add_zero])
    refine a_lload_3 (pc := 116) dX6_flowAt_116 ?_
    refine a_lload_7 (pc := 117) dX6_flowAt_117 ?_
    refine a_ldiv (pc := 119) dX6_flowAt_119 hne_ ?_
    refine a_iload_13 (pc := 120) dX6_flowAt_120 ?_
    refine a_i2l (pc := 122) dX6_flowAt_122 ?_
    refine a_lload_3 (pc := 123) dX6_flowAt_123 ?_
    refine a_lload_7 (pc := 124) dX6_flowAt_124 ?_
    refine a_lrem (pc := 126) dX6_flowAt_126 hne_ ?_
    refine a_lif_ge (tgt := 135) (pc := 127) dX6_flowAt_127 dX6_flowAt_128 (by decide) (fun c_127 => ?_) (fun c_127 => ?_)
    · refine a_lconst (v := 0) (pc := 135) dX6_flowAt_135 (by decide) ?_
      first | exact J136_ _ (by unfold zWv; rw [if_pos c_127, Int64.add_zero]) | exact J136_ _ (by unfold zWv; rw [if_neg c_127])
    · refine a_lconst (v := 1) (pc := 131) dX6_flowAt_131 (by decide) ?_
      refine a_goto (tgt := 136) (pc := 132) dX6_flowAt_132 (by decide) ?_
      first | exact J136_ _ (by unfold zWv; rw [if_pos c_127, Int64.add_zero]) | exact J136_ _ (by unfold zWv; rw [if_neg c_127])

theorem zJq_0 (σ : zσ) (R : zSt3) (e : Int64) (x y : Int64) : zJq ((nI (σ.1 1)).toInt64 - R.1 + (0 - 0)) ((nI (σ.1 1)).toInt64 * (nI (σ.1 2)).toInt64 - R.2.1 + (0 - 0)) x y e = zJq ((nI (σ.1 1)).toInt64 - R.1) ((nI (σ.1 1)).toInt64 * (nI (σ.1 2)).toInt64 - R.2.1) x y e := by
  rw [← j_r9, ← j_r9]
set_option maxRecDepth 100000 in
set_option maxHeartbeats 4000000 in
theorem lm_flowO (l : Launch) (G : zG) (ad : Nat → Nat) (σ : zσ) (hσ : zOk σ) (x0 : zY) (p : Nat) (hp : p ≤ 900) : ∀ (q i : Nat) (B : Nat → Nat → Int64), i + q = 3 → zRowsM (zPaf σ) (zLef σ) (zMs σ) (σ.1 0) (zS0p σ (nI p)) B i → AV l G sX6_flowAt (wM G ad σ x0) (z0 (fun B : Nat → Nat → Int64 => zRowsM (zPaf σ) (zLef σ) (zMs σ) (σ.1 0) (zS0p σ (nI p)) B 3) (fun B => wM G ad σ (x0.1, B, zJF σ (zFin σ (nI p) (zMs σ)), x0.2.2.2))) 42 [some (.ref (ad 0)), some (.int (nI p)), some (.int (nI i)), none, none, none, none, none, none, none, none, none, none, none, none, none] [] (wM G ad σ (x0.1, B, zJF σ (zRn (zPaf σ) (zLef σ) (zMs σ) (σ.1 0) (zS0p σ (nI p)) i), x0.2.2.2)) := by
  intro q_
  induction q_ using Nat.strongRecOn
  rename_i q_ ih_
  intro i B hq_ hB_
  refine a_iload_2 (pc := 42) dX6_flowAt_42 ?_
  refine a_iconst (v := 3) (pc := 43) dX6_flowAt_43 (by decide) ?_
  refine a_icmp_ge (tgt := 220) (pc := 44) dX6_flowAt_44 (by decide) (fun c_44 => ?_) (fun c_44 => ?_)
  · obtain rfl : i = 3 := by have := (zI_le (a := 3) (b := i) (by decide) (by omega)).mp c_44; omega
    exact a_vret (pc := 220) dX6_flowAt_220 rfl rfl (by first | exact ⟨B, hB_, rfl, rfl⟩ | exact ⟨B, zRowsM_stop c_52 hB_, rfl, congrArg (fun r_ => wM G ad σ (x0.1, B, zJF σ r_, x0.2.2.2)) (by have e_ := zRn_stop (pa := zPaf σ) (le := zLef σ) (n := σ.1 0) (st := zS0p σ (nI p)) c_52 (3 - i); rw [show i + (3 - i) = 3 by omega] at e_; exact e_.symm)⟩)
  · have hi : i < 3 := by have := mt (zI_le (a := 3) (b := i) (by decide) (by omega)).mpr c_44; omega
    refine a_aload_0 (pc := 47) dX6_flowAt_47 ?_
    refine a_iload_2 (pc := 48) dX6_flowAt_48 ?_
    refine f_P (ad := ad) (q0 := 0) (S2 := sX6_isStage) (m_isStage l G ad σ hσ (x0.1, B, zJF σ (zRn (zPaf σ) (zLef σ) (zMs σ) (σ.1 0) (zS0p σ (nI p)) i), x0.2.2.2) i hi) kc_X6_isStage km_X6_81 ki_X6_isStage kv_X6_isStage kini_X6 ⟨kn_X6_isStage, by decide, by decide⟩ (pc := 49) dX6_flowAt_49 (znd_of rfl znd18) rfl rfl (Nat.le_of_ble_eq_true rfl) rfl rfl rfl ?_
    first | refine a_if_eqB (tgt := 220) (pc := 52) dX6_flowAt_52 (by decide) (fun c_52 => ?_) (fun c_52 => ?_) | refine a_if_eq (tgt := 220) (pc := 52) dX6_flowAt_52 (by decide) (fun c_52 => ?_) (fun c_52 => ?_)
    · exact a_vret (pc := 220) dX6_flowAt_220 rfl rfl (by first | exact ⟨B, hB_, rfl, rfl⟩ | exact ⟨B, zRowsM_stop c_52 hB_, rfl, congrArg (fun r_ => wM G ad σ (x0.1, B, zJF σ r_, x0.2.2.2)) (by have e_ := zRn_stop (pa := zPaf σ) (le := zLef σ) (n := σ.1 0) (st := zS0p σ (nI p)) c_52 (3 - i); rw [show i + (3 - i) = 3 by omega] at e_; exact e_.symm)⟩)
    · have hst := c_52
      have h4_ := hσ.2.2.2.2.2.1 i hi
      have h0_ := hst i (by omega)
      have h6_ := hσ.1.2
      have hRb_ : zB3 (zBA i) (zBB i) (zRn (zPaf σ) (zLef σ) (zMs σ) (σ.1 0) (zS0p σ (nI p)) i) := zRn_b (zPLσ hσ) (zS0_b hσ hp) (fun s hs => (zVin_N hσ.2.2.2.2.2.1 hs).2) hσ.1.2 i (by omega)
      have hA_ : zBA i ≤ 10000000 := by rcases (show i = 0 ∨ i = 1 ∨ i = 2 by omega) with e | e | e <;> rw [e] <;> decide
      have hWb_ : 0 ≤ (zRn (zPaf σ) (zLef σ) (zMs σ) (σ.1 0) (zS0p σ (nI p)) i).1.toInt ∧ (zRn (zPaf σ) (zLef σ) (zMs σ) (σ.1 0) (zS0p σ (nI p)) i).1.toInt ≤ 10000000 := ⟨hRb_.1.1, by have := hRb_.1.2; omega⟩
      have hR_ : (zRn (zPaf σ) (zLef σ) (zMs σ) (σ.1 0) (zS0p σ (nI p)) (i + 1)) = ((zStg (zPaf σ) (zLef σ) i (σ.2.1 0 i) (σ.1 0) (zRn (zPaf σ) (zLef σ) (zMs σ) (σ.1 0) (zS0p σ (nI p)) i) (σ.2.1 0 i)).1, (zStg (zPaf σ) (zLef σ) i (σ.2.1 0 i) (σ.1 0) (zRn (zPaf σ) (zLef σ) (zMs σ) (σ.1 0) (zS0p σ (nI p)) i) (σ.2.1 0 i)).2, zLess (zRn (zPaf σ) (zLef σ) (zMs σ) (σ.1 0) (zS0p σ (nI p)) i).2.2 (2 * nI (σ.1 0)).toInt64) := by
        show zStN _ _ i (zMs σ i) _ _ = _
        rw [show zMs σ i = σ.2.1 0 i from zMf_f hst]
        exact zStN_pos (by omega)
      refine a_aload_0 (pc := 55) dX6_flowAt_55 ?_
      refine a_getf (ci := 6) (j := 20) rfl win_X6 (by decide) (pc := 56) dX6_flowAt_56 kf_X6_121 rfl rfl ?_
      refine a_lstore_3 (pc := 59) dX6_flowAt_59 rfl (by decide) ?_
      refine a_aload_0 (pc := 60) dX6_flowAt_60 ?_
      refine a_getf (ci := 6) (j := 21) rfl win_X6 (by decide) (pc := 61) dX6_flowAt_61 kf_X6_124 rfl rfl ?_
      refine a_lstore_5 (pc := 64) dX6_flowAt_64 rfl (by decide) ?_
      refine a_aload_0 (pc := 66) dX6_flowAt_66 ?_
      refine a_getf (ci := 6) (j := 0) rfl win_X6 (by decide) (pc := 67) dX6_flowAt_67 kf_X6_7 rfl rfl ?_
      refine a_iload_2 (pc := 70) dX6_flowAt_70 ?_
      refine a_ialdN (pc := 71) dX6_flowAt_71 rfl (by omega) (by decide) ?_
      refine a_i2l (pc := 72) dX6_flowAt_72 ?_
      refine a_lstore_7 (pc := 73) dX6_flowAt_73 rfl (by decide) ?_
      refine a_lload_3 (pc := 75) dX6_flowAt_75 ?_
      refine a_lload_5 (pc := 76) dX6_flowAt_76 ?_
      refine cS_P (S2 := sX6_saltOf) (m_saltOf l G _ _) kc_X6_saltOf km_X6_100 ks_X6_saltOf kini_X6 ⟨kn_X6_saltOf, by decide, by decide⟩ (pc := 78) dX6_flowAt_78 [] rfl rfl rfl rfl (Nat.le_of_ble_eq_true rfl) ?_
      refine a_lstore_9 (pc := 81) dX6_flowAt_81 rfl (by decide) ?_
      refine a_lload_5 (pc := 83) dX6_flowAt_83 ?_
      refine a_lload_3 (pc := 85) dX6_flowAt_85 ?_
      refine a_lload_9 (pc := 86) dX6_flowAt_86 ?_
      refine a_lmul (pc := 88) dX6_flowAt_88 ?_
      refine a_lsub (pc := 89) dX6_flowAt_89 ?_
      refine a_lstore_11 (pc := 90) dX6_flowAt_90 rfl (by decide) ?_
      refine a_aload_0 (pc := 92) dX6_flowAt_92 ?_
      refine a_lconst (v := 0) (pc := 93) dX6_flowAt_93 (by decide) ?_
      refine a_putf (ci := 6) (j := 20) rfl win_X6 tyX6_ok nmX6 (by decide) (pc := 94) dX6_flowAt_94 kf_X6_121 rfl rfl rfl rfl rfl (Nat.le_of_ble_eq_true rfl) ?_
      refine a_aload_0 (pc := 97) dX6_flowAt_97 ?_
      refine a_lconst (v := 0) (pc := 98) dX6_flowAt_98 (by decide) ?_
      refine a_putf (ci := 6) (j := 21) rfl win_X6 tyX6_ok nmX6 (by decide) (pc := 99) dX6_flowAt_99 kf_X6_124 rfl rfl rfl rfl rfl (Nat.le_of_ble_eq_true rfl) ?_
      refine a_iconst (v := 0) (pc := 102) dX6_flowAt_102 (by decide) ?_
      refine a_istore_13 (pc := 103) dX6_flowAt_103 rfl (by decide) ?_
      refine a_to (lm_flowI l G ad σ hσ x0 p hp i hi hst (fun B2 hB2_ hr2_ => ?_) (σ.2.1 0 i) 0 B (by omega) hB_ (fun v hv => absurd hv (Nat.not_lt_zero v))) rfl rfl rfl (congrArg (fun j_ => wM G ad σ (x0.1, B, j_, x0.2.2.2)) (zJq_0 σ _ _ _ _))
      have J211_ : ∀ y_ : Int64, y_ = zLess (zRn (zPaf σ) (zLef σ) (zMs σ) (σ.1 0) (zS0p σ (nI p)) i).2.2 (2 * nI (σ.1 0)).toInt64 → AV l G sX6_flowAt (wM G ad σ x0) (z0 (fun B : Nat → Nat → Int64 => zRowsM (zPaf σ) (zLef σ) (zMs σ) (σ.1 0) (zS0p σ (nI p)) B 3) (fun B => wM G ad σ (x0.1, B, zJF σ (zFin σ (nI p) (zMs σ)), x0.2.2.2))) 211 [some (.ref (ad 0)), some (.int (nI p)), some (.int (nI i)), some (.long (zRn (zPaf σ) (zLef σ) (zMs σ) (σ.1 0) (zS0p σ (nI p)) i).1), none, some (.long (zRn (zPaf σ) (zLef σ) (zMs σ) (σ.1 0) (zS0p σ (nI p)) i).2.1), none, some (.long (nI (σ.2.1 0 i)).toInt64), none, some (.long (zSalt (zRn (zPaf σ) (zLef σ) (zMs σ) (σ.1 0) (zS0p σ (nI p)) i).1 (zRn (zPaf σ) (zLef σ) (zMs σ) (σ.1 0) (zS0p σ (nI p)) i).2.1)), none, some (.long ((zRn (zPaf σ) (zLef σ) (zMs σ) (σ.1 0) (zS0p σ (nI p)) i).2.1 - (zRn (zPaf σ) (zLef σ) (zMs σ) (σ.1 0) (zS0p σ (nI p)) i).1 * zSalt (zRn (zPaf σ) (zLef σ) (zMs σ) (σ.1 0) (zS0p σ (nI p)) i).1 (zRn (zPaf σ) (zLef σ) (zMs σ) (σ.1 0) (zS0p σ (nI p)) i).2.1)), none, none, none, none] [.long y_, .ref (ad 0)] (wM G ad σ (x0.1, B2, zJq ((nI (σ.1 1)).toInt64 - (zStg (zPaf σ) (zLef σ) i (σ.2.1 0 i) (σ.1 0) (zRn (zPaf σ) (zLef σ) (zMs σ) (σ.1 0) (zS0p σ (nI p)) i) (σ.2.1 0 i)).1) (((nI (σ.1 1)).toInt64 * (nI (σ.1 2)).toInt64) - (zStg (zPaf σ) (zLef σ) i (σ.2.1 0 i) (σ.1 0) (zRn (zPaf σ) (zLef σ) (zMs σ) (σ.1 0) (zS0p σ (nI p)) i) (σ.2.1 0 i)).2) (zStg (zPaf σ) (zLef σ) i (σ.2.1 0 i) (σ.1 0) (zRn (zPaf σ) (zLef σ) (zMs σ) (σ.1 0) (zS0p σ (nI p)) i) (σ.2.1 0 i)).1 (zStg (zPaf σ) (zLef σ) i (σ.2.1 0 i) (σ.1 0) (zRn (zPaf σ) (zLef σ) (zMs σ) (σ.1 0) (zS0p σ (nI p)) i) (σ.2.1 0 i)).2 (zRn (zPaf σ) (zLef σ) (zMs σ) (σ.1 0) (zS0p σ (nI p)) i).2.2, x0.2.2.2)) := by
        intro y_ hy_; subst hy_
        refine a_putf (ci := 6) (j := 22) rfl win_X6 tyX6_ok nmX6 (by decide) (pc := 211) dX6_flowAt_211 kf_X6_127 rfl rfl rfl rfl rfl (Nat.le_of_ble_eq_true rfl) ?_
        refine a_iinc_2 (cst := 1) (pc := 214) dX6_flowAt_214 rfl (by decide) (by decide) ?_
        refine a_goto (tgt := 42) (pc := 217) dX6_flowAt_217 (by decide) ?_
        rw [← nI_succ]
        refine a_forget_3 (a_forget_5 (a_forget_7 (a_forget_9 (a_forget_11 ?_))))
        exact a_to (ih_ (q_ - 1) (by omega) (i + 1) B2 (by omega) (zRowsM_s hB2_ (by rw [show zMs σ i = σ.2.1 0 i from zMf_f hst]; exact hr2_))) rfl rfl rfl (congrArg (fun r_ => wM G ad σ (x0.1, B2, zJF σ r_, x0.2.2.2)) hR_)
      refine a_aload_0 (pc := 175) dX6_flowAt_175 ?_
      refine a_aload_0 (pc := 176) dX6_flowAt_176 ?_
      refine a_getf (ci := 6) (j := 22) rfl win_X6 (by decide) (pc := 177) dX6_flowAt_177 kf_X6_127 rfl rfl ?_
      refine a_ldc2 (pc := 180) dX6_flowAt_180 kl_X6_119 ?_
      refine a_aload_0 (pc := 183) dX6_flowAt_183 ?_
      refine a_getf (ci := 6) (j := 1) rfl win_X6 (by decide) (pc := 184) dX6_flowAt_184 kf_X6_13 rfl rfl ?_
      refine a_i2l (pc := 187) dX6_flowAt_187 ?_
      refine a_lmul (pc := 188) dX6_flowAt_188 ?_
      rw [z2n_eq h6_]
      refine a_lif_ge (tgt := 197) (pc := 189) dX6_flowAt_189 dX6_flowAt_190 (by decide) (fun c_189 => ?_) (fun c_189 => ?_)
      · refine a_aload_0 (pc := 197) dX6_flowAt_197 ?_
        refine a_getf (ci := 6) (j := 22) rfl win_X6 (by decide) (pc := 198) dX6_flowAt_198 kf_X6_127 rfl rfl ?_
        refine a_ldc2 (pc := 201) dX6_flowAt_201 kl_X6_119 ?_
        refine a_aload_0 (pc := 204) dX6_flowAt_204 ?_
        refine a_getf (ci := 6) (j := 1) rfl win_X6 (by decide) (pc := 205) dX6_flowAt_205 kf_X6_13 rfl rfl ?_
        refine a_i2l (pc := 208) dX6_flowAt_208 ?_
        refine a_lmul (pc := 209) dX6_flowAt_209 ?_
        rw [z2n_eq h6_]
        refine a_lsub (pc := 210) dX6_flowAt_210 ?_
        first | exact J211_ _ (zLess_ge hRb_.2.2 (by rw [z2n h6_]; omega) c_189) | exact J211_ _ (zLess_nge hRb_.2.2 (by rw [z2n h6_]; omega) c_189)
      · refine a_lconst (v := 0) (pc := 193) dX6_flowAt_193 (by decide) ?_
        refine a_goto (tgt := 211) (pc := 194) dX6_flowAt_194 (by decide) ?_
        first | exact J211_ _ (zLess_ge hRb_.2.2 (by rw [z2n h6_]; omega) c_189) | exact J211_ _ (zLess_nge hRb_.2.2 (by rw [z2n h6_]; omega) c_189)

theorem zJF_0 (G : zG) (ad : Nat → Nat) (σ : zσ) (x0 : zY) (p : Nat) : wM G ad σ (x0.1, x0.2.1, zJF σ (zRn (zPaf σ) (zLef σ) (zMs σ) (σ.1 0) (zS0p σ (nI p)) 0), x0.2.2.2) = wM G ad σ (x0.1, x0.2.1, zJq 0 0 (nI (σ.1 1)).toInt64 ((nI (σ.1 1)).toInt64 * (nI (σ.1 2)).toInt64) (nI p).toInt64, x0.2.2.2) := by
  refine congrArg (fun j_ => wM G ad σ (x0.1, x0.2.1, j_, x0.2.2.2)) ?_
  show zJq ((nI (σ.1 1)).toInt64 - (nI (σ.1 1)).toInt64) (((nI (σ.1 1)).toInt64 * (nI (σ.1 2)).toInt64) - ((nI (σ.1 1)).toInt64 * (nI (σ.1 2)).toInt64)) (nI (σ.1 1)).toInt64 ((nI (σ.1 1)).toInt64 * (nI (σ.1 2)).toInt64) (nI p).toInt64 = _
  rw [← j_r7, ← j_r7]
set_option maxRecDepth 100000 in
set_option maxHeartbeats 4000000 in
/-- flowAt -/
theorem m_flowAt (l : Launch) (G : zG) (ad : Nat → Nat) (σ : zσ) (hσ : zOk σ) (x0 : zY) (p : Nat) (hp : p ≤ 900) : zSem l G sX6_flowAt [.ref (ad 0), .int (nI p)] (wM G ad σ x0) (z0 (fun B : Nat → Nat → Int64 => zRowsM (zPaf σ) (zLef σ) (zMs σ) (σ.1 0) (zS0p σ (nI p)) B 3) (fun B => wM G ad σ (x0.1, B, zJF σ (zFin σ (nI p) (zMs σ)), x0.2.2.2))) := by
  refine zEnterV (L := [some (.ref (ad 0)), some (.int (nI p)), none, none, none, none, none, none, none, none, none, none, none, none, none, none]) (by decide) rfl (Nat.le_of_ble_eq_true rfl) rfl ?_
  refine a_aload_0 (pc := 0) dX6_flowAt_0 ?_
  refine a_lconst (v := 0) (pc := 1) dX6_flowAt_1 (by decide) ?_
  refine a_putf (ci := 6) (j := 18) rfl win_X6 tyX6_ok nmX6 (by decide) (pc := 2) dX6_flowAt_2 kf_X6_108 rfl rfl rfl rfl rfl (Nat.le_of_ble_eq_true rfl) ?_
  refine a_aload_0 (pc := 5) dX6_flowAt_5 ?_
  refine a_lconst (v := 0) (pc := 6) dX6_flowAt_6 (by decide) ?_
  refine a_putf (ci := 6) (j := 19) rfl win_X6 tyX6_ok nmX6 (by decide) (pc := 7) dX6_flowAt_7 kf_X6_112 rfl rfl rfl rfl rfl (Nat.le_of_ble_eq_true rfl) ?_
  refine a_aload_0 (pc := 10) dX6_flowAt_10 ?_
  refine a_aload_0 (pc := 11) dX6_flowAt_11 ?_
  refine a_getf (ci := 6) (j := 4) rfl win_X6 (by decide) (pc := 12) dX6_flowAt_12 kf_X6_23 rfl rfl ?_
  refine a_i2l (pc := 15) dX6_flowAt_15 ?_
  refine a_putf (ci := 6) (j := 20) rfl win_X6 tyX6_ok nmX6 (by decide) (pc := 16) dX6_flowAt_16 kf_X6_121 rfl rfl rfl rfl rfl (Nat.le_of_ble_eq_true rfl) ?_
  refine a_aload_0 (pc := 19) dX6_flowAt_19 ?_
  refine a_aload_0 (pc := 20) dX6_flowAt_20 ?_
  refine a_getf (ci := 6) (j := 4) rfl win_X6 (by decide) (pc := 21) dX6_flowAt_21 kf_X6_23 rfl rfl ?_
  refine a_i2l (pc := 24) dX6_flowAt_24 ?_
  refine a_aload_0 (pc := 25) dX6_flowAt_25 ?_
  refine a_getf (ci := 6) (j := 5) rfl win_X6 (by decide) (pc := 26) dX6_flowAt_26 kf_X6_26 rfl rfl ?_
  refine a_i2l (pc := 29) dX6_flowAt_29 ?_
  refine a_lmul (pc := 30) dX6_flowAt_30 ?_
  refine a_putf (ci := 6) (j := 21) rfl win_X6 tyX6_ok nmX6 (by decide) (pc := 31) dX6_flowAt_31 kf_X6_124 rfl rfl rfl rfl rfl (Nat.le_of_ble_eq_true rfl) ?_
  refine a_aload_0 (pc := 34) dX6_flowAt_34 ?_
  refine a_iload_1 (pc := 35) dX6_flowAt_35 ?_
  refine a_i2l (pc := 36) dX6_flowAt_36 ?_
  refine a_putf (ci := 6) (j := 22) rfl win_X6 tyX6_ok nmX6 (by decide) (pc := 37) dX6_flowAt_37 kf_X6_127 rfl rfl rfl rfl rfl (Nat.le_of_ble_eq_true rfl) ?_
  refine a_iconst (v := 0) (pc := 40) dX6_flowAt_40 (by decide) ?_
  refine a_istore_2 (pc := 41) dX6_flowAt_41 rfl (by decide) ?_
  exact a_to (lm_flowO l G ad σ hσ x0 p hp 3 0 x0.2.1 (by omega) (fun s hs => absurd hs (Nat.not_lt_zero s))) rfl rfl rfl (zJF_0 G ad σ x0 p)

set_option maxRecDepth 100000 in
set_option maxHeartbeats 4000000 in
/-- flowNow -/
theorem m_flowNow (l : Launch) (G : zG) (ad : Nat → Nat) (σ : zσ) (hσ : zOk σ) (x0 : zY) : zSem l G sX6_flowNow [.ref (ad 0)] (wM G ad σ x0) (z0 (fun B : Nat → Nat → Int64 => zRowsM (zPaf σ) (zLef σ) (zMs σ) (σ.1 0) (zS0p σ (nI (σ.1 3))) B 3) (fun B => wM G ad σ (x0.1, B, zJF σ (zFin σ (nI (σ.1 3)) (zMs σ)), x0.2.2.2))) := by
  refine zEnterV (L := [some (.ref (ad 0))]) (by decide) rfl (Nat.le_of_ble_eq_true rfl) rfl ?_
  refine a_aload_0 (pc := 0) dX6_flowNow_0 ?_
  refine a_aload_0 (pc := 1) dX6_flowNow_1 ?_
  refine a_getf (ci := 6) (j := 6) rfl win_X6 (by decide) (pc := 2) dX6_flowNow_2 kf_X6_29 rfl rfl ?_
  refine f_0 (ad := ad) (q0 := 0) (S2 := sX6_flowAt) (m_flowAt l G ad σ hσ x0 (σ.1 3) hσ.2.2.2.1) kc_X6_flowAt km_X6_134 ki_X6_flowAt kv_X6_flowAt kini_X6 ⟨kn_X6_flowAt, by decide, by decide⟩ (pc := 5) dX6_flowNow_5 (znd_of rfl znd18) rfl rfl (Nat.le_of_ble_eq_true rfl) rfl rfl rfl (fun B_ hB_ => ?_)
  exact a_vret (pc := 8) dX6_flowNow_8 rfl rfl ⟨B_, hB_, rfl, rfl⟩

