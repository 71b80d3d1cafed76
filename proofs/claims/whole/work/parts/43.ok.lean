/-! Every call keeps the bounds. -/
theorem zuN_p {P : Nat → Nat → Prop} {f : Nat → Nat} {k x N : Nat} (h : ∀ j, j < N → P j (f j)) (hx : P k x) : ∀ j, j < N → P j (zuN f k x j) := by
  intro j hj
  unfold zuN
  split
  · rename_i e; subst e; exact hx
  · exact h j hj
theorem zclamp {x : Int32} {k : Nat} (hk : k < 2 ^ 31) (h : x = nI k) : x.toNatClampNeg = k := by rw [h, nI_clamp hk]
theorem zOk_stage {σ : zσ} (hσ : zOk σ) (x n : Int32) : zOk (o_stage σ x n).2 := by
  by_cases h : zOR x 0 2 ∨ zOR n (if x = 0 then 1 else 0) 4
  · unfold o_stage; rw [if_pos h]; exact hσ
  · unfold o_stage
    rw [if_neg h]
    obtain ⟨k, hk, rfl⟩ := zrange (n := 2) (by decide) rfl (fun q => h (Or.inl q))
    obtain ⟨m, hm, rfl⟩ : ∃ z, z ≤ 4 ∧ n = nI z := zrange (n := 4) (by decide) rfl (fun q => h (Or.inr (q.elim (fun q => Or.inl (by split <;> first | exact q | exact Int32.lt_trans q (by decide))) Or.inr)))
    obtain ⟨a1, a2, a3, a4, a5, a6, a7, a8, a9, a10, a11, a12, a13, a14⟩ := hσ
    rw [nI_clamp (by omega), nI_clamp (by omega)]
    refine ⟨a1, a2, a3, a4, a5, zuN_p (P := fun _ z => z ≤ 4) a6 hm, ?_, a8, a9, a10, a11, a12, a13, a14⟩
    show 1 ≤ zuN (σ.2.1 0) k m 0
    unfold zuN
    split
    · rename_i e
      subst e
      apply Decidable.byContradiction
      intro q
      obtain rfl : m = 0 := by omega
      exact h (Or.inr (Or.inl (by decide)))
    · exact a7
theorem zOk_length {σ : zσ} (hσ : zOk σ) (n : Int32) : zOk (o_length σ n).2 := by
  unfold o_length
  split
  · exact hσ
  · rename_i h
    obtain ⟨k, hk, rfl⟩ := zrange1 (n := 6) (by decide) rfl h
    obtain ⟨a1, a2⟩ := hσ
    rw [nI_clamp (by omega)]
    exact ⟨hk, a2⟩
theorem zOk_fresh {σ : zσ} (hσ : zOk σ) (x c : Int32) : zOk (o_fresh σ x c).2 := by
  unfold o_fresh
  split
  · exact hσ
  · rename_i h
    obtain ⟨m, hm, rfl⟩ := zrange (n := 3) (by decide) rfl (fun q => h (Or.inr q))
    obtain ⟨a1, a2, a3, a4, a5, a6, a7, a8, a9, a10, a11, a12, a13, a14⟩ := hσ
    rw [nI_clamp (by omega)]
    exact ⟨a1, a2, a3, a4, a5, a6, a7, zuN_p (P := fun _ z => z < 4) a8 (by omega), zuN_p (P := fun _ z => z ≤ 90) a9 (by omega), a10, a11, a12, a13, a14⟩
theorem zOk_feed {σ : zσ} (hσ : zOk σ) (w s p : Int32) : zOk (o_feed σ w s p).2 := by
  unfold o_feed
  split
  · exact hσ
  · rename_i h
    obtain ⟨kw, hw, rfl⟩ := zrange (hi := 20000) (n := 20000) (by decide) (by decide +kernel) (fun q => h (Or.inl q))
    obtain ⟨ks, hs, rfl⟩ := zrange (hi := 60000) (n := 60000) (by decide) (by decide +kernel) (fun q => h (Or.inr (Or.inl q)))
    obtain ⟨kp, hp, rfl⟩ := zrange (hi := 900) (n := 900) (by decide) (by decide +kernel) (fun q => h (Or.inr (Or.inr q)))
    obtain ⟨a1, a2, a3, a4, a5, a6⟩ := hσ
    rw [nI_clamp (by omega), nI_clamp (by omega), nI_clamp (by omega)]
    exact ⟨a1, hw, hs, hp, a5, a6⟩
theorem zExN_p {P : Nat → Prop} {f : Nat → Nat} {a b : Nat} (h : ∀ j, j < 72 → P (f j)) (ha : a < 72) (hb : b < 72) : ∀ j, j < 72 → P (zExN f a b j) :=
  zuN_p (P := fun _ z => P z) (zuN_p (P := fun _ z => P z) h (h b hb)) (h a ha)
theorem zOk_change {σ : zσ} (hσ : zOk σ) (x y : Int32) : zOk (o_change σ x y).2 := by
  unfold o_change
  split
  · exact hσ
  · rename_i h
    obtain ⟨a1, a2, a3, a4, a5, a6, a7, a8, a9, a10, a11, a12, a13, a14⟩ := hσ
    rcases hx : zPl x with _ | a
    · exact absurd (Or.inl hx) h
    · rcases hy : zPl y with _ | b
      · exact absurd (Or.inr (Or.inl hy)) h
      · exact ⟨a1, a2, a3, a4, a5, a6, a7, zExN_p (P := fun z => z < 4) a8 (zPl_lt hx) (zPl_lt hy), zExN_p (P := fun z => z ≤ 90) a9 (zPl_lt hx) (zPl_lt hy), a10, a11, a12, a13, a14⟩
theorem zOk_rule {σ : zσ} (hσ : zOk σ) (x v : Int32) : zOk (o_rule σ x v).2 := by
  unfold o_rule
  split
  · exact hσ
  · rename_i h
    obtain ⟨k, hk, rfl⟩ := zrange (n := 6) (by decide) rfl (fun q => h (Or.inl q))
    have hb := zrule_hb k (by omega)
    have hv : ¬ zOR v (nI (zRuleLo k)) (nI (zRuleHi k)) := fun q => h (Or.inr (by rw [nI_clamp (by omega)]; exact q))
    obtain ⟨m, hm, rfl⟩ := zrangeL (by omega) hb.1 hv
    obtain ⟨a1, a2, a3, a4, a5, a6, a7, a8, a9, a10, a11, a12, a13, a14⟩ := hσ
    rw [nI_clamp (by omega), nI_clamp (by omega)]
    exact ⟨a1, a2, a3, a4, a5, a6, a7, a8, a9, zuN_p (P := fun j z => zRuleLo j ≤ z ∧ z ≤ zRuleHi j) a10 hm, a11, a12, a13, a14⟩
theorem zOk_days {σ : zσ} (hσ : zOk σ) (n : Int32) : zOk (o_days σ n).2 := by
  unfold o_days
  split
  · exact hσ
  · rename_i h
    obtain ⟨k, hk, rfl⟩ := zrange1 (n := 60) (by decide) rfl (fun q => h (Or.inl q))
    have hd := hσ.2.2.2.2.1
    have c : nI (σ.1 4) + nI k ≤ 1000 := Decidable.byContradiction fun q => h (Or.inr q)
    rw [← zI_add] at c
    have := (zI_le (b := 1000) (by omega) (by decide)).mp c
    rw [nI_clamp (by omega)]
    exact zDays_ok hσ k this
theorem zOk_hour {σ : zσ} (hσ : zOk σ) (h w v : Int32) : zOk (o_hour σ h w v).2 := by
  by_cases q : zOR h 0 11 ∨ zOR w 0 1 ∨ zOR v 0 (if w = 0 then 99 else 999)
  · unfold o_hour; rw [if_pos q]; exact hσ
  · unfold o_hour
    rw [if_neg q]
    obtain ⟨k, hk, rfl⟩ := zrange (n := 11) (by decide) rfl (fun z => q (Or.inl z))
    obtain ⟨a1, a2, a3, a4, a5, a6, a7, a8, a9, a10, a11, a12, a13, a14⟩ := hσ
    rcases zrange2 (fun z => q (Or.inr (Or.inl z))) with rfl | rfl
    · obtain ⟨m, hm, rfl⟩ : ∃ z, z ≤ 99 ∧ v = nI z := zrange (hi := if (0 : Int32) = 0 then 99 else 999) (n := 99) (by decide) (by decide +kernel) (fun z => q (Or.inr (Or.inr z)))
      rw [nI_clamp (by omega), nI_clamp (by omega)]
      exact ⟨a1, a2, a3, a4, a5, a6, a7, a8, a9, a10, zuN_p (P := fun _ z => z ≤ 99) a11 hm, a12, a13, a14⟩
    · obtain ⟨m, hm, rfl⟩ : ∃ z, z ≤ 999 ∧ v = nI z := zrange (hi := if (1 : Int32) = 0 then 99 else 999) (n := 999) (by decide) (by decide +kernel) (fun z => q (Or.inr (Or.inr z)))
      rw [nI_clamp (by omega), nI_clamp (by omega)]
      exact ⟨a1, a2, a3, a4, a5, a6, a7, a8, a9, a10, a11, zuN_p (P := fun _ z => z ≤ 999) a12 hm, a13, a14⟩
theorem zLayV_le (σ : zσ) (w s i : Nat) (hw : w < 2) : zLayV σ w s i ≤ (if w = 0 then 99 else 999) := by
  unfold zLayV
  split
  · omega
  · rename_i h
    rcases (show w = 0 ∨ w = 1 by omega) with rfl | rfl
    · obtain ⟨k, hk, e⟩ := zrange (hi := zMost 0) (n := 99) (by decide) (by decide +kernel) h
      rw [e, nI_clamp (by omega)]; exact hk
    · obtain ⟨k, hk, e⟩ := zrange (hi := zMost 1) (n := 999) (by decide) (by decide +kernel) h
      rw [e, nI_clamp (by omega)]; exact hk
theorem zfilN_p {P : Nat → Prop} {f g : Nat → Nat} {m N : Nat} (h : ∀ j, j < N → P (f j)) (hg : ∀ j, P (g j)) : ∀ j, j < N → P (zfilN f m g j) := by
  intro j hj
  unfold zfilN
  split
  · exact hg j
  · exact h j hj
theorem zOk_lay {σ : zσ} (hσ : zOk σ) (w s : Int32) : zOk (o_lay σ w s).2 := by
  unfold o_lay
  split
  · exact hσ
  · rename_i h
    split
    · exact hσ
    · obtain ⟨a1, a2, a3, a4, a5, a6, a7, a8, a9, a10, a11, a12, a13, a14⟩ := hσ
      rcases zrange2 (fun q => h (Or.inl q)) with rfl | rfl
      · exact ⟨a1, a2, a3, a4, a5, a6, a7, a8, a9, a10, zfilN_p (P := fun z => z ≤ 99) a11 (fun j => zLayV_le σ 0 _ j (by decide)), a12, a13, a14⟩
      · exact ⟨a1, a2, a3, a4, a5, a6, a7, a8, a9, a10, a11, zfilN_p (P := fun z => z ≤ 999) a12 (fun j => zLayV_le σ 1 _ j (by decide)), a13, a14⟩
