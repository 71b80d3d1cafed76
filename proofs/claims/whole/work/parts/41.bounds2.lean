/-! Bounds of the stages; of what a skin lets through. -/
theorem zIn_b {st : zSt3} {A B : Int} (hA : A ≤ 9000000) (hB : B ≤ 100000000000000) (h : zB3 A B st) {m v : Nat} (hm : 0 < m ∧ m ≤ 4) (hv : v < 4) : zB3 (A + 1) (3 * B) (zIn st m v) := by
  obtain ⟨hw, hg, hp⟩ := h
  have e := zWv_b (m := m) (v := v) ⟨hw.1, by omega⟩ hm hv
  have hs := zSalt_b hw.1 hg.1
  have hd : st.1.toInt / m ≤ st.1.toInt := Int.ediv_le_self _ hw.1
  have hd0 : 0 ≤ st.1.toInt / m := Int.ediv_nonneg hw.1 (by omega)
  have hW : 0 ≤ (zWv st.1 m v).toInt ∧ (zWv st.1 m v).toInt ≤ st.1.toInt + 1 := by
    rw [e]; split <;> omega
  have h3 : (zWv st.1 m v).toInt * (zSalt st.1 st.2.1).toInt ≤ (st.1.toInt + 1) * (zSalt st.1 st.2.1).toInt := Int.mul_le_mul_of_nonneg_right hW.2 hs.1
  have h4 : (st.1.toInt + 1) * (zSalt st.1 st.2.1).toInt = st.1.toInt * (zSalt st.1 st.2.1).toInt + (zSalt st.1 st.2.1).toInt := by rw [Int.add_mul, Int.one_mul]
  have h5 : 0 ≤ (zWv st.1 m v).toInt * (zSalt st.1 st.2.1).toInt := Int.mul_nonneg hW.1 hs.1
  have h6 : 0 ≤ st.1.toInt * (zSalt st.1 st.2.1).toInt := Int.mul_nonneg hw.1 hs.1
  have e1 : (zWv st.1 m v * zSalt st.1 st.2.1).toInt = (zWv st.1 m v).toInt * (zSalt st.1 st.2.1).toInt := j_mul (by omega) (by omega)
  have e2 : (st.1 * zSalt st.1 st.2.1).toInt = st.1.toInt * (zSalt st.1 st.2.1).toInt := j_mul (by omega) (by omega)
  have e3 : (st.2.1 - st.1 * zSalt st.1 st.2.1).toInt = st.2.1.toInt - st.1.toInt * (zSalt st.1 st.2.1).toInt := by rw [j_sub (by rw [e2]; omega) (by rw [e2]; omega), e2]
  refine ⟨?_, ?_, hp⟩
  · show 0 ≤ (zWv st.1 m v).toInt ∧ (zWv st.1 m v).toInt ≤ A + 1
    omega
  · show 0 ≤ (zGv st.1 st.2.1 m v).toInt ∧ (zGv st.1 st.2.1 m v).toInt ≤ 3 * B
    unfold zGv
    by_cases h : v = 0
    · rw [if_pos h, j_add (by rw [e1, e3]; omega) (by rw [e1, e3]; omega), e1, e3]
      omega
    · rw [if_neg h, e1]
      omega
theorem zStg_b {pa le : Nat → Int32} (hP : zPL pa le) {A B : Int} (hA0 : 0 ≤ A) (hB0 : 0 ≤ B) (hA : A ≤ 2000000) (hB : B ≤ 10000000000000) {st : zSt3} (h : zB3 A B st) {s m n : Nat} (hs : s < 3) (hm : 0 < m ∧ m ≤ 4) (hn : n ≤ 6) : ∀ v, v ≤ m → (0 ≤ (zStg pa le s m n st v).1.toInt ∧ (zStg pa le s m n st v).1.toInt ≤ v * (A + 1)) ∧ (0 ≤ (zStg pa le s m n st v).2.toInt ∧ (zStg pa le s m n st v).2.toInt ≤ v * (3 * B))
  | 0, _ => by
    show (0 ≤ (0 : Int64).toInt ∧ (0 : Int64).toInt ≤ _) ∧ (0 ≤ (0 : Int64).toInt ∧ (0 : Int64).toInt ≤ _)
    rw [j_0]; omega
  | v + 1, hv => by
    obtain ⟨i1, i2⟩ := zStg_b hP hA0 hB0 hA hB h hs hm hn v (by omega)
    obtain ⟨b1, b2, b3⟩ := zVs_b (A := A + 1) (B := 3 * B) hP (by omega) (by omega) (f0 := s * 24 + v * 6) (zIn_b (by omega) (by omega) h hm (show v < 4 by omega)) n (by omega)
    have hv4 : (v : Int) ≤ 3 := by omega
    have e4 : ((v + 1 : Nat) : Int) * (A + 1) = (v : Int) * (A + 1) + (A + 1) := by rw [show ((v + 1 : Nat) : Int) = (v : Int) + 1 from rfl, Int.add_mul, Int.one_mul]
    have e5 : ((v + 1 : Nat) : Int) * (3 * B) = (v : Int) * (3 * B) + 3 * B := by rw [show ((v + 1 : Nat) : Int) = (v : Int) + 1 from rfl, Int.add_mul, Int.one_mul]
    have u1 : (v : Int) * (A + 1) ≤ 3 * (A + 1) := Int.mul_le_mul_of_nonneg_right hv4 (by omega)
    have u2 : (v : Int) * (3 * B) ≤ 3 * (3 * B) := Int.mul_le_mul_of_nonneg_right hv4 (by omega)
    show (0 ≤ ((zStg pa le s m n st v).1 + (zVs pa le (s * 24 + v * 6) (zIn st m v) n).1).toInt ∧ _) ∧ (0 ≤ ((zStg pa le s m n st v).2 + (zVs pa le (s * 24 + v * 6) (zIn st m v) n).2.1).toInt ∧ _)
    rw [e4, e5]
    have g1 : ((zStg pa le s m n st v).1 + (zVs pa le (s * 24 + v * 6) (zIn st m v) n).1).toInt = (zStg pa le s m n st v).1.toInt + (zVs pa le (s * 24 + v * 6) (zIn st m v) n).1.toInt := j_add (by omega) (by omega)
    have g2 : ((zStg pa le s m n st v).2 + (zVs pa le (s * 24 + v * 6) (zIn st m v) n).2.1).toInt = (zStg pa le s m n st v).2.toInt + (zVs pa le (s * 24 + v * 6) (zIn st m v) n).2.1.toInt := j_add (by omega) (by omega)
    refine ⟨⟨by rw [g1]; omega, ?_⟩, ⟨by rw [g2]; omega, ?_⟩⟩
    · show ((zStg pa le s m n st v).1 + (zVs pa le (s * 24 + v * 6) (zIn st m v) n).1).toInt ≤ _
      rw [g1]; omega
    · show ((zStg pa le s m n st v).2 + (zVs pa le (s * 24 + v * 6) (zIn st m v) n).2.1).toInt ≤ _
      rw [g2]; omega
theorem z2n {n : Nat} (hn : n ≤ 6) : (2 * nI n).toInt64.toInt = 2 * n := by
  rw [show (2 : Int32) = nI 2 from rfl, ← zI_mul, nI64 (by omega)]
  rfl
theorem zStN_b {pa le : Nat → Int32} (hP : zPL pa le) {A B : Int} (hA0 : 0 ≤ A) (hB0 : 0 ≤ B) (hA : A ≤ 2000000) (hB : B ≤ 10000000000000) {st : zSt3} (h : zB3 A B st) {s m n : Nat} (hs : s < 3) (hm : m ≤ 4) (hn : n ≤ 6) : zB3 (4 * (A + 1)) (12 * B) (zStN pa le s m n st) := by
  by_cases h0 : m = 0
  · have e : zStN pa le s m n st = st := if_pos h0
    rw [e]
    obtain ⟨b1, b2, b3⟩ := h
    exact ⟨⟨b1.1, by omega⟩, ⟨b2.1, by omega⟩, b3⟩
  · rw [zStN_pos (by omega)]
    obtain ⟨i1, i2⟩ := zStg_b hP hA0 hB0 hA hB h hs ⟨by omega, hm⟩ hn m (Nat.le_refl _)
    have u1 : (m : Int) * (A + 1) ≤ 4 * (A + 1) := Int.mul_le_mul_of_nonneg_right (by omega) (by omega)
    have u2 : (m : Int) * (3 * B) ≤ 4 * (3 * B) := Int.mul_le_mul_of_nonneg_right (by omega) (by omega)
    have e3 := zLess_b (x := (2 * nI n).toInt64) h.2.2 (by rw [z2n hn]; omega)
    refine ⟨⟨i1.1, ?_⟩, ⟨i2.1, ?_⟩, ?_⟩
    · show (zStg pa le s m n st m).1.toInt ≤ _
      omega
    · show (zStg pa le s m n st m).2.toInt ≤ _
      omega
    · show 0 ≤ (zLess st.2.2 (2 * nI n).toInt64).toInt ∧ (zLess st.2.2 (2 * nI n).toInt64).toInt ≤ 900
      rw [e3, z2n hn]
      have := h.2.2
      omega
def zBA : Nat → Int := fun s => ([20000, 80004, 320020, 1280084] : List Int).getD s 0
def zBB : Nat → Int := fun s => ([1200000000, 14400000000, 172800000000, 2073600000000] : List Int).getD s 0
theorem zRn_b {pa le : Nat → Int32} (hP : zPL pa le) {st : zSt3} (h : zB3 20000 1200000000 st) {m : Nat → Nat} {n : Nat} (hm : ∀ s, s < 3 → m s ≤ 4) (hn : n ≤ 6) : ∀ s, s ≤ 3 → zB3 (zBA s) (zBB s) (zRn pa le m n st s)
  | 0, _ => h
  | 1, _ => zStN_b hP (by decide) (by decide) (by decide) (by decide) (zRn_b hP h hm hn 0 (by omega)) (by decide) (hm 0 (by decide)) hn
  | 2, _ => zStN_b hP (by decide) (by decide) (by decide) (by decide) (zRn_b hP h hm hn 1 (by omega)) (by decide) (hm 1 (by decide)) hn
  | 3, _ => zStN_b hP (by decide) (by decide) (by decide) (by decide) (zRn_b hP h hm hn 2 (by omega)) (by decide) (hm 2 (by decide)) hn
theorem zpass_d : ∀ c, c < 4 → ∀ f, f < 91 → 0 ≤ (zPassOf (nI c) - zPassOf (nI c) * nI f / 100).toInt ∧ (zPassOf (nI c) - zPassOf (nI c) * nI f / 100).toInt ≤ 60 := by decide +kernel
theorem zleak_d : ∀ c, c < 4 → 0 ≤ (zLeakOf (nI c)).toInt ∧ (zLeakOf (nI c)).toInt ≤ 25 := by decide +kernel
theorem zPLσ {σ : zσ} (hσ : zOk σ) : zPL (zPaf σ) (zLef σ) := fun k hk => ⟨zpass_d _ (hσ.2.2.2.2.2.2.2.1 k hk) _ (by have := hσ.2.2.2.2.2.2.2.2.1 k hk; omega), zleak_d _ (hσ.2.2.2.2.2.2.2.1 k hk)⟩
theorem zS0_b {σ : zσ} (hσ : zOk σ) {p : Nat} (hp : p ≤ 900) : zB3 20000 1200000000 (zS0p σ (nI p)) := by
  have h1 := hσ.2.1
  have h2 := hσ.2.2.1
  have e1 := nI64 (n := σ.1 1) (by omega)
  have e2 := nI64 (n := σ.1 2) (by omega)
  have e3 := nI64 (n := p) (by omega)
  have hm : ((σ.1 1 : Nat) : Int) * ((σ.1 2 : Nat) : Int) ≤ 20000 * 60000 := Int.mul_le_mul (by omega) (by omega) (by omega) (by decide)
  have hm0 : 0 ≤ ((σ.1 1 : Nat) : Int) * ((σ.1 2 : Nat) : Int) := Int.mul_nonneg (by omega) (by omega)
  have e4 : ((nI (σ.1 1)).toInt64 * (nI (σ.1 2)).toInt64).toInt = ((σ.1 1 : Nat) : Int) * ((σ.1 2 : Nat) : Int) := by rw [j_mul (by rw [e1, e2]; omega) (by rw [e1, e2]; omega), e1, e2]
  refine ⟨?_, ?_, ?_⟩
  · show 0 ≤ (nI (σ.1 1)).toInt64.toInt ∧ (nI (σ.1 1)).toInt64.toInt ≤ 20000
    rw [e1]; omega
  · show 0 ≤ ((nI (σ.1 1)).toInt64 * (nI (σ.1 2)).toInt64).toInt ∧ ((nI (σ.1 1)).toInt64 * (nI (σ.1 2)).toInt64).toInt ≤ 1200000000
    rw [e4]; omega
  · show 0 ≤ (nI p).toInt64.toInt ∧ (nI p).toInt64.toInt ≤ 900
    rw [e3]; omega
/-- what a standing skin gets is in bounds; what it lets through isn't below 0 -/
theorem zAt_b {σ : zσ} (hσ : zOk σ) {p : Nat} (hp : p ≤ 900) {m : Nat → Nat} (hm : ∀ s, s < 3 → m s ≤ 4) {k : Nat} (hk : k < 72) (h2 : k % 24 / 6 < m (k / 24)) : zB3 10000000 1000000000000000 (zVs (zPaf σ) (zLef σ) (k / 24 * 24 + k % 24 / 6 * 6) (zIn (zRn (zPaf σ) (zLef σ) m (σ.1 0) (zS0p σ (nI p)) (k / 24)) (m (k / 24)) (k % 24 / 6)) (k % 6)) := by
  have hr := zRn_b (zPLσ hσ) (zS0_b hσ hp) hm hσ.1.2 (k / 24) (by omega)
  have hA : zBA (k / 24) ≤ 1280084 ∧ 0 ≤ zBA (k / 24) ∧ zBB (k / 24) ≤ 2073600000000 ∧ 0 ≤ zBB (k / 24) := by
    rcases (show k / 24 = 0 ∨ k / 24 = 1 ∨ k / 24 = 2 by omega) with e | e | e <;> rw [e] <;> decide
  have hi := zIn_b (by omega) (by omega) hr (m := m (k / 24)) (v := k % 24 / 6) ⟨by omega, hm _ (by omega)⟩ (by omega)
  obtain ⟨b1, b2, b3⟩ := zVs_b (zPLσ hσ) (by omega) (by omega) (f0 := k / 24 * 24 + k % 24 / 6 * 6) hi (k % 6) (by omega)
  exact ⟨⟨b1.1, by omega⟩, ⟨b2.1, by omega⟩, b3⟩
theorem zCell3_b {σ : zσ} (hσ : zOk σ) {p : Nat} (hp : p ≤ 900) {m : Nat → Nat} (hm : ∀ s, s < 3 → m s ≤ 4) {k : Nat} (hk : k < 72) (h2 : k % 24 / 6 < m (k / 24)) : 0 ≤ (zCellp σ (nI p) m 3 k).toInt ∧ (zCellp σ (nI p) m 3 k).toInt ≤ 10000000 := by
  obtain ⟨b1, b2, b3⟩ := zAt_b hσ hp hm hk h2
  have := zThr_b (zPLσ hσ k hk).1 b1.1 b2 b3
  exact ⟨this.1, Int.le_trans this.2 b1.2⟩
