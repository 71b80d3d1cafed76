/-! Bounds of the flows: nothing falls below 0, nothing leaves the numbers. -/
def zB3 (A B : Int) (s : zSt3) : Prop := (0 ≤ s.1.toInt ∧ s.1.toInt ≤ A) ∧ (0 ≤ s.2.1.toInt ∧ s.2.1.toInt ≤ B) ∧ (0 ≤ s.2.2.toInt ∧ s.2.2.toInt ≤ 900)
theorem j_0 : (0 : Int64).toInt = 0 := by decide
theorem j_100 : (100 : Int64).toInt = 100 := by decide
theorem j_1000 : (1000 : Int64).toInt = 1000 := by decide
theorem j_2 : (2 : Int64).toInt = 2 := by decide
theorem j_1 : (1 : Int64).toInt = 1 := by decide
theorem zSalt_b {w g : Int64} (hw : 0 ≤ w.toInt) (hg : 0 ≤ g.toInt) : 0 ≤ (zSalt w g).toInt ∧ (zSalt w g).toInt ≤ g.toInt ∧ w.toInt * (zSalt w g).toInt ≤ g.toInt := by
  unfold zSalt
  by_cases h : w = 0
  · rw [if_pos h, j_0, Int.mul_zero]
    omega
  · rw [if_neg h]
    have hw1 : ¬ w.toInt = 0 := fun e => h (Int64.toInt_inj.mp (by rw [e, j_0]))
    rw [j_div hg (by omega)]
    exact ⟨Int.ediv_nonneg hg hw, Int.ediv_le_self _ hg, Int.mul_ediv_self_le hw1⟩
theorem zLess_b {p x : Int64} (hp : 0 ≤ p.toInt ∧ p.toInt ≤ 900) (hx : 0 ≤ x.toInt ∧ x.toInt ≤ 1000000000000000) : (zLess p x).toInt = max 0 (p.toInt - x.toInt) := by
  have e : (p - x).toInt = p.toInt - x.toInt := j_sub (by omega) (by omega)
  unfold zLess
  by_cases h : p - x < 0
  · have h2 := Int64.lt_iff_toInt_lt.mp h
    rw [e, j_0] at h2
    rw [if_pos h, j_0]
    omega
  · have h2 := mt Int64.lt_iff_toInt_lt.mpr h
    rw [e, j_0] at h2
    rw [if_neg h, e]
    omega
theorem zPush_b {w g p : Int64} (hw : 0 ≤ w.toInt) (hg : 0 ≤ g.toInt ∧ g.toInt ≤ 1000000000000000) (hp : 0 ≤ p.toInt ∧ p.toInt ≤ 900) : 0 ≤ (zPush w g p).toInt ∧ (zPush w g p).toInt ≤ 900 := by
  have hs := zSalt_b hw hg.1
  have e : (zSalt w g / 100).toInt = (zSalt w g).toInt / 100 := by rw [j_div hs.1 (by rw [j_100]; decide), j_100]
  have := zLess_b (x := zSalt w g / 100) hp (by rw [e]; omega)
  show 0 ≤ (zLess p (zSalt w g / 100)).toInt ∧ (zLess p (zSalt w g / 100)).toInt ≤ 900
  rw [this, e]
  omega
theorem zThr_b {pa : Int32} (hpa : 0 ≤ pa.toInt ∧ pa.toInt ≤ 60) {w g p : Int64} (hw : 0 ≤ w.toInt) (hg : 0 ≤ g.toInt ∧ g.toInt ≤ 1000000000000000) (hp : 0 ≤ p.toInt ∧ p.toInt ≤ 900) : 0 ≤ (zThr pa w g p).toInt ∧ (zThr pa w g p).toInt ≤ w.toInt := by
  have h1 := zPush_b hw hg hp
  have e0 : pa.toInt64.toInt = pa.toInt := Int32.toInt_toInt64 pa
  have h2 : (zPush w g p).toInt * pa.toInt ≤ 900 * 60 := Int.mul_le_mul h1.2 hpa.2 hpa.1 (by decide)
  have h3 : 0 ≤ (zPush w g p).toInt * pa.toInt := Int.mul_nonneg h1.1 hpa.1
  have e1 : (zPush w g p * pa.toInt64).toInt = (zPush w g p).toInt * pa.toInt := by rw [j_mul (by rw [e0]; omega) (by rw [e0]; omega), e0]
  have e2 : (zPush w g p * pa.toInt64 / 100).toInt = (zPush w g p).toInt * pa.toInt / 100 := by rw [j_div (by rw [e1]; exact h3) (by rw [j_100]; decide), e1, j_100]
  have h4 : 0 ≤ (zPush w g p).toInt * pa.toInt / 100 := Int.ediv_nonneg h3 (by decide)
  unfold zThr
  by_cases h : zPush w g p * pa.toInt64 / 100 < w
  · have h5 := Int64.lt_iff_toInt_lt.mp h
    rw [if_pos h, e2]
    rw [e2] at h5
    omega
  · rw [if_neg h]
    omega
theorem zThS_b {le : Int32} (hle : 0 ≤ le.toInt ∧ le.toInt ≤ 25) {w g : Int64} (hw : 0 ≤ w.toInt) (hg : 0 ≤ g.toInt ∧ g.toInt ≤ 1000000000000000) : 0 ≤ (zThS le w g).toInt ∧ (zThS le w g).toInt ≤ (zSalt w g).toInt := by
  have hs := zSalt_b hw hg.1
  have e0 : le.toInt64.toInt = le.toInt := Int32.toInt_toInt64 le
  have h2 : (zSalt w g).toInt * le.toInt ≤ (zSalt w g).toInt * 25 := Int.mul_le_mul_of_nonneg_left hle.2 hs.1
  have h3 : 0 ≤ (zSalt w g).toInt * le.toInt := Int.mul_nonneg hs.1 hle.1
  have e1 : (zSalt w g * le.toInt64).toInt = (zSalt w g).toInt * le.toInt := by rw [j_mul (by rw [e0]; omega) (by rw [e0]; omega), e0]
  unfold zThS
  rw [j_div (by rw [e1]; exact h3) (by rw [j_1000]; decide), e1, j_1000]
  omega
theorem zTG_b {pa le : Int32} (hpa : 0 ≤ pa.toInt ∧ pa.toInt ≤ 60) (hle : 0 ≤ le.toInt ∧ le.toInt ≤ 25) {w g p : Int64} (hw : 0 ≤ w.toInt) (hg : 0 ≤ g.toInt ∧ g.toInt ≤ 1000000000000000) (hp : 0 ≤ p.toInt ∧ p.toInt ≤ 900) : (zThr pa w g p * zThS le w g).toInt = (zThr pa w g p).toInt * (zThS le w g).toInt ∧ 0 ≤ (zThr pa w g p).toInt * (zThS le w g).toInt ∧ (zThr pa w g p).toInt * (zThS le w g).toInt ≤ g.toInt := by
  have h1 := zThr_b hpa hw hg hp
  have h2 := zThS_b hle hw hg
  have hs := zSalt_b hw hg.1
  have h3 : (zThr pa w g p).toInt * (zThS le w g).toInt ≤ w.toInt * (zSalt w g).toInt := Int.mul_le_mul h1.2 h2.2 h2.1 hw
  have h4 : 0 ≤ (zThr pa w g p).toInt * (zThS le w g).toInt := Int.mul_nonneg h1.1 h2.1
  exact ⟨j_mul (by omega) (by omega), h4, by omega⟩
theorem zStep_b {pa le : Int32} (hpa : 0 ≤ pa.toInt ∧ pa.toInt ≤ 60) (hle : 0 ≤ le.toInt ∧ le.toInt ≤ 25) {A B : Int} (hA : A ≤ 10000000) (hB : B ≤ 1000000000000000) {s : zSt3} (h : zB3 A B s) : zB3 A B (zStep pa le s) := by
  obtain ⟨hw, hg, hp⟩ := h
  have h1 := zThr_b hpa hw.1 ⟨hg.1, by omega⟩ hp
  have h2 := zTG_b hpa hle hw.1 ⟨hg.1, by omega⟩ hp
  have e1 : (s.1 - zThr pa s.1 s.2.1 s.2.2).toInt = s.1.toInt - (zThr pa s.1 s.2.1 s.2.2).toInt := j_sub (by omega) (by omega)
  have e2 : (s.2.1 - zThr pa s.1 s.2.1 s.2.2 * zThS le s.1 s.2.1).toInt = s.2.1.toInt - (zThr pa s.1 s.2.1 s.2.2).toInt * (zThS le s.1 s.2.1).toInt := by rw [j_sub (by rw [h2.1]; omega) (by rw [h2.1]; omega), h2.1]
  have e3 := zLess_b (x := 2) hp (by rw [j_2]; omega)
  refine ⟨?_, ?_, ?_⟩
  · show 0 ≤ (s.1 - zThr pa s.1 s.2.1 s.2.2).toInt ∧ (s.1 - zThr pa s.1 s.2.1 s.2.2).toInt ≤ A
    rw [e1]; omega
  · show 0 ≤ (s.2.1 - zThr pa s.1 s.2.1 s.2.2 * zThS le s.1 s.2.1).toInt ∧ (s.2.1 - zThr pa s.1 s.2.1 s.2.2 * zThS le s.1 s.2.1).toInt ≤ B
    rw [e2]; omega
  · show 0 ≤ (zLess s.2.2 2).toInt ∧ (zLess s.2.2 2).toInt ≤ 900
    rw [e3, j_2]; omega
/-- PASS and LEAK are in their bounds -/
def zPL (pa le : Nat → Int32) : Prop := ∀ k, k < 72 → (0 ≤ (pa k).toInt ∧ (pa k).toInt ≤ 60) ∧ (0 ≤ (le k).toInt ∧ (le k).toInt ≤ 25)
theorem zVs_b {pa le : Nat → Int32} (hP : zPL pa le) {A B : Int} (hA : A ≤ 10000000) (hB : B ≤ 1000000000000000) {f0 : Nat} {s : zSt3} (h : zB3 A B s) : ∀ j, f0 + j ≤ 72 → zB3 A B (zVs pa le f0 s j)
  | 0, _ => h
  | j + 1, hj => zStep_b (hP (f0 + j) (by omega)).1 (hP (f0 + j) (by omega)).2 hA hB (zVs_b hP hA hB h j (by omega))
theorem nI64 {n : Nat} (h : n < 2 ^ 31) : (nI n).toInt64.toInt = n := by rw [Int32.toInt_toInt64, nI_toInt h]
theorem zWv_b {W : Int64} {m v : Nat} (hW : 0 ≤ W.toInt ∧ W.toInt ≤ 10000000) (hm : 0 < m ∧ m ≤ 4) (hv : v < 4) : (zWv W m v).toInt = W.toInt / m + (if W.toInt % m ≤ v then 0 else 1) := by
  have em := nI64 (n := m) (by omega)
  have ev := nI64 (n := v) (by omega)
  have ed : (W / (nI m).toInt64).toInt = W.toInt / m := by rw [j_div hW.1 (by rw [em]; omega), em]
  have er : (W - W / (nI m).toInt64 * (nI m).toInt64).toInt = W.toInt % m := by rw [j_rem hW.1 (by rw [em]; omega), em]
  have hd : W.toInt / m ≤ W.toInt := Int.ediv_le_self _ hW.1
  have hd0 : 0 ≤ W.toInt / m := Int.ediv_nonneg hW.1 (by omega)
  unfold zWv
  by_cases h : W - W / (nI m).toInt64 * (nI m).toInt64 ≤ (nI v).toInt64
  · have h2 := Int64.le_iff_toInt_le.mp h
    rw [er, ev] at h2
    rw [if_pos h, if_pos h2, ed]
    omega
  · have h2 := mt Int64.le_iff_toInt_le.mpr h
    rw [er, ev] at h2
    rw [if_neg h, if_neg h2, j_add (by rw [ed, j_1]; omega) (by rw [ed, j_1]; omega), ed, j_1]
