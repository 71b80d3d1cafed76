/-! Numbers: Int32 and Int64 by their integers. -/
theorem i_bd (x : Int32) : -2147483648 ≤ x.toInt ∧ x.toInt < 2147483648 := ⟨x.le_toInt, x.toInt_lt⟩
theorem j_bd (x : Int64) : -9223372036854775808 ≤ x.toInt ∧ x.toInt < 9223372036854775808 := ⟨x.le_toInt, x.toInt_lt⟩
theorem i_bm {n : Int} (h1 : -2147483648 ≤ n) (h2 : n < 2147483648) : n.bmod (2 ^ 32) = n := Int.bmod_eq_of_le (by omega) (by omega)
theorem j_bm {n : Int} (h1 : -9223372036854775808 ≤ n) (h2 : n < 9223372036854775808) : n.bmod (2 ^ 64) = n := Int.bmod_eq_of_le (by omega) (by omega)
theorem i_add {x y : Int32} (h1 : -2147483648 ≤ x.toInt + y.toInt) (h2 : x.toInt + y.toInt < 2147483648) : (x + y).toInt = x.toInt + y.toInt := by
  rw [Int32.toInt_add]; exact i_bm h1 h2
theorem i_sub {x y : Int32} (h1 : -2147483648 ≤ x.toInt - y.toInt) (h2 : x.toInt - y.toInt < 2147483648) : (x - y).toInt = x.toInt - y.toInt := by
  rw [Int32.toInt_sub]; exact i_bm h1 h2
theorem i_mul {x y : Int32} (h1 : -2147483648 ≤ x.toInt * y.toInt) (h2 : x.toInt * y.toInt < 2147483648) : (x * y).toInt = x.toInt * y.toInt := by
  rw [Int32.toInt_mul]; exact i_bm h1 h2
theorem i_div {x y : Int32} (h1 : 0 ≤ x.toInt) (h2 : 0 < y.toInt) : (x / y).toInt = x.toInt / y.toInt := by
  rw [Int32.toInt_div, Int.tdiv_eq_ediv_of_nonneg h1]
  have h3 : 0 ≤ x.toInt / y.toInt := Int.ediv_nonneg h1 (by omega)
  have h4 : x.toInt / y.toInt ≤ x.toInt := Int.ediv_le_self _ h1
  have h5 := i_bd x
  exact i_bm (by omega) (by omega)
theorem i_rem {x y : Int32} (h1 : 0 ≤ x.toInt) (h2 : 0 < y.toInt) : (x - x / y * y).toInt = x.toInt % y.toInt := by
  have h3 := i_div h1 h2
  have h4 : x.toInt / y.toInt * y.toInt ≤ x.toInt := Int.ediv_mul_le _ (by omega)
  have h5 : 0 ≤ x.toInt / y.toInt * y.toInt := Int.mul_nonneg (Int.ediv_nonneg h1 (by omega)) (by omega)
  have h6 := i_bd x
  have h7 : (x / y * y).toInt = x.toInt / y.toInt * y.toInt := by rw [i_mul (by rw [h3]; omega) (by rw [h3]; omega), h3]
  rw [i_sub (by rw [h7]; omega) (by rw [h7]; omega), h7]
  have := Int.emod_add_mul_ediv x.toInt y.toInt
  have h8 := Int.mul_comm (x.toInt / y.toInt) y.toInt
  omega
theorem j_add {x y : Int64} (h1 : -9223372036854775808 ≤ x.toInt + y.toInt) (h2 : x.toInt + y.toInt < 9223372036854775808) : (x + y).toInt = x.toInt + y.toInt := by
  rw [Int64.toInt_add]; exact j_bm h1 h2
theorem j_sub {x y : Int64} (h1 : -9223372036854775808 ≤ x.toInt - y.toInt) (h2 : x.toInt - y.toInt < 9223372036854775808) : (x - y).toInt = x.toInt - y.toInt := by
  rw [Int64.toInt_sub]; exact j_bm h1 h2
theorem j_mul {x y : Int64} (h1 : -9223372036854775808 ≤ x.toInt * y.toInt) (h2 : x.toInt * y.toInt < 9223372036854775808) : (x * y).toInt = x.toInt * y.toInt := by
  rw [Int64.toInt_mul]; exact j_bm h1 h2
theorem j_div {x y : Int64} (h1 : 0 ≤ x.toInt) (h2 : 0 < y.toInt) : (x / y).toInt = x.toInt / y.toInt := by
  rw [Int64.toInt_div, Int.tdiv_eq_ediv_of_nonneg h1]
  have h3 : 0 ≤ x.toInt / y.toInt := Int.ediv_nonneg h1 (by omega)
  have h4 : x.toInt / y.toInt ≤ x.toInt := Int.ediv_le_self _ h1
  have h5 := j_bd x
  exact j_bm (by omega) (by omega)
theorem j_rem {x y : Int64} (h1 : 0 ≤ x.toInt) (h2 : 0 < y.toInt) : (x - x / y * y).toInt = x.toInt % y.toInt := by
  have h3 := j_div h1 h2
  have h4 : x.toInt / y.toInt * y.toInt ≤ x.toInt := Int.ediv_mul_le _ (by omega)
  have h5 : 0 ≤ x.toInt / y.toInt * y.toInt := Int.mul_nonneg (Int.ediv_nonneg h1 (by omega)) (by omega)
  have h6 := j_bd x
  have h7 : (x / y * y).toInt = x.toInt / y.toInt * y.toInt := by rw [j_mul (by rw [h3]; omega) (by rw [h3]; omega), h3]
  rw [j_sub (by rw [h7]; omega) (by rw [h7]; omega), h7]
  have := Int.emod_add_mul_ediv x.toInt y.toInt
  have h8 := Int.mul_comm (x.toInt / y.toInt) y.toInt
  omega
theorem i_nI {x : Int32} {k : Nat} (h : x.toInt = (k : Int)) : x = nI k := by
  have hk : k < 2 ^ 31 := by have := i_bd x; omega
  apply Int32.toInt_inj.mp
  rw [h, nI_toInt hk]
theorem i_toNat {x : Int32} (h : 0 ≤ x.toInt) : x = nI x.toInt.toNat := i_nI (by omega)
theorem zI_inj {a b : Nat} (ha : a < 2 ^ 31) (hb : b < 2 ^ 31) (h : nI a = nI b) : a = b := by
  have := congrArg Int32.toInt h
  rw [nI_toInt ha, nI_toInt hb] at this
  omega
theorem zI_add (a b : Nat) : nI (a + b) = nI a + nI b := by
  show Int32.ofNat (a + b) = Int32.ofNat a + Int32.ofNat b
  exact Int32.ofNat_add a b
theorem zI_mul (a b : Nat) : nI (a * b) = nI a * nI b := by
  show Int32.ofNat (a * b) = Int32.ofNat a * Int32.ofNat b
  exact Int32.ofNat_mul a b
theorem zI_div {a b : Nat} (ha : a < 2 ^ 31) (hb : b < 2 ^ 31) (h0 : 0 < b) : nI a / nI b = nI (a / b) := by
  apply i_nI
  rw [i_div (by rw [nI_toInt ha]; omega) (by rw [nI_toInt hb]; omega), nI_toInt ha, nI_toInt hb]
  rfl
theorem zI_rem {a b : Nat} (ha : a < 2 ^ 31) (hb : b < 2 ^ 31) (h0 : 0 < b) : nI a - nI a / nI b * nI b = nI (a % b) := by
  apply i_nI
  rw [i_rem (by rw [nI_toInt ha]; omega) (by rw [nI_toInt hb]; omega), nI_toInt ha, nI_toInt hb]
  rfl
theorem zI_lt {a b : Nat} (ha : a < 2 ^ 31) (hb : b < 2 ^ 31) : nI a < nI b ↔ a < b := by
  rw [Int32.lt_iff_toInt_lt, nI_toInt ha, nI_toInt hb]; omega
theorem zI_le {a b : Nat} (ha : a < 2 ^ 31) (hb : b < 2 ^ 31) : nI a ≤ nI b ↔ a ≤ b := by
  rw [Int32.le_iff_toInt_le, nI_toInt ha, nI_toInt hb]; omega
theorem zI_eq {a b : Nat} (ha : a < 2 ^ 31) (hb : b < 2 ^ 31) : nI a = nI b ↔ a = b := ⟨zI_inj ha hb, fun h => by rw [h]⟩
/-- a truth as an int -/
def zB (p : Prop) [Decidable p] : Int32 := if p then 1 else 0
theorem zB_1 {p : Prop} [Decidable p] (h : p) : zB p = 1 := if_pos h
theorem zB_0 {p : Prop} [Decidable p] (h : ¬ p) : zB p = 0 := if_neg h
theorem zB_or (p : Prop) [Decidable p] : zB p = 0 ∨ zB p = 1 := by
  by_cases h : p
  · exact Or.inr (zB_1 h)
  · exact Or.inl (zB_0 h)
theorem zB_congr {p q : Prop} [Decidable p] [Decidable q] (h : p ↔ q) : zB p = zB q := by
  by_cases hp : p
  · rw [zB_1 hp, zB_1 (h.mp hp)]
  · rw [zB_0 hp, zB_0 (fun hq => hp (h.mpr hq))]
theorem zPB1 {p : Prop} [Decidable p] {w : va_W} (h : p) : zP (.int (zB p)) w (some (.int 1)) w := ⟨by rw [zB_1 h], rfl⟩
theorem zPB0 {p : Prop} [Decidable p] {w : va_W} (h : ¬ p) : zP (.int (zB p)) w (some (.int 0)) w := ⟨by rw [zB_0 h], rfl⟩
section ZB
variable {l : Launch} {G : zG} {S : zS} {wc : va_W} {post : Option Value → va_W → Prop} {pc : Nat} {L : List (Option Value)} {st : List Value} {ws : va_W}
theorem a_if_eqB {p : Prop} [Decidable p] {off : Int} {tgt : Nat} (hd : decode (zcc S) pc = .ok (.ifCond .eq off, 3)) (ht : (pc : Int) + off = (tgt : Int)) (kt : ¬ p → AV l G S wc post tgt L st ws) (kf : p → AV l G S wc post (pc + 3) L st ws) : AV l G S wc post pc L (.int (zB p) :: st) ws :=
  a_if_eq hd ht (fun h => kt (fun hp => by rw [zB_1 hp] at h; exact absurd h (by decide))) (fun h => kf (Decidable.byContradiction fun hp => h (zB_0 hp)))
theorem a_if_neB {p : Prop} [Decidable p] {off : Int} {tgt : Nat} (hd : decode (zcc S) pc = .ok (.ifCond .ne off, 3)) (ht : (pc : Int) + off = (tgt : Int)) (kt : p → AV l G S wc post tgt L st ws) (kf : ¬ p → AV l G S wc post (pc + 3) L st ws) : AV l G S wc post pc L (.int (zB p) :: st) ws :=
  a_if_ne hd ht (fun h => kt (Decidable.byContradiction fun hp => h (zB_0 hp))) (fun h => kf (fun hp => by rw [zB_1 hp] at h; exact absurd h (by decide)))
end ZB
