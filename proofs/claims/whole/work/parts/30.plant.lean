/-! The plant: its state, its world, the calls that need no flow. -/
abbrev zσ : Type := (Nat → Nat) × (Nat → Nat → Nat) × (Nat → Int32) × (Nat → Nat → Int32)
abbrev zX : Type := Int32 × (Nat → Int32) × (Nat → Int32) × (Nat → Int32) × (Nat → Nat → Int64) × (Nat → Int64) × (Nat → Int32) × (Nat → Int32)
/- scalars σ.1: 0 LONG, 1 WATER, 2 SALT, 3 PRESSURE, 4 DAYS; rows σ.2.1: 0 vessels, 1 KIND, 2 FOUL, 3 rules, 4 prices, 5 needs; σ.2.2.1: sizes of the sheets; σ.2.2.2: what they hold -/
abbrev wP (G : zG) (ad : Nat → Nat) (σ : zσ) (x : zX) : va_W := [
  (ad 0, .inr (5, [.ref (ad 1), .ref (ad 2), .ref (ad 4), .ref (ad 6), .ref (ad 9), .ref (ad 18), .ref (ad 23), .int (nI (σ.1 1)), .int (nI (σ.1 2)), .int (nI (σ.1 3)), .int (nI (σ.1 4))])),
  (ad 1, .inl (zcI G, 7, .inl (fun k => nI (σ.2.1 3 k)))),
  (ad 2, .inr (2, [.ref (ad 3), .int (nI (σ.1 0))])),
  (ad 3, .inl (zcI G, 3, .inl (fun k => nI (σ.2.1 0 k)))),
  (ad 4, .inr (2, [.ref (ad 5), .int x.1])),
  (ad 5, .inl (zcI G, 3, .inl x.2.1)),
  (ad 6, .inr (4, [.ref (ad 7), .ref (ad 8)])),
  (ad 7, .inl (zcI G, 72, .inl (fun k => nI (σ.2.1 1 k)))),
  (ad 8, .inl (zcI G, 72, .inl (fun k => nI (σ.2.1 2 k)))),
  (ad 9, .inr (0, [.ref (ad 10), .ref (ad 11), .ref (ad 12), .ref (ad 13), .ref (ad 14), .ref (ad 15), .ref (ad 16), .ref (ad 17), .long (x.2.2.2.2.2.1 0), .long (x.2.2.2.2.2.1 1), .long (x.2.2.2.2.2.1 2), .long (x.2.2.2.2.2.1 3), .long (x.2.2.2.2.2.1 4)])),
  (ad 10, .inl (zcI G, 72, .inl x.2.2.1)),
  (ad 11, .inl (zcI G, 72, .inl x.2.2.2.1)),
  (ad 12, .inl (zcJ G, 72, .inr (.inl (x.2.2.2.2.1 0)))),
  (ad 13, .inl (zcJ G, 72, .inr (.inl (x.2.2.2.2.1 1)))),
  (ad 14, .inl (zcJ G, 72, .inr (.inl (x.2.2.2.2.1 2)))),
  (ad 15, .inl (zcJ G, 72, .inr (.inl (x.2.2.2.2.1 3)))),
  (ad 16, .inl (zcJ G, 72, .inr (.inl (x.2.2.2.2.1 4)))),
  (ad 17, .inl (zcJ G, 72, .inr (.inl (x.2.2.2.2.1 5)))),
  (ad 18, .inr (1, [.ref (ad 19), .ref (ad 20), .ref (ad 21), .ref (ad 22)])),
  (ad 19, .inl (zcI G, 12, .inl (fun k => nI (σ.2.1 4 k)))),
  (ad 20, .inl (zcI G, 12, .inl (fun k => nI (σ.2.1 5 k)))),
  (ad 21, .inl (zcI G, 201, .inl x.2.2.2.2.2.2.1)),
  (ad 22, .inl (zcI G, 201, .inl x.2.2.2.2.2.2.2)),
  (ad 23, .inl (zcO G, 2, .inr (.inr (.inr (.inr (fun k => some (ad (24 + 2 * k)))))))),
  (ad 24, .inr (3, [.ref (ad 25), .int (σ.2.2.1 0)])),
  (ad 25, .inl (zcS G, 24, .inl (σ.2.2.2 0))),
  (ad 26, .inr (3, [.ref (ad 27), .int (σ.2.2.1 1)])),
  (ad 27, .inl (zcS G, 24, .inl (σ.2.2.2 1)))]
/-- the bounds that every state keeps -/
def zRuleHi : Nat → Nat := fun k => ([9999, 9999, 100, 1000, 30, 200, 200] : List Nat).getD k 0
def zRuleLo : Nat → Nat := fun k => ([0, 0, 0, 1, 0, 0, 0] : List Nat).getD k 0
def zOk (σ : zσ) : Prop := (1 ≤ σ.1 0 ∧ σ.1 0 ≤ 6) ∧ σ.1 1 ≤ 20000 ∧ σ.1 2 ≤ 60000 ∧ σ.1 3 ≤ 900 ∧ σ.1 4 ≤ 1000 ∧ (∀ k, k < 3 → σ.2.1 0 k ≤ 4) ∧ 1 ≤ σ.2.1 0 0 ∧ (∀ k, k < 72 → σ.2.1 1 k < 4) ∧ (∀ k, k < 72 → σ.2.1 2 k ≤ 90) ∧ (∀ k, k < 7 → zRuleLo k ≤ σ.2.1 3 k ∧ σ.2.1 3 k ≤ zRuleHi k) ∧ (∀ k, k < 12 → σ.2.1 4 k ≤ 99) ∧ (∀ k, k < 12 → σ.2.1 5 k ≤ 999) ∧ (∀ s, s < 2 → σ.2.2.1 s = -1 ∨ ∃ n, n ≤ 24 ∧ σ.2.2.1 s = nI n) ∧ ∀ s, s < 2 → ∀ k, k < 24 → fits .short (.int (σ.2.2.2 s k)) = true
abbrev zBAD : Int64 := -9000000000000000001
abbrev zNO : Int64 := -9000000000000000002
abbrev zNONE : Int64 := -9000000000000000005
abbrev zNOTH : Int64 := -9000000000000000011
abbrev zINDEX : Int64 := -9000000000000000013
abbrev zSIZE : Int64 := -9000000000000000014
def zPost (G : zG) (ad : Nat → Nat) (o : Int64 × zσ) : Option Value → va_W → Prop := zV (fun _ : zX => True) (fun _ => .long o.1) (fun u => wP G ad o.2 u)
theorem zret' {G : zG} {ad : Nat → Nat} {r : Int64} {σ' : zσ} {o : Int64 × zσ} (u : zX) {w : va_W} (e : o = (r, σ')) (hw : w = wP G ad σ' u) : zPost G ad o (some (.long r)) w := ⟨u, trivial, by rw [e], by rw [e]; exact hw⟩
def zuN (f : Nat → Nat) (k x : Nat) : Nat → Nat := fun j => if j = k then x else f j
def zu2 (F : Nat → Nat → Nat) (a : Nat) (f : Nat → Nat) : Nat → Nat → Nat := fun b => if b = a then f else F b
def zuZ (f : Nat → Int32) (k : Nat) (x : Int32) : Nat → Int32 := fun j => if j = k then x else f j
def zuC (F : Nat → Nat → Int32) (a : Nat) (f : Nat → Int32) : Nat → Nat → Int32 := fun b => if b = a then f else F b
theorem updN (f : Nat → Nat) (k x : Nat) : upd (fun j => nI (f j)) k (nI x) = fun j => nI (zuN f k x j) := by
  funext j; unfold upd zuN; split <;> rfl
abbrev zOR (x lo hi : Int32) : Prop := x < lo ∨ hi < x
theorem zrange {x hi : Int32} {n : Nat} (hn : n < 2 ^ 31) (hh : hi = nI n) (h : ¬ zOR x 0 hi) : ∃ k, k ≤ n ∧ x = nI k := by
  subst hh
  have h1 : ¬ x.toInt < 0 := fun q => h (Or.inl (Int32.lt_iff_toInt_lt.mpr (by simpa using q)))
  have h2 : ¬ (n : Int) < x.toInt := fun q => h (Or.inr (Int32.lt_iff_toInt_lt.mpr (by rw [nI_toInt hn]; exact q)))
  exact ⟨x.toInt.toNat, by omega, i_toNat (by omega)⟩
theorem zrange1 {x hi : Int32} {n : Nat} (hn : n < 2 ^ 31) (hh : hi = nI n) (h : ¬ zOR x 1 hi) : ∃ k, (1 ≤ k ∧ k ≤ n) ∧ x = nI k := by
  subst hh
  have h1 : ¬ x.toInt < 1 := fun q => h (Or.inl (Int32.lt_iff_toInt_lt.mpr (by simpa using q)))
  have h2 : ¬ (n : Int) < x.toInt := fun q => h (Or.inr (Int32.lt_iff_toInt_lt.mpr (by rw [nI_toInt hn]; exact q)))
  exact ⟨x.toInt.toNat, by omega, i_toNat (by omega)⟩
theorem zrange2 {x : Int32} (h : ¬ zOR x 0 1) : x = 0 ∨ x = 1 := by
  obtain ⟨k, hk, rfl⟩ := zrange (n := 1) (by decide) rfl h
  rcases (show k = 0 ∨ k = 1 by omega) with rfl | rfl
  · exact Or.inl rfl
  · exact Or.inr rfl
theorem zsw3 (x : Int32) : x = 0 ∨ x = 1 ∨ x = 2 ∨ x = 3 ∨ (x.toInt < 0 ∨ 3 < x.toInt) := by
  by_cases h : x.toInt < 0 ∨ 3 < x.toInt
  · exact Or.inr (Or.inr (Or.inr (Or.inr h)))
  · have h0 : 0 ≤ x.toInt := by omega
    have e := i_toNat h0
    have h3 : x.toInt.toNat < 4 := by omega
    generalize x.toInt.toNat = k at e h3
    subst e
    rcases (show k = 0 ∨ k = 1 ∨ k = 2 ∨ k = 3 by omega) with rfl | rfl | rfl | rfl
    · exact Or.inl rfl
    · exact Or.inr (Or.inl rfl)
    · exact Or.inr (Or.inr (Or.inl rfl))
    · exact Or.inr (Or.inr (Or.inr (Or.inl rfl)))
theorem zin4 {F : Nat → Nat → Nat} {k : Nat} (h : F 1 k < 4) : vp_in (nI (F 1 k)) 4 := zinN h (by decide)
abbrev zKd (σ : zσ) : Nat → Int32 := fun j => nI (σ.2.1 1 j)
abbrev zFo (σ : zσ) : Nat → Int32 := fun j => nI (σ.2.1 2 j)
def o_stage (σ : zσ) (x n : Int32) : Int64 × zσ := if zOR x 0 2 ∨ zOR n (if x = 0 then 1 else 0) 4 then (zBAD, σ) else ((nI (σ.2.1 0 x.toNatClampNeg)).toInt64, (σ.1, zu2 σ.2.1 0 (zuN (σ.2.1 0) x.toNatClampNeg n.toNatClampNeg), σ.2.2))
def o_length (σ : zσ) (n : Int32) : Int64 × zσ := if zOR n 1 6 then (zBAD, σ) else ((nI (σ.1 0)).toInt64, (zuN σ.1 0 n.toNatClampNeg, σ.2))
def o_fresh (σ : zσ) (x c : Int32) : Int64 × zσ := if zPl x = none ∨ zOR c 0 3 then (zBAD, σ) else ((nI (σ.2.1 2 ((zPl x).getD 0))).toInt64, (σ.1, zu2 (zu2 σ.2.1 1 (zuN (σ.2.1 1) ((zPl x).getD 0) c.toNatClampNeg)) 2 (zuN (σ.2.1 2) ((zPl x).getD 0) 0), σ.2.2))
def o_told (σ : zσ) (x c : Int32) : Int64 × zσ := (if zPl x = none then zBAD else if c = 0 then (nI (σ.2.1 1 ((zPl x).getD 0))).toInt64 else if c = 1 then (nI (σ.2.1 2 ((zPl x).getD 0))).toInt64 else if c = 2 then (zPass (zKd σ) (zFo σ) ((zPl x).getD 0)).toInt64 else if c = 3 then (zLeak (zKd σ) ((zPl x).getD 0)).toInt64 else zBAD, σ)
def o_isOf (σ : zσ) (x c : Int32) : Int64 × zσ := (if zPl x = none ∨ zOR c 0 3 then zBAD else if c = 0 ∨ c = zKd σ ((zPl x).getD 0) ∨ c = zAbove (zKd σ ((zPl x).getD 0)) then 1 else 0, σ)
def o_feed (σ : zσ) (w s p : Int32) : Int64 × zσ := if zOR w 0 20000 ∨ zOR s 0 60000 ∨ zOR p 0 900 then (zBAD, σ) else (0, (zuN (zuN (zuN σ.1 1 w.toNatClampNeg) 2 s.toNatClampNeg) 3 p.toNatClampNeg, σ.2))
def zExN (f : Nat → Nat) (a b : Nat) : Nat → Nat := zuN (zuN f a (f b)) b (f a)
def o_change (σ : zσ) (x y : Int32) : Int64 × zσ := if zPl x = none ∨ zPl y = none ∨ zPl x = zPl y then (zBAD, σ) else (0, (σ.1, zu2 (zu2 σ.2.1 1 (zExN (σ.2.1 1) ((zPl x).getD 0) ((zPl y).getD 0))) 2 (zExN (σ.2.1 2) ((zPl x).getD 0) ((zPl y).getD 0)), σ.2.2))
theorem zExch_N (f : Nat → Nat) (a b : Nat) : zExch (fun j => nI (f j)) a b = fun j => nI (zExN f a b j) := by unfold zExch zExN; rw [updN, updN]
def o_rule (σ : zσ) (x v : Int32) : Int64 × zσ := if zOR x 0 6 ∨ zOR v (nI (zRuleLo x.toNatClampNeg)) (nI (zRuleHi x.toNatClampNeg)) then (zBAD, σ) else ((nI (σ.2.1 3 x.toNatClampNeg)).toInt64, (σ.1, zu2 σ.2.1 3 (zuN (σ.2.1 3) x.toNatClampNeg v.toNatClampNeg), σ.2.2))
def o_hour (σ : zσ) (h w v : Int32) : Int64 × zσ := if zOR h 0 11 ∨ zOR w 0 1 ∨ zOR v 0 (if w = 0 then 99 else 999) then (zBAD, σ) else ((nI (σ.2.1 (if w = 0 then 4 else 5) h.toNatClampNeg)).toInt64, (σ.1, zu2 σ.2.1 (if w = 0 then 4 else 5) (zuN (σ.2.1 (if w = 0 then 4 else 5)) h.toNatClampNeg v.toNatClampNeg), σ.2.2))
