/-! Math by the kit's rows; array rows for indices that are counted (nI k). -/
section ZM
variable {l : Launch} {G : zG} {S : zS} {wc : va_W} {post : Option Value → va_W → Prop} {pc : Nat} {L : List (Option Value)} {st : List Value} {ws : va_W}

theorem kcl_maxI : Cond.code Lib.Math.max.name Lib.Math.max.code 2 (some .int) ∈ zT := zmem 365 (by decide +kernel) (by decide +kernel)
theorem a_maxI {index : Nat} {x y : Int32} (hd : decode (zcc S) pc = .ok (.invokestatic index, 3)) (hlink : Cond.methodLink (zown S) index yJ9_max_7cf53 ∈ zT) (hfr : 1 ≤ zfr S) (hlo : (st.map fun v => v.category).sum + 13 ≤ zlo S) (kk : AV l G S wc post (pc + 3) L (.int (if x < y then y else x) :: st) ws) : AV l G S wc post pc L (.int y :: .int x :: st) ws := by
  intro p e s m args below meth c C H locs ls hP hD hS hl
  exact va_mmax C.1 C.2.1 (C.2.2.1.trans hl.1.symm) C.2.2.2.1 (C.2.2.2.2.1 _ hlink) (C.2.2.2.2.1 _ ks_J9_max_7cf53) (C.2.2.2.2.1 _ kini_J9) (C.2.2.2.2.1 _ kcl_maxI) hfr hlo (Nat.le_refl _) (Nat.le_refl _) hd (kk p e s m args below meth c C H locs ls hP hD hS hl)
theorem kcl_minI : Cond.code Lib.Math.min.name Lib.Math.min.code 2 (some .int) ∈ zT := zmem 447 (by decide +kernel) (by decide +kernel)
theorem a_minI {index : Nat} {x y : Int32} (hd : decode (zcc S) pc = .ok (.invokestatic index, 3)) (hlink : Cond.methodLink (zown S) index yJ9_min_7cf53 ∈ zT) (hfr : 1 ≤ zfr S) (hlo : (st.map fun v => v.category).sum + 13 ≤ zlo S) (kk : AV l G S wc post (pc + 3) L (.int (if y < x then y else x) :: st) ws) : AV l G S wc post pc L (.int y :: .int x :: st) ws := by
  intro p e s m args below meth c C H locs ls hP hD hS hl
  exact va_mmin C.1 C.2.1 (C.2.2.1.trans hl.1.symm) C.2.2.2.1 (C.2.2.2.2.1 _ hlink) (C.2.2.2.2.1 _ ks_J9_min_7cf53) (C.2.2.2.2.1 _ kini_J9) (C.2.2.2.2.1 _ kcl_minI) hfr hlo (Nat.le_refl _) (Nat.le_refl _) hd (kk p e s m args below meth c C H locs ls hP hD hS hl)
theorem kcl_maxJ : Cond.code Lib.MathLoose.max_long.x Lib.MathLoose.max_long.code 4 (some .long) ∈ zT := zmem 309 (by decide +kernel) (by decide +kernel)
theorem a_maxJ {index : Nat} {x y : Int64} (hd : decode (zcc S) pc = .ok (.invokestatic index, 3)) (hlink : Cond.methodLink (zown S) index yJ9_max_f86c9 ∈ zT) (hfr : 1 ≤ zfr S) (hlo : (st.map fun v => v.category).sum + 15 ≤ zlo S) (kk : AV l G S wc post (pc + 3) L (.long (if y < x then x else y) :: st) ws) : AV l G S wc post pc L (.long y :: .long x :: st) ws := by
  intro p e s m args below meth c C H locs ls hP hD hS hl
  exact va_mmax_long C.1 C.2.1 (C.2.2.1.trans hl.1.symm) C.2.2.2.1 (C.2.2.2.2.1 _ hlink) (C.2.2.2.2.1 _ ks_J9_max_f86c9) (C.2.2.2.2.1 _ kini_J9) (C.2.2.2.2.1 _ kcl_maxJ) hfr hlo (Nat.le_refl _) (Nat.le_refl _) hd (kk p e s m args below meth c C H locs ls hP hD hS hl)
theorem kcl_minJ : Cond.code Lib.MathLoose.min_long.x Lib.MathLoose.min_long.code 4 (some .long) ∈ zT := zmem 312 (by decide +kernel) (by decide +kernel)
theorem a_minJ {index : Nat} {x y : Int64} (hd : decode (zcc S) pc = .ok (.invokestatic index, 3)) (hlink : Cond.methodLink (zown S) index yJ9_min_f86c9 ∈ zT) (hfr : 1 ≤ zfr S) (hlo : (st.map fun v => v.category).sum + 15 ≤ zlo S) (kk : AV l G S wc post (pc + 3) L (.long (if y < x then y else x) :: st) ws) : AV l G S wc post pc L (.long y :: .long x :: st) ws := by
  intro p e s m args below meth c C H locs ls hP hD hS hl
  exact va_mmin_long C.1 C.2.1 (C.2.2.1.trans hl.1.symm) C.2.2.2.1 (C.2.2.2.2.1 _ hlink) (C.2.2.2.2.1 _ ks_J9_min_f86c9) (C.2.2.2.2.1 _ kini_J9) (C.2.2.2.2.1 _ kcl_minJ) hfr hlo (Nat.le_refl _) (Nat.le_refl _) hd (kk p e s m args below meth c C H locs ls hP hD hS hl)
theorem a_ialdN {q k n : Nat} {ad : Nat → Nat} {f : Nat → Int32} (hd : decode (zcc S) pc = .ok (.iaload, 1)) (he : ws[q]? = some (ad q, .inl (zcI G, n, .inl f))) (hi : k < n) (hn : n < 2 ^ 31) (kk : AV l G S wc post (pc + 1) L (.int (f k) :: st) ws) : AV l G S wc post pc L (.int (nI k) :: .ref (ad q) :: st) ws :=
  a_iald hd he (zinN hi hn) (by rw [nI_clamp (Nat.lt_trans hi hn)]; exact kk)
theorem a_iastN {q k n : Nat} {ad : Nat → Nat} {f : Nat → Int32} {x : Int32} (hd : decode (zcc S) pc = .ok (.iastore, 1)) (he : ws[q]? = some (ad q, .inl (zcI G, n, .inl f))) (hi : k < n) (hn : n < 2 ^ 31) (kk : AV l G S wc post (pc + 1) L st (ws.set q (ad q, .inl (zcI G, n, .inl (upd f k x))))) : AV l G S wc post pc L (.int x :: .int (nI k) :: .ref (ad q) :: st) ws :=
  a_iast hd he (zinN hi hn) (by rw [nI_clamp (Nat.lt_trans hi hn)]; exact kk)
theorem a_laldN {q k n : Nat} {ad : Nat → Nat} {f : Nat → Int64} (hd : decode (zcc S) pc = .ok (.laload, 1)) (he : ws[q]? = some (ad q, .inl (zcJ G, n, .inr (.inl f)))) (hi : k < n) (hn : n < 2 ^ 31) (kk : AV l G S wc post (pc + 1) L (.long (f k) :: st) ws) : AV l G S wc post pc L (.int (nI k) :: .ref (ad q) :: st) ws :=
  a_lald hd he (zinN hi hn) (by rw [nI_clamp (Nat.lt_trans hi hn)]; exact kk)
theorem a_lastN {q k n : Nat} {ad : Nat → Nat} {f : Nat → Int64} {x : Int64} (hd : decode (zcc S) pc = .ok (.lastore, 1)) (he : ws[q]? = some (ad q, .inl (zcJ G, n, .inr (.inl f)))) (hi : k < n) (hn : n < 2 ^ 31) (kk : AV l G S wc post (pc + 1) L st (ws.set q (ad q, .inl (zcJ G, n, .inr (.inl (vp_updL f k x)))))) : AV l G S wc post pc L (.long x :: .int (nI k) :: .ref (ad q) :: st) ws :=
  a_last hd he (zinN hi hn) (by rw [nI_clamp (Nat.lt_trans hi hn)]; exact kk)
theorem a_saldN {q k n : Nat} {ad : Nat → Nat} {f : Nat → Int32} (hd : decode (zcc S) pc = .ok (.saload, 1)) (he : ws[q]? = some (ad q, .inl (zcS G, n, .inl f))) (hi : k < n) (hn : n < 2 ^ 31) (kk : AV l G S wc post (pc + 1) L (.int (f k) :: st) ws) : AV l G S wc post pc L (.int (nI k) :: .ref (ad q) :: st) ws :=
  a_sald hd he (zinN hi hn) (by rw [nI_clamp (Nat.lt_trans hi hn)]; exact kk)
theorem a_sastN {q k n : Nat} {ad : Nat → Nat} {f : Nat → Int32} {x : Int32} (hd : decode (zcc S) pc = .ok (.sastore, 1)) (he : ws[q]? = some (ad q, .inl (zcS G, n, .inl f))) (hi : k < n) (hn : n < 2 ^ 31) (kk : AV l G S wc post (pc + 1) L st (ws.set q (ad q, .inl (zcS G, n, .inl (upd f k (vp_nar .short x)))))) : AV l G S wc post pc L (.int x :: .int (nI k) :: .ref (ad q) :: st) ws :=
  a_sast hd he (zinN hi hn) (by rw [nI_clamp (Nat.lt_trans hi hn)]; exact kk)
theorem a_aaldN {q k n : Nat} {ad : Nat → Nat} {f : Nat → Option Nat} {a : Nat} (hd : decode (zcc S) pc = .ok (.aaload, 1)) (he : ws[q]? = some (ad q, .inl (zcO G, n, .inr (.inr (.inr (.inr f)))))) (hi : k < n) (hn : n < 2 ^ 31) (hf : f k = some a) (kk : AV l G S wc post (pc + 1) L (.ref a :: st) ws) : AV l G S wc post pc L (.int (nI k) :: .ref (ad q) :: st) ws :=
  a_aald hd he (zinN hi hn) (by rw [nI_clamp (Nat.lt_trans hi hn), hf]; exact kk)
theorem a_staldN {q k : Nat} {qq : String × String × Nat × (Nat → Int32)} (hq : zSt[q]? = some qq) (hd : decode (zcc S) pc = .ok (.iaload, 1)) (hi : k < qq.2.2.1) (hn : qq.2.2.1 < 2 ^ 31) (kk : AV l G S wc post (pc + 1) L (.int (qq.2.2.2 k) :: st) ws) : AV l G S wc post pc L (.int (nI k) :: .ref (G.2.2 q) :: st) ws :=
  a_stald hq hd (zinN hi hn) (by rw [nI_clamp (Nat.lt_trans hi hn)]; exact kk)
theorem a_iincN {i : Nat} {n : Int} {k d : Nat} (hi : L[i]? = some (some (.int (nI k)))) (hp : zprev L i = true) (hn : i < znL S) (hd : decode (zcc S) pc = .ok (.iinc i n, 3)) (hv : Int32.ofInt n = nI d) (kk : AV l G S wc post (pc + 3) (L.set i (some (.int (nI (k + d))))) st ws) : AV l G S wc post pc L st ws := g_iinc hi hp hn hd (by rw [hv, zI_add]) kk
end ZM
