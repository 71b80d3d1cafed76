/-! The law's start: what the Statement gives of the classes and the static rows; the two objects are made; then the loop. -/
theorem zS1 {args : Array Value} {s : State} {A : Nat → Prop} {C n : String} {N : Nat} {f : Nat → Int32} (hN : N < 2 ^ 31) (hl : (Cond.laysStatic C n "[I").before args s = true) (hini : (Cond.initialized C).before args s = true) (harr : (Cond.arrayOf (.static C n "[I") .int).before args s = true) (hlen : (Cond.eq (.length (.static C n "[I")) (.int (Int32.ofNat N))).before args s = true) (hel : ∀ j : Nat, j < N → (Cond.eq (.elem (.static C n "[I") (.int (Int32.ofNat j))) (.int (f j))).before args s = true) (hA : ∀ a : Nat, a < s.heap.size → ¬ A a) :
    ∃ t : Nat, va_Z C n "[I" (.ref t) A s s.heap ∧ va_T .int t N (fun j => .int (f j)) A s s.heap ∧ ¬ A t ∧ t < s.heap.size := by
  obtain ⟨t, ht, hT⟩ := va_Tof (f := fun j => .int (f j)) hN harr (va_eqt hlen) (fun j hj => va_eqt (hel j hj)) hA
  refine ⟨t, va_Zof hl hini ht hA, hT, hT.out, ?_⟩
  obtain ⟨cell, h1, -⟩ := hT
  exact (Array.getElem?_eq_some_iff.mp h1).1
theorem zArr_of {args : Array Value} {s : State} {ty : FieldType} (h : (Cond.arrayClass ty).before args s = true) : ∃ cA : ClassId, ArrOfT s cA ty ∧ s.vm.findClass ("[" ++ ty.toString) = some cA := by
  obtain ⟨cA, kA, comp, h1, h2, h3⟩ := Cond.arrayClass_spec h
  exact ⟨cA, fun n z => ⟨fun k h => (by cases h), kA, h2, comp, h3⟩, h1⟩
theorem zArrO_of {args : Array Value} {s : State} {C : String} (h : (Cond.arrayOver (.object C)).before args s = true) : ∃ cA : ClassId, ArrOfT s cA (.object C) ∧ va_RA s cA (.object C) := by
  obtain ⟨comp, cA, kA, h1, h2, h3, h4, h5⟩ := Cond.arrayOver_spec h
  exact ⟨cA, fun n z => ⟨fun k h => (by cases h), kA, h3, comp, h4⟩, kA, comp, h3, h4, h1, h5⟩
set_option maxRecDepth 100000 in
set_option maxHeartbeats 4000000 in
theorem zAmb_of {p : Program} {s : State} {m : MethodId} {meth : Method} {c : Code} {b N : Nat} {xs : Nat → Int32} (C0 : lw_At p s m meth c b N xs) : ∃ G : zG, zAmb G (zAs s) s := by
  obtain ⟨hx, hb, hr, hml, hown, hts0, hX, hbl, hlocks, hgv⟩ := id C0
  have hts : ∀ w ∈ zT, w.before #[Value.ref b] s = true := fun w hw => hts0 w (zT_in hw)
  have hs := flat_of_before _ hgv
  have hA : ∀ a : Nat, a < s.heap.size → ¬ zAs s a := fun a h => Nat.not_le.mpr h
  obtain ⟨k0, i0, hK0⟩ := u_known (C := RX0) (T := TX0) (N := 13) (n := 13) hts win_X0 (hts _ kinst_X0)
  obtain ⟨k1, i1, hK1⟩ := u_known (C := RX1) (T := TX1) (N := 4) (n := 4) hts win_X1 (hts _ kinst_X1)
  obtain ⟨k2, i2, hK2⟩ := u_known (C := RX2) (T := TX2) (N := 2) (n := 2) hts win_X2 (hts _ kinst_X2)
  obtain ⟨k3, i3, hK3⟩ := u_known (C := RX3) (T := TX3) (N := 2) (n := 2) hts win_X3 (hts _ kinst_X3)
  obtain ⟨k4, i4, hK4⟩ := u_known (C := RX4) (T := TX4) (N := 2) (n := 2) hts win_X4 (hts _ kinst_X4)
  obtain ⟨k5, i5, hK5⟩ := u_known (C := RX5) (T := TX5) (N := 11) (n := 11) hts win_X5 (hts _ kinst_X5)
  obtain ⟨k6, i6, hK6⟩ := u_known (C := RX6) (T := TX6) (N := 27) (n := 27) hts win_X6 (hts _ kinst_X6)
  obtain ⟨cI, aI, fI⟩ := zArr_of (hts _ karr_I)
  obtain ⟨cJ, aJ, fJ⟩ := zArr_of (hts _ karr_J)
  obtain ⟨cS, aS, fS⟩ := zArr_of (hts _ karr_S)
  obtain ⟨cO, aO, fO⟩ := zArrO_of (C := "SaltPlant$Sheet") (hts0 _ (List.mem_of_getElem? (i := 155) (by decide +kernel)))
  obtain ⟨t0, z0⟩ := zS1 (A := zAs s) (C := "SaltPlant$Skins") (n := "PASS_OF_KIND") (N := 4) (f := fun k => ([40, 30, 60, 20] : List Int32).getD k 0) (by decide) (hts0 _ (List.mem_of_getElem? (i := 237) (by decide +kernel))) (hts _ kini_X4) (hs _ (by decide +kernel)) (hs _ (by decide +kernel)) (fun j hj => by
    rcases (show j = 0 ∨ j = 1 ∨ j = 2 ∨ j = 3 by omega) with rfl | rfl | rfl | rfl <;> exact hs _ (by decide +kernel)) hA
  obtain ⟨t1, z1⟩ := zS1 (A := zAs s) (C := "SaltPlant$Skins") (n := "LEAK_OF_KIND") (N := 4) (f := fun k => ([10, 5, 25, 2] : List Int32).getD k 0) (by decide) (hts0 _ (List.mem_of_getElem? (i := 243) (by decide +kernel))) (hts _ kini_X4) (hs _ (by decide +kernel)) (hs _ (by decide +kernel)) (fun j hj => by
    rcases (show j = 0 ∨ j = 1 ∨ j = 2 ∨ j = 3 by omega) with rfl | rfl | rfl | rfl <;> exact hs _ (by decide +kernel)) hA
  obtain ⟨t2, z2⟩ := zS1 (A := zAs s) (C := "SaltPlant$Skins") (n := "KIND_ABOVE") (N := 4) (f := fun k => ([0, 0, 0, 1] : List Int32).getD k 0) (by decide) (hts0 _ (List.mem_of_getElem? (i := 253) (by decide +kernel))) (hts _ kini_X4) (hs _ (by decide +kernel)) (hs _ (by decide +kernel)) (fun j hj => by
    rcases (show j = 0 ∨ j = 1 ∨ j = 2 ∨ j = 3 by omega) with rfl | rfl | rfl | rfl <;> exact hs _ (by decide +kernel)) hA
  obtain ⟨t3, z3⟩ := zS1 (A := zAs s) (C := "SaltPlant") (n := "RULE_LOW") (N := 7) (f := fun k => ([0, 0, 0, 1, 0, 0, 0] : List Int32).getD k 0) (by decide) (hts0 _ (List.mem_of_getElem? (i := 352) (by decide +kernel))) (hts _ kini_X5) (hs _ (by decide +kernel)) (hs _ (by decide +kernel)) (fun j hj => by
    rcases (show j = 0 ∨ j = 1 ∨ j = 2 ∨ j = 3 ∨ j = 4 ∨ j = 5 ∨ j = 6 by omega) with rfl | rfl | rfl | rfl | rfl | rfl | rfl <;> exact hs _ (by decide +kernel)) hA
  obtain ⟨t4, z4⟩ := zS1 (A := zAs s) (C := "SaltPlant") (n := "RULE_HIGH") (N := 7) (f := fun k => ([9999, 9999, 100, 1000, 30, 200, 200] : List Int32).getD k 0) (by decide) (hts0 _ (List.mem_of_getElem? (i := 354) (by decide +kernel))) (hts _ kini_X5) (hs _ (by decide +kernel)) (hs _ (by decide +kernel)) (fun j hj => by
    rcases (show j = 0 ∨ j = 1 ∨ j = 2 ∨ j = 3 ∨ j = 4 ∨ j = 5 ∨ j = 6 by omega) with rfl | rfl | rfl | rfl | rfl | rfl | rfl <;> exact hs _ (by decide +kernel)) hA
  refine ⟨((fun k => if k = 0 then k0 else if k = 1 then k1 else if k = 2 then k2 else if k = 3 then k3 else if k = 4 then k4 else if k = 5 then k5 else k6, fun k => if k = 0 then i0 else if k = 1 then i1 else if k = 2 then i2 else if k = 3 then i3 else if k = 4 then i4 else if k = 5 then i5 else i6), (cI, cJ, cS, cO), fun k => if k = 0 then t0 else if k = 1 then t1 else if k = 2 then t2 else if k = 3 then t3 else t4), ⟨?_, ?_⟩, ?_, ?_⟩
  · intro k q hq
    match k, hq with
    | 0, hq => cases hq; exact hK0
    | 1, hq => cases hq; exact hK1
    | 2, hq => cases hq; exact hK2
    | 3, hq => cases hq; exact hK3
    | 4, hq => cases hq; exact hK4
    | 5, hq => cases hq; exact hK5
    | 6, hq => cases hq; exact hK6
    | k + 7, hq => simp [vwCl] at hq
  · intro k q hq
    match k, hq with
    | 0, hq => cases hq; exact ⟨aI, fI⟩
    | 1, hq => cases hq; exact ⟨aJ, fJ⟩
    | 2, hq => cases hq; exact ⟨aS, fS⟩
    | 3, hq => cases hq; exact ⟨aO, fO⟩
    | k + 4, hq => simp [zty] at hq
  · intro w hw
    have h2 := (List.mem_filter.mp hw).2
    exact va_Nw.of (by cases w <;> first | rfl | (simp [zIsNest] at h2)) (hts0 w (List.mem_filter.mp hw).1)
  · intro k q hq
    match k, hq with
    | 0, hq => cases hq; exact z0
    | 1, hq => cases hq; exact z1
    | 2, hq => cases hq; exact z2
    | 3, hq => cases hq; exact z3
    | 4, hq => cases hq; exact z4
    | k + 5, hq => simp [zSt] at hq
theorem z_ctor {l : Launch} {G : zG} {p : Program} {e : Env} {s : State} {m : MethodId} {below : List Frame} {meth : Method} {c : Code} {b N : Nat} {xs : Nat → Int32} (C : zLx p s m meth c G b N xs) (hAO : va_AO "SaltPlant$Sheet" s) {S2 : zS} {q : Nat} {ent : va_E} {wr : va_W} {post2 : va_W → Prop} {mc2 ms2 index pc k n : Nat} {st : List Value} (hM : zInit l G S2 q [(q, ent)] post2 mc2 ms2) (hcode : zW S2 ∈ zT) (hret : zret S2 = none) (hlink : Cond.methodLink R_law index (zy S2) ∈ zT) (hin : Cond.instanceMethod (zy S2) ∈ zT) (hini : Cond.initialized (zy S2).cls ∈ zT) (hnm : (zy S2).name = "<init>") (hok1 : (zy S2).cls ≠ "java/lang/invoke/MethodHandle" ∧ (zy S2).cls ≠ "java/lang/invoke/VarHandle" ∧ (parseMethodDescriptor (zy S2).desc).map (fun d => d.parameters.length) = some 0) (hok2 : zfr S2 + 1 ≤ 9 ∧ 8 + (znL S2 + 11) + zlo S2 ≤ 392)
    (hd : decode code pc = .ok (.invokespecial index, 3)) (hnd : va_nd (List.range wr.length) = true) (hsum : (st.map fun v => v.category).sum ≤ 8) (hk : k + mc2 ≤ 46) (hn : n + ms2 ≤ 4514) {H : Heap} {locs : List Loc} {ls : Array Slot} (hP : va_P G.1 vwCl (wr ++ [(q, ent)]) H) (hD : va_D (zAs s) (wr ++ [(q, ent)])) (hS : va_S (zAs s) s.heap H locs) (hsz : ls.size = 4) {Q : State → Prop}
    (kk : ∀ (w1 : va_W) (H1 : Heap) (locs1 : List Loc), post2 w1 → va_P G.1 vwCl (wr ++ w1) H1 → va_D (zAs s) (wr ++ w1) → va_S (zAs s) s.heap H1 locs1 → W p l e room_1 s m #[Value.ref b] below meth c H1 locs1 (k + mc2) (n + ms2) Q (F0 m (pc + 3) ls st)) : W p l e room_1 s m #[Value.ref b] below meth c H locs k n Q (F0 m pc ls (.ref q :: st)) := by
  obtain ⟨hx, hb, hr, hml, hown, hts0, hX, hbl, hlocks, hgv⟩ := id C.1
  have hts : ∀ w ∈ zT, w.before #[Value.ref b] s = true := fun w hw => hts0 w (zT_in hw)
  have hC := zC_last wr (q, ent)
  have hF : ∀ z, va_A [(q, ent)] H.size z → zAs s z := va_free hD hS (fun q h => h) [wr.length] hC
  have hf2 : [wr.length].filterMap (fun i => (wr ++ [(q, ent)])[i]?) = [(q, ent)] := by simp
  have hpre : ∀ U : State, U.heap = H → s.WarmedH U.vm → zPi G q [(q, ent)] H.size ([.ref q] : List Value).toArray U := by
    intro U hU hW
    refine ⟨⟨rfl, by rw [hU], by rw [hU]; exact hP.sub [wr.length] hf2, (hD.sub [wr.length] rfl hC).weaken (fun _ _ _ _ => trivial), va_K.moved hW.alike C.2.1, zNest.warm hW C.2.2.1, ?_⟩, va_AO.moved hW.alike hAO⟩
    rw [hU]
    exact zStat.go hW.alike hS hF C.2.2.2
  have hrun := va_runI (locs := locs) (below := below) (meth := meth) (e := e) (cells := k) (slots := n) (R := room_1) (As := []) (rest := st) ⟨hx, hb, hml, hown, hts⟩ (hM H.size) ⟨callB_of (R := room_1) 0 hts (zGood hcode) (by show (Cond.code (zy S2) (zcc S2) (znL S2) (zret S2) :: zT) = _; rw [hret]) rfl rfl (hts _ hini) (hts _ hlink) hok1 hok2, hnm, hts _ hin⟩ ⟨zBlindI, hpre⟩ (g := F0 m pc ls (.ref q :: st)) rfl rfl hsz rfl (lv_room hsum) hd ⟨hk, hn⟩
  intro T hT X
  obtain ⟨v, st₀, t, T', L1, h0', X', hL, e1, e2, ⟨⟨w1, hv, hp, hP1, hD1⟩, hz, hk1⟩, stp⟩ := hrun T hT X
  cases hv
  rw [h0'] at hz hk1 hD1
  obtain ⟨hP2, hD2⟩ := va_join (wc := [(q, ent)]) (wr := wr) (w1 := w1) hP hD [wr.length] (List.range wr.length) hC (zC_init wr (q, ent)) hnd (fun i hi => by have := List.mem_range.mp hi; simp; omega) hk1 hF hP1 hD1
  have hS' : va_S (zAs s) s.heap T'.heap (locs ++ L1) := ⟨Nat.le_trans hS.1 (by rw [e1]; exact hz), fun q h1 h2 => by rw [e1, hk1 q (Nat.lt_of_lt_of_le h1 hS.1) (fun z => h2 (hF q z))]; exact hS.2.1 q h1 h2, fun q hq => by
      rcases List.mem_append.mp hq with h | h
      · exact hS.2.2 q h
      · exact hF _ (hL q h)⟩
  obtain ⟨t2, a1, b1⟩ := kk w1 T'.heap (locs ++ L1) hp (by rw [e1]; exact hP2) hD2 hS' T' rfl X'
  exact ⟨t2, stp t2 a1, b1⟩
theorem zOk_0 : zOk zσ0 := ⟨by decide +kernel, by decide +kernel, by decide +kernel, by decide +kernel, by decide +kernel, by decide +kernel, by decide +kernel, by decide +kernel, by decide +kernel, by decide +kernel, by decide +kernel, by decide +kernel, fun s hs => Or.inl rfl, fun s hs k hk => rfl⟩
theorem zNb_0 (nb : Nat → Int32) : zNb zσ0 nb := fun s hs k hk h => by
  have h1 := Int32.lt_iff_toInt_lt.mp (show nI k < -1 from h)
  rw [nI_toInt (by omega)] at h1
  have k1 : (-1 : Int32).toInt = -1 := by decide
  omega
set_option maxHeartbeats 4000000 in
set_option maxRecDepth 100000 in
/-- THE LAW, from its entry -/
theorem whole_start {p : Program} {e : Env} {s : State} {m : MethodId} {below : List Frame} {meth : Method} {c : Code} (l : Launch) {b L : Nat} {xs : Nat → Int32} (hL : L ≤ 3072) (C0 : lw_At p s m meth c b L xs) : W p l e room_1 s m #[Value.ref b] below meth c s.heap [] 0 0 (lw_Z below #[Value.ref b] s) (entryFrame m ([Value.ref b] : List Value).toArray 4) := by
  obtain ⟨G, hA⟩ := zAmb_of C0
  obtain ⟨hx, hb, hr, hml, hown, hts0, hX, hbl, hlocks, hgv⟩ := id C0
  have hts : ∀ w ∈ zT, w.before #[Value.ref b] s = true := fun w hw => hts0 w (zT_in hw)
  have hAO : va_AO "SaltPlant$Sheet" s := va_AO.of (hts0 _ (List.mem_of_getElem? (i := 155) (by decide +kernel)))
  have hAA : ∀ q : Nat, s.heap.size ≤ q → zAs s q := fun _ h => h
  have hS : va_S (zAs s) s.heap s.heap [] := va_S.rf
  have hP : va_P G.1 vwCl [] s.heap := fun k q h => by simp at h
  have hD : va_D (zAs s) [] := ⟨fun i j p q h => by simp at h, fun k q h => by simp at h⟩
  have hl := lv_entry ([.ref b]) (n := 4) (Nat.le_of_ble_eq_true rfl)
  rw [lg_entry_eq]
  generalize (lg_sl ([.ref b]) ++ List.replicate (4 - (lg_sl ([.ref b])).length) Slot.unset).toArray = ls at hl ⊢
  have hl : lv_has ls 4 [(0, .ref b)] := hl
  refine va_new (ci := 5) (fs := [.null, .null, .null, .null, .null, .null, .null, .int 0, .int 0, .int 0, .int 0]) (C := RX5) (T := TX5) (N := 11) hx hb hts win_X5 tyX5 tyX5_ok hown (hts _ kcl_L_7) (hts _ kinst_X5) (hts _ kini_X5) hA.1 hP hD hS hAA rfl (by decide +kernel) (Nat.le_of_ble_eq_true rfl) (Nat.le_of_ble_eq_true rfl) dL_law_0 (fun q0 H1 hP1 hD1 hS1 => ?_)
  refine lv_dup hx hb dL_law_3 rfl ?_
  refine z_ctor ⟨C0, hA⟩ hAO (wr := []) (i_X5 l G q0) kc_X5_init rfl km_L_9 ki_X5_init kini_X5 rfl ⟨by decide +kernel, by decide +kernel, by decide +kernel⟩ ⟨by decide, by decide⟩ dL_law_4 rfl (Nat.le_of_ble_eq_true rfl) (Nat.le_of_ble_eq_true rfl) (Nat.le_of_ble_eq_true rfl) hP1 hD1 hS1 hl.1 (fun w1 H2 locs2 hw hP2 hD2 hS2 => ?_)
  obtain ⟨ad, x, rfl, rfl⟩ := hw
  refine lv_astore_n (lv' := [(1, .ref (ad 0)), (0, .ref b)]) hx hb dL_law_7 rfl hl (by decide) rfl (fun ls hl => ?_)
  refine va_new (ci := 6) (fs := [.null, .int 0, .null, .null, .int 0, .int 0, .int 0, .null, .int 0, .null, .null, .null, .null, .null, .null, .null, .null, .null, .long 0, .long 0, .long 0, .long 0, .long 0, .null, .null, .null, .null]) (C := RX6) (T := TX6) (N := 27) hx hb hts win_X6 tyX6 tyX6_ok hown (hts _ kcl_L_10) (hts _ kinst_X6) (hts _ kini_X6) hA.1 hP2 hD2 hS2 hAA rfl (by decide +kernel) (Nat.le_of_ble_eq_true rfl) (Nat.le_of_ble_eq_true rfl) dL_law_8 (fun q1 H3 hP3 hD3 hS3 => ?_)
  refine lv_dup hx hb dL_law_11 rfl ?_
  refine z_ctor ⟨C0, hA⟩ hAO (wr := wP G ad zσ0 x) (i_X6 l G q1) kc_X6_init rfl km_L_12 ki_X6_init kini_X6 rfl ⟨by decide +kernel, by decide +kernel, by decide +kernel⟩ ⟨by decide, by decide⟩ dL_law_12 (znd_of (n := 28) rfl znd28) (Nat.le_of_ble_eq_true rfl) (Nat.le_of_ble_eq_true rfl) (Nat.le_of_ble_eq_true rfl) hP3 hD3 hS3 hl.1 (fun w2 H4 locs4 hw hP4 hD4 hS4 => ?_)
  obtain ⟨ad2, y, rfl, rfl⟩ := hw
  refine lv_astore_n (lv' := [(2, .ref (ad2 0)), (1, .ref (ad 0)), (0, .ref b)]) hx hb dL_law_15 rfl hl (by decide) rfl (fun ls hl => ?_)
  refine lv_iconst (v := 0) hx hb dL_law_16 (by decide) ?_
  refine lv_istore_n (lv' := [(3, .int 0), (2, .ref (ad2 0)), (1, .ref (ad 0)), (0, .ref b)]) hx hb dL_law_17 rfl hl (by decide) rfl (fun ls hl => ?_)
  exact law_loop l G b L xs hL ad ad2 (L + 6) 0 zσ0 x y (Nat.zero_le _) (by omega) zOk_0 (zNb_0 _) p e s m below meth c ⟨C0, hA⟩ H4 locs4 ls hP4 hD4 hS4 (lv_sub hl [3, 2, 1, 0] rfl)
