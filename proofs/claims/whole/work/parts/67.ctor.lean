/-! Constructors: a walk that makes cells. -/
theorem kobj_i : Cond.instanceMethod Lib.objectInit ∈ zT := zmem 43 (by decide +kernel) (by decide +kernel)
theorem kobj_c : Cond.code Lib.objectInit ⟨#[0xb1]⟩ 1 none ∈ zT := zmem 44 (by decide +kernel) (by decide +kernel)
theorem kobj_X5 : Cond.methodLink RX5 3 Lib.objectInit ∈ zT := zmem 42 (by decide +kernel) (by decide +kernel)
theorem kobj_X2 : Cond.methodLink RX2 5 Lib.objectInit ∈ zT := zmem 50 (by decide +kernel) (by decide +kernel)
theorem kobj_X4 : Cond.methodLink RX4 3 Lib.objectInit ∈ zT := zmem 67 (by decide +kernel) (by decide +kernel)
theorem kobj_X0 : Cond.methodLink RX0 3 Lib.objectInit ∈ zT := zmem 82 (by decide +kernel) (by decide +kernel)
theorem kobj_X1 : Cond.methodLink RX1 1 Lib.objectInit ∈ zT := zmem 140 (by decide +kernel) (by decide +kernel)
theorem kobj_X3 : Cond.methodLink RX3 1 Lib.objectInit ∈ zT := zmem 160 (by decide +kernel) (by decide +kernel)
theorem kobj_X6 : Cond.methodLink RX6 1 Lib.objectInit ∈ zT := zmem 537 (by decide +kernel) (by decide +kernel)
theorem kcl_X5_13 : Cond.classLink RX5 13 RX2 ∈ zT := zmem 45 (by decide +kernel) (by decide +kernel)
theorem kcl_X5_23 : Cond.classLink RX5 23 RX4 ∈ zT := zmem 62 (by decide +kernel) (by decide +kernel)
theorem kcl_X5_30 : Cond.classLink RX5 30 RX0 ∈ zT := zmem 77 (by decide +kernel) (by decide +kernel)
theorem kcl_X5_37 : Cond.classLink RX5 37 RX1 ∈ zT := zmem 135 (by decide +kernel) (by decide +kernel)
theorem kcl_X5_44 : Cond.classLink RX5 44 RX3 ∈ zT := zmem 154 (by decide +kernel) (by decide +kernel)
theorem kinst_X5 : Cond.instantiable RX5 11 ∈ zT := zmem 38 (by decide +kernel) (by decide +kernel)
theorem kinst_X2 : Cond.instantiable RX2 2 ∈ zT := zmem 46 (by decide +kernel) (by decide +kernel)
theorem kinst_X4 : Cond.instantiable RX4 2 ∈ zT := zmem 63 (by decide +kernel) (by decide +kernel)
theorem kinst_X0 : Cond.instantiable RX0 13 ∈ zT := zmem 78 (by decide +kernel) (by decide +kernel)
theorem kinst_X1 : Cond.instantiable RX1 4 ∈ zT := zmem 136 (by decide +kernel) (by decide +kernel)
theorem kinst_X3 : Cond.instantiable RX3 2 ∈ zT := zmem 156 (by decide +kernel) (by decide +kernel)
theorem kinst_X6 : Cond.instantiable RX6 27 ∈ zT := zmem 533 (by decide +kernel) (by decide +kernel)
theorem karr_I : Cond.arrayClass .int ∈ zT := zmem 61 (by decide +kernel) (by decide +kernel)
theorem karr_J : Cond.arrayClass .long ∈ zT := zmem 134 (by decide +kernel) (by decide +kernel)
theorem karr_S : Cond.arrayClass .short ∈ zT := zmem 170 (by decide +kernel) (by decide +kernel)
abbrev zRm (S : zS) (mc ms : Nat) : Room := { frames := zfr S, cells := mc, slots := ms, locals := zlo S }
def zPi (G : zG) (h0 : Nat) (wc : va_W) (sz : Nat) : Array Value → State → Prop := fun a U => zPc G [.ref h0] wc sz a U ∧ va_AO "SaltPlant$Sheet" U
theorem zBlindI {G : zG} {h0 : Nat} {wc : va_W} {sz : Nat} : FrameBlind (zPi G h0 wc sz) := fun a U g mk q => ⟨zBlind a U g mk q.1, va_AO.moved (u := U) (U := U.calling g mk a) (Vm.Alike.refl U.vm) q.2⟩
def zQn (G : zG) (wc : va_W) (post : va_W → Prop) : Array Value → State → Outcome → State → Prop := fun _ st oc t => (∃ w1 : va_W, oc = .returned none ∧ post w1 ∧ va_P G.1 vwCl w1 t.heap ∧ va_D (va_A wc st.heap.size) w1) ∧ va_F (va_A wc st.heap.size) st t
/-- a constructor's contract: it makes mc cells of ms slots, and 'post world' -/
def zInit (l : Launch) (G : zG) (S : zS) (h0 : Nat) (wc : va_W) (post : va_W → Prop) (mc ms : Nat) : Prop :=
  ∀ sz : Nat, Met l (zy S) (zW S :: zT) (zRm S mc ms) (zPi G h0 wc sz) (zQn G wc post) mc ms (va_A wc sz)
def AN (l : Launch) (G : zG) (S : zS) (wc : va_W) (post : va_W → Prop) (mc ms h0 : Nat) (k n pc : Nat) (st : List Value) (ws : va_W) : Prop :=
  ∀ (p : Program) (e : Env) (s : State) (m : MethodId) (args : Array Value) (below : List Frame) (meth : Method) (c : Code), zCx p s m args meth c G S wc → (meth.name = "<init>" ∧ va_AO "SaltPlant$Sheet" s) →
  ∀ (H : Heap) (locs : List Loc) (ls : Array Slot), va_P G.1 vwCl ws H → va_D (va_A wc s.heap.size) ws → va_S (va_A wc s.heap.size) s.heap H locs → lv_has ls (znL S) [(0, .ref h0)] →
    W p l e (zRm S mc ms) s m args below meth c H locs k n (MQ below (zQn G wc post) args s mc ms (va_A wc s.heap.size)) (F0 m pc ls st)
section ZN
variable {l : Launch} {G : zG} {S S2 : zS} {wc : va_W} {post post2 : va_W → Prop} {mc ms h0 k n pc : Nat} {st : List Value} {ws : va_W}
theorem nEnter (hy : plainName (zy S).cls = true) (hown : (zy S).cls = zown S) (hnm : (zy S).name = "<init>") (hnL : 1 ≤ znL S) (h : AN l G S wc post mc ms h0 0 0 0 [] wc) : zInit l G S h0 wc post mc ms := by
  intro sz
  refine Met.ofW (cc := zcc S) (maxL := znL S) (ret := zret S) hy rfl ?_
  intro p e s m args below meth c s₁ B hml hv
  obtain ⟨⟨rfl, hsz, hP, hD, hA⟩, hAO⟩ := hv
  have hts := atoms_spec (ws := zW S :: zT) B.pre
  have hown2 : s.vm.findClass (zy S).cls = some m.cls := findClass_of_methodNamed B.named
  have hnm2 : meth.name = "<init>" := ((name_of_methodNamed B.named B.method).1).trans hnm
  subst hsz
  rw [lg_entry_eq]
  exact h p e s m ([.ref h0] : List Value).toArray below meth c ⟨B.exec, B.bytes, hml, hown ▸ hown2, fun w hw => hts w (List.mem_cons_of_mem _ hw), B.returns, B.notSynchronized, hA⟩ ⟨hnm2, hAO⟩ s.heap [] _ hP hD.self va_S.rf (lv_entry [.ref h0] hnL)
theorem n_aload (hd : decode (zcc S) pc = .ok (.aload_n 0, 1)) (kk : AN l G S wc post mc ms h0 k n (pc + 1) (.ref h0 :: st) ws) : AN l G S wc post mc ms h0 k n pc st ws := by
  intro p e s m args below meth c C hi H locs ls hP hD hS hl
  exact lv_aload_n C.1 C.2.1 hd rfl (lv_at hl 0 rfl) (kk p e s m args below meth c C hi H locs ls hP hD hS hl)
theorem n_iconst {x : Int} {v : Int32} (hd : decode (zcc S) pc = .ok (.iconst x, 1)) (hv : Int32.ofInt x = v) (kk : AN l G S wc post mc ms h0 k n (pc + 1) (.int v :: st) ws) : AN l G S wc post mc ms h0 k n pc st ws := by
  intro p e s m args below meth c C hi H locs ls hP hD hS hl
  exact lv_iconst C.1 C.2.1 hd hv (kk p e s m args below meth c C hi H locs ls hP hD hS hl)
theorem n_bipush {x : Int} {v : Int32} (hd : decode (zcc S) pc = .ok (.bipush x, 2)) (hv : (Int8.ofInt x).toInt32 = v) (kk : AN l G S wc post mc ms h0 k n (pc + 2) (.int v :: st) ws) : AN l G S wc post mc ms h0 k n pc st ws := by
  intro p e s m args below meth c C hi H locs ls hP hD hS hl
  exact lv_bipush C.1 C.2.1 hd hv (kk p e s m args below meth c C hi H locs ls hP hD hS hl)
theorem n_sipush {x : Int} {v : Int32} (hd : decode (zcc S) pc = .ok (.sipush x, 3)) (hv : (Int16.ofInt x).toInt32 = v) (kk : AN l G S wc post mc ms h0 k n (pc + 3) (.int v :: st) ws) : AN l G S wc post mc ms h0 k n pc st ws := by
  intro p e s m args below meth c C hi H locs ls hP hD hS hl
  exact lv_sipush C.1 C.2.1 hd hv (kk p e s m args below meth c C hi H locs ls hP hD hS hl)
theorem n_lconst {x : Fin 2} {v : Int64} (hd : decode (zcc S) pc = .ok (.lconst x, 1)) (hv : Int64.ofNat (x : Nat) = v) (kk : AN l G S wc post mc ms h0 k n (pc + 1) (.long v :: st) ws) : AN l G S wc post mc ms h0 k n pc st ws := by
  intro p e s m args below meth c C hi H locs ls hP hD hS hl
  exact lv_lconst C.1 C.2.1 hd hv (kk p e s m args below meth c C hi H locs ls hP hD hS hl)
theorem n_dup {v : Value} (hd : decode (zcc S) pc = .ok (.dup, 1)) (hv : v.category = 1) (kk : AN l G S wc post mc ms h0 k n (pc + 1) (v :: v :: st) ws) : AN l G S wc post mc ms h0 k n pc (v :: st) ws := by
  intro p e s m args below meth c C hi H locs ls hP hD hS hl
  exact lv_dup C.1 C.2.1 hd hv (kk p e s m args below meth c C hi H locs ls hP hD hS hl)
theorem n_obj {idx a : Nat} (hlink : Cond.methodLink (zown S) idx Lib.objectInit ∈ zT) (hd : decode (zcc S) pc = .ok (.invokespecial idx, 3)) (hfr : 1 ≤ zfr S) (hlo : (st.map fun v => v.category).sum + 12 ≤ zlo S) (kk : AN l G S wc post mc ms h0 k n (pc + 3) st ws) : AN l G S wc post mc ms h0 k n pc (.ref a :: st) ws := by
  intro p e s m args below meth c C hi H locs ls hP hD hS hl
  exact W.objInit C.1 C.2.1 C.2.2.2.1 (C.2.2.2.2.1 _ hlink) (C.2.2.2.2.1 _ kobj_i) (C.2.2.2.2.1 _ kobj_c) rfl (hl.1.trans C.2.2.1.symm) rfl hd hfr (by show 2 * 0 + _ + 12 ≤ zlo S; omega) (kk p e s m args below meth c C hi H locs ls hP hD hS hl)
theorem n_new {index N ci : Nat} {CC : String} {TT : u_T} {ty : Nat → FieldType} {fs : List Value} (hd : decode (zcc S) pc = .ok (.new index, 3)) (hcl : Cond.classLink (zown S) index CC ∈ zT) (hinst : Cond.instantiable CC N ∈ zT) (hini : Cond.initialized CC ∈ zT) (hin : ∀ w ∈ u_ws CC TT N, w ∈ zT) (hty : ∀ k, k < N → parseFieldDescriptor (TT k).2.2.1 = some (ty k)) (hc : vwCl[ci]? = some (CC, TT, N)) (hfs : ∀ j, j < N → defaultValue (ty j) = vp_V fs j) (hk : k + 1 ≤ mc) (hn : n + N ≤ ms)
    (kk : ∀ q : Nat, AN l G S wc post mc ms h0 (k + 1) (n + N) (pc + 3) (.ref q :: st) (ws ++ [(q, .inr (ci, fs))])) : AN l G S wc post mc ms h0 k n pc st ws := by
  intro p e s m args below meth c C hi H locs ls hP hD hS hl
  exact va_new C.1 C.2.1 C.2.2.2.2.1 hin ty hty C.2.2.2.1 (C.2.2.2.2.1 _ hcl) (C.2.2.2.2.1 _ hinst) (C.2.2.2.2.1 _ hini) C.2.2.2.2.2.2.2.1 hP hD hS (fun q h => Or.inr h) hc hfs hk hn hd (fun q H1 hP1 hD1 hS1 => kk q p e s m args below meth c C hi H1 locs ls hP1 hD1 hS1 hl)
theorem n_put {index q0 a j ci N : Nat} {CC : String} {TT : u_T} {ty0 : Nat → FieldType} {fs : List Value} {v : Value} {ty : FieldType} (hc : vwCl[ci]? = some (CC, TT, N)) (hin : ∀ w ∈ u_ws CC TT N, w ∈ zT) (hty : ∀ k, k < N → parseFieldDescriptor (TT k).2.2.1 = some (ty0 k)) (hnm : ∀ a, a < N → ∀ b, b < N → a ≠ b → (TT a).2.1 ≠ (TT b).2.1) (hj : j < N) (hd : decode (zcc S) pc = .ok (.putfield index, 3)) (hlink : Cond.fieldLink (zown S) index (TT j).1 (TT j).2.1 (TT j).2.2.1 ∈ zT) (hfin : (TT j).2.2.2 = false ∨ ((TT j).2.2.2 = true ∧ (TT j).1 = zown S)) (he : ws[q0]? = some (a, .inr (ci, fs))) (hty2 : ty0 j = ty) (hnr : narrow ty v = v) (hfit : fits ty v = true) (hlen : j < fs.length)
    (kk : AN l G S wc post mc ms h0 k n (pc + 3) st (ws.set q0 (a, .inr (ci, fs.set j v)))) : AN l G S wc post mc ms h0 k n pc (v :: .ref a :: st) ws := by
  intro p e s m args below meth c C hi H locs ls hP hD hS hl
  rcases hfin with hf | ⟨hf, ho⟩
  · exact va_put C.1 C.2.1 C.2.2.2.2.1 hin ty0 hty hnm C.2.2.2.1 C.2.2.2.2.2.2.2.1 hP hD hS q0 he hc j hj (C.2.2.2.2.1 _ hlink) (fun _ h => h) hf (by rw [hty j hj, hty2]) hnr hfit hlen hd (fun H locs hP hD hS => kk p e s m args below meth c C hi H locs ls hP hD hS hl)
  · exact va_putF C.1 C.2.1 C.2.2.2.2.1 hin ty0 hty hnm C.2.2.2.1 C.2.2.2.2.2.2.2.1 hP hD hS q0 he hc j hj (C.2.2.2.2.1 _ hlink) (fun _ h => h) hf hi.1 ho (by rw [hty j hj, hty2]) hnr hfit hlen hd (fun H locs hP hD hS => kk p e s m args below meth c C hi H locs ls hP hD hS hl)
theorem n_get {index q0 a j ci N : Nat} {CC : String} {TT : u_T} {fs : List Value} {v : Value} (hc : vwCl[ci]? = some (CC, TT, N)) (hin : ∀ w ∈ u_ws CC TT N, w ∈ zT) (hj : j < N) (hd : decode (zcc S) pc = .ok (.getfield index, 3)) (hlink : Cond.fieldLink (zown S) index (TT j).1 (TT j).2.1 (TT j).2.2.1 ∈ zT) (he : ws[q0]? = some (a, .inr (ci, fs))) (hv : fs[j]? = some v) (kk : AN l G S wc post mc ms h0 k n (pc + 3) (v :: st) ws) : AN l G S wc post mc ms h0 k n pc (.ref a :: st) ws := by
  intro p e s m args below meth c C hi H locs ls hP hD hS hl
  exact va_get C.1 C.2.1 C.2.2.2.2.1 hin C.2.2.2.1 C.2.2.2.2.2.2.2.1 hP q0 he hc j hj (C.2.2.2.2.1 _ hlink) (fun _ h => h) hv hd (kk p e s m args below meth c C hi H locs ls hP hD hS hl)
theorem n_iast {q0 a N : Nat} {f : Nat → Int32} {i x : Int32} (hd : decode (zcc S) pc = .ok (.iastore, 1)) (he : ws[q0]? = some (a, .inl (zcI G, N, .inl f))) (hi2 : vp_in i N) {j : Nat} (hj : i.toNatClampNeg = j) (kk : AN l G S wc post mc ms h0 k n (pc + 1) st (ws.set q0 (a, .inl (zcI G, N, .inl (upd f j x))))) : AN l G S wc post mc ms h0 k n pc (.int x :: .int i :: .ref a :: st) ws := by
  intro p e s m args below meth c C hi H locs ls hP hD hS hl
  subst hj
  exact va_iast C.1 C.2.1 C.2.2.2.2.2.2.2.1 hP hD hS q0 0 he rfl hi2 hd (fun H locs hP hD hS => kk p e s m args below meth c C hi H locs ls hP hD hS hl)
theorem n_ret (hd : decode (zcc S) pc = .ok (.return_, 1)) (hr : zret S = none) (hk : k = mc) (hn : n = ms) (hp : post ws) : AN l G S wc post mc ms h0 k n pc [] ws := by
  intro p e s m args below meth c C hi H locs ls hP hD hS hl
  subst hk
  subst hn
  exact W.vret C.1 C.2.1 (C.2.2.2.2.2.1.trans hr) (fun t ht hW => ⟨⟨_, rfl, hp, by rw [ht]; exact hP, hD⟩, hS.F ht⟩) hS.2.2 hd C.2.2.2.2.2.2.1
theorem n_newI {v : Int32} {N : Nat} (hd : decode (zcc S) pc = .ok (.newarray .int, 2)) (hv : ¬ v < 0) (hN : v.toNatClampNeg = N) (hb : N ≤ 100000) (hk : k + 1 ≤ mc) (hn : n + N ≤ ms)
    (kk : ∀ q : Nat, AN l G S wc post mc ms h0 (k + 1) (n + N) (pc + 2) (.ref q :: st) (ws ++ [(q, .inl (zcI G, N, .inl (fun _ => 0)))])) : AN l G S wc post mc ms h0 k n pc (.int v :: st) ws := by
  intro p e s m args below meth c C hi H locs ls hP hD hS hl
  have hK := C.2.2.2.2.2.2.2.1
  refine va_newa (atype := .int) (ty := .int) (a0 := (N, .inl (fun _ => 0))) C.1 C.2.1 (C.2.2.2.2.1 _ karr_I) rfl hK hP hD hS (fun q h => Or.inr h) (fun cA => rfl) hv hN ?_ hk hn hd (fun q cA H1 hK1 hP1 hD1 hS1 => ?_)
  · have : componentBytes .int ≤ 8 := by decide
    exact Nat.le_trans (Nat.mul_le_mul hb this) (by decide)
  · have e1 := (hK1.2 4 (cA, .int) rfl).2
    have e2 := (hK.2 0 (zcI G, .int) rfl).2
    have e3 : cA = zcI G := Option.some.inj (e1.symm.trans e2)
    subst e3
    exact kk q p e s m args below meth c C hi H1 locs ls hP1 hD1 hS1 hl
theorem n_newJ {v : Int32} {N : Nat} (hd : decode (zcc S) pc = .ok (.newarray .long, 2)) (hv : ¬ v < 0) (hN : v.toNatClampNeg = N) (hb : N ≤ 100000) (hk : k + 1 ≤ mc) (hn : n + N ≤ ms)
    (kk : ∀ q : Nat, AN l G S wc post mc ms h0 (k + 1) (n + N) (pc + 2) (.ref q :: st) (ws ++ [(q, .inl (zcJ G, N, .inr (.inl (fun _ => 0))))])) : AN l G S wc post mc ms h0 k n pc (.int v :: st) ws := by
  intro p e s m args below meth c C hi H locs ls hP hD hS hl
  have hK := C.2.2.2.2.2.2.2.1
  refine va_newa (atype := .long) (ty := .long) (a0 := (N, .inr (.inl (fun _ => 0)))) C.1 C.2.1 (C.2.2.2.2.1 _ karr_J) rfl hK hP hD hS (fun q h => Or.inr h) (fun cA => rfl) hv hN ?_ hk hn hd (fun q cA H1 hK1 hP1 hD1 hS1 => ?_)
  · have : componentBytes .long ≤ 8 := by decide
    exact Nat.le_trans (Nat.mul_le_mul hb this) (by decide)
  · have e1 := (hK1.2 4 (cA, .long) rfl).2
    have e2 := (hK.2 1 (zcJ G, .long) rfl).2
    have e3 : cA = zcJ G := Option.some.inj (e1.symm.trans e2)
    subst e3
    exact kk q p e s m args below meth c C hi H1 locs ls hP1 hD1 hS1 hl
theorem n_newS {v : Int32} {N : Nat} (hd : decode (zcc S) pc = .ok (.newarray .short, 2)) (hv : ¬ v < 0) (hN : v.toNatClampNeg = N) (hb : N ≤ 100000) (hk : k + 1 ≤ mc) (hn : n + N ≤ ms)
    (kk : ∀ q : Nat, AN l G S wc post mc ms h0 (k + 1) (n + N) (pc + 2) (.ref q :: st) (ws ++ [(q, .inl (zcS G, N, .inl (fun _ => 0)))])) : AN l G S wc post mc ms h0 k n pc (.int v :: st) ws := by
  intro p e s m args below meth c C hi H locs ls hP hD hS hl
  have hK := C.2.2.2.2.2.2.2.1
  refine va_newa (atype := .short) (ty := .short) (a0 := (N, .inl (fun _ => 0))) C.1 C.2.1 (C.2.2.2.2.1 _ karr_S) rfl hK hP hD hS (fun q h => Or.inr h) (fun cA => rfl) hv hN ?_ hk hn hd (fun q cA H1 hK1 hP1 hD1 hS1 => ?_)
  · have : componentBytes .short ≤ 8 := by decide
    exact Nat.le_trans (Nat.mul_le_mul hb this) (by decide)
  · have e1 := (hK1.2 4 (cA, .short) rfl).2
    have e2 := (hK.2 2 (zcS G, .short) rfl).2
    have e3 : cA = zcS G := Option.some.inj (e1.symm.trans e2)
    subst e3
    exact kk q p e s m args below meth c C hi H1 locs ls hP1 hD1 hS1 hl
theorem n_newq {index : Nat} {v : Int32} {N : Nat} (hd : decode (zcc S) pc = .ok (.anewarray index, 3)) (hcl : Cond.classLink (zown S) index "SaltPlant$Sheet" ∈ zT) (hv : ¬ v < 0) (hN : v.toNatClampNeg = N) (hb : N * 4 ≤ 536870912) (hk : k + 1 ≤ mc) (hn : n + N ≤ ms)
    (kk : ∀ q : Nat, AN l G S wc post mc ms h0 (k + 1) (n + N) (pc + 3) (.ref q :: st) (ws ++ [(q, .inl (zcO G, N, .inr (.inr (.inr (.inr (fun _ => none))))))])) : AN l G S wc post mc ms h0 k n pc (.int v :: st) ws := by
  intro p e s m args below meth c C hi H locs ls hP hD hS hl
  have hK := C.2.2.2.2.2.2.2.1
  refine va_newq (C := "SaltPlant$Sheet") C.1 C.2.1 C.2.2.2.1 (C.2.2.2.2.1 _ hcl) hi.2 hK hP hD hS (fun q h => Or.inr h) hv hN hb hk hn hd (fun q cA H1 hK1 hP1 hD1 hS1 => ?_)
  obtain ⟨-, -, -, -, -, e1⟩ := (hK1.2 4 (cA, .object "SaltPlant$Sheet") rfl).2
  obtain ⟨-, -, -, -, -, e2⟩ := (hK.2 3 (zcO G, .object "SaltPlant$Sheet") rfl).2
  have e3 : cA = zcO G := Option.some.inj (e1.symm.trans e2)
  subst e3
  exact kk q p e s m args below meth c C hi H1 locs ls hP1 hD1 hS1 hl
theorem n_astq {q0 qk a v N : Nat} {vs : List Value} {f : Nat → Option Nat} {i : Int32} (hd : decode (zcc S) pc = .ok (.aastore, 1)) (he : ws[q0]? = some (a, .inl (zcO G, N, .inr (.inr (.inr (.inr f)))))) (hv : ws[qk]? = some (v, .inr (3, vs))) (hin : vp_in i N) {j : Nat} (hj : i.toNatClampNeg = j)
    (kk : AN l G S wc post mc ms h0 k n (pc + 1) st (ws.set q0 (a, .inl (zcO G, N, .inr (.inr (.inr (.inr (va_up f j (some v))))))))) : AN l G S wc post mc ms h0 k n pc (.ref v :: .int i :: .ref a :: st) ws := by
  intro p e s m args below meth c C hi H locs ls hP hD hS hl
  subst hj
  exact va_astq (r := (RX3, TX3, 2)) C.1 C.2.1 C.2.2.2.2.2.2.2.1 hP hD hS q0 3 qk 3 he rfl hv rfl hin hd (fun H locs hP hD hS => kk p e s m args below meth c C hi H locs ls hP hD hS hl)
theorem zC_last (wr : va_W) (x : Nat × va_E) : [wr.length].map (fun i => (wr ++ [x])[i]?) = [x].map some := by simp
theorem zC_init (wr : va_W) (x : Nat × va_E) : (List.range wr.length).map (fun i => (wr ++ [x])[i]?) = wr.map some := by
  apply List.ext_getElem?
  intro k
  rw [List.getElem?_map, List.getElem?_map]
  by_cases h : k < wr.length
  · rw [List.getElem?_range h, List.getElem?_eq_getElem h]
    show some ((wr ++ [x])[k]?) = _
    rw [List.getElem?_append_left h, List.getElem?_eq_getElem h]
    rfl
  · rw [List.getElem?_eq_none (by rw [List.length_range]; omega), List.getElem?_eq_none (by omega)]; rfl
theorem n_callN {index q mc2 ms2 : Nat} {host : String} {ent : va_E} {wr : va_W} (hM : zInit l G S2 q [(q, ent)] post2 mc2 ms2) (hcode : zW S2 ∈ zT) (hret : zret S2 = none) (hlink : Cond.methodLinkNest (zown S) index (zy S2) host ∈ zNest) (hin : Cond.instanceMethod (zy S2) ∈ zT) (hini : Cond.initialized (zy S2).cls ∈ zT) (hnm : (zy S2).name = "<init>") (hok : zOkY S S2 0)
    (hd : decode (zcc S) pc = .ok (.invokespecial index, 3)) (hnd : va_nd (List.range wr.length) = true) (hsum : (st.map fun v => v.category).sum ≤ 8) (hk : k + mc2 ≤ mc) (hn : n + ms2 ≤ ms)
    (kk : ∀ w1, post2 w1 → AN l G S wc post mc ms h0 (k + mc2) (n + ms2) (pc + 3) st (wr ++ w1)) : AN l G S wc post mc ms h0 k n pc (.ref q :: st) (wr ++ [(q, ent)]) := by
  intro p e s m args below meth c C hi H locs ls hP hD hS hl
  obtain ⟨hx, hb, hml, ho, hts, -⟩ := id C
  have hF : ∀ z, va_A [(q, ent)] H.size z → va_A wc s.heap.size z := va_free hD hS (fun q h => Or.inr h) [wr.length] (zC_last wr (q, ent))
  have hr := va_runIN (locs := locs) (below := below) (meth := meth) (e := e) (cells := k) (slots := n) (As := []) (rest := st) ⟨hx, hb, hml, ho, hts⟩ (hM H.size) ⟨va_cnB (R := zRm S mc ms) 0 hts (zGood hcode) (by show (Cond.code (zy S2) (zcc S2) (znL S2) (zret S2) :: zT) = _; rw [hret]) rfl rfl (C.2.2.2.2.2.2.2.2.1 _ hlink) (hts _ hini) hok.1 hok.2, hnm, hts _ hin⟩ ⟨zBlindI, fun U hU hW => ⟨zPre [wr.length] (zC_last wr (q, ent)) rfl C hP hD hS [.ref q] U hU hW, va_AO.moved hW.alike hi.2⟩⟩ (g := F0 m pc ls (.ref q :: st)) rfl rfl hl.1 rfl (lv_room hsum) hd ⟨hk, hn⟩
  intro T hT X
  obtain ⟨v, st₀, t, T', L1, h0', X', hL, e1, e2, ⟨⟨w1, hv, hp, hP1, hD1⟩, hz, hk1⟩, stp⟩ := hr T hT X
  cases hv
  rw [h0'] at hz hk1 hD1
  obtain ⟨hP2, hD2⟩ := va_join (wc := [(q, ent)]) (wr := wr) (w1 := w1) hP hD [wr.length] (List.range wr.length) (zC_last wr (q, ent)) (zC_init wr (q, ent)) hnd (fun i hi => by have := List.mem_range.mp hi; simp; omega) hk1 hF hP1 hD1
  have hS' : va_S (va_A wc s.heap.size) s.heap T'.heap (locs ++ L1) := ⟨Nat.le_trans hS.1 (by rw [e1]; exact hz), fun q h1 h2 => by rw [e1, hk1 q (Nat.lt_of_lt_of_le h1 hS.1) (fun z => h2 (hF q z))]; exact hS.2.1 q h1 h2, fun q hq => by
      rcases List.mem_append.mp hq with h | h
      · exact hS.2.2 q h
      · exact hF _ (hL q h)⟩
  obtain ⟨t2, a1, b1⟩ := kk w1 hp p e s m args below meth c C hi T'.heap (locs ++ L1) ls (by rw [e1]; exact hP2) hD2 hS' hl T' rfl X'
  exact ⟨t2, stp t2 a1, b1⟩
end ZN
