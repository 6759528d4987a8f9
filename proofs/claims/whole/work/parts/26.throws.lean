/-! CONTRACTS THAT RETURN OR THROW: CtX; their bodies; throwing; calling them where nothing is caught -/
def CtBX (G : va_G) (cy : ClassId) (ws : va_W) (sz : Nat) : State → Prop := fun U => CtB G cy ws sz U ∧ XS U ∧ XZ (va_A ws sz) U U.heap
def XCf (G : va_G) (ws : va_W) (sz : Nat) (xp : String → va_W → Prop) : String → State → State → Prop := fun E st t => (∃ w1, xp E w1 ∧ va_P G vwCl w1 t.heap ∧ va_D (va_A ws sz) w1) ∧ va_F (va_A ws sz) st t
def CtX (G : va_G) (cy : ClassId) (y : MethodName) (b : ByteArray) (mL : Nat) (ret : Option FieldType) (rm : Room) (mc ms : Nat) (av : List Value) (ws : va_W) (post : Option Value → va_W → Prop) (xp : String → va_W → Prop) : Prop :=
  ∀ (l : Launch) (sz : Nat), l.stackTraces = false → vx_Met l y (ws_ y b mL ret) rm (va_Pc av (CtBX G cy ws sz)) (CtQ G cy ws sz post) (XCf G ws sz xp) mc ms (va_A ws sz)
/-- what is known in the body of such a method -/
def XB (G : va_G) (cy : ClassId) (c : Cx) (mc ms : Nat) (ws0 : va_W) (post : Option Value → va_W → Prop) (xp : String → va_W → Prop) : Prop :=
  match c with
  | (_, l, _, s, _, args, below, meth, cd, Q, A, H0) => Q = vx_MQ below (CtQ G cy ws0 s.heap.size post) (XCf G ws0 s.heap.size xp) args s mc ms (va_A ws0 s.heap.size) ∧ A = va_A ws0 s.heap.size ∧ H0 = s.heap ∧ l.stackTraces = false ∧ XS s ∧ XZ A s s.heap ∧ meth.locks = false ∧ ∀ x ∈ cd.exceptionTable.toList, False
theorem CtBX.blind {G : va_G} {cy : ClassId} {ws : va_W} {sz : Nat} {av : List Value} : FrameBlind (va_Pc av (CtBX G cy ws sz)) := fun a U g mk q => ⟨q.1, ⟨q.2.1.1, q.2.1.2.1, va_K.moved (u := U) (U := U.calling g mk a) (Vm.Alike.refl U.vm) q.2.1.2.2.1, q.2.1.2.2.2⟩, XS.same (u := U) (U := U.calling g mk a) rfl q.2.2.1, ⟨vx_Zq.moved (u := U) (U := U.calling g mk a) (Vm.Alike.refl U.vm) q.2.2.2.1, vx_Zq.moved (u := U) (U := U.calling g mk a) (Vm.Alike.refl U.vm) q.2.2.2.2⟩⟩
section CX
variable {G : va_G} {cy : ClassId} {y : MethodName} {b : ByteArray} {mL : Nat} {ret : Option FieldType} {rm : Room} {mc ms : Nat} {av : List Value} {ws : va_W} {post : Option Value → va_W → Prop} {xp : String → va_W → Prop}
theorem CtX.body (hy : plainName y.cls = true) (hav : (lg_sl av).length ≤ mL)
    (body : ∀ (p : Program) (l : Launch) (e : Env) (s : State) (m : MethodId) (args : Array Value) (below : List Frame) (meth : Method) (cd : Code), meth.sig.returnType = ret → meth.locks = false → Ok G cy (p, l, e, s, m, args, below, meth, cd, vx_MQ below (CtQ G cy ws s.heap.size post) (XCf G ws s.heap.size xp) args s mc ms (va_A ws s.heap.size), va_A ws s.heap.size, s.heap) b y.cls mL rm → XB G cy (p, l, e, s, m, args, below, meth, cd, vx_MQ below (CtQ G cy ws s.heap.size post) (XCf G ws s.heap.size xp) args s mc ms (va_A ws s.heap.size), va_A ws s.heap.size, s.heap) mc ms ws post xp → T G (p, l, e, s, m, args, below, meth, cd, vx_MQ below (CtQ G cy ws s.heap.size post) (XCf G ws s.heap.size xp) args s mc ms (va_A ws s.heap.size), va_A ws s.heap.size, s.heap) rm mL 0 0 ws 0 (lv_args 0 av) []) :
    CtX G cy y b mL ret rm mc ms av ws post xp := by
  intro l sz hl
  refine vx_ofW (cc := b) (maxL := mL) (ret := ret) hy rfl ?_
  intro p e s m args below meth c s₁ B hml ht hv
  obtain ⟨rfl, ⟨hsz, hP, hK, hD0⟩, hXS, hXZ⟩ := hv
  subst hsz
  have hts := atoms_spec (ws := ws_ y b mL ret) B.pre
  rw [lg_entry_eq]
  exact body p l e s m av.toArray below meth c B.returns B.notSynchronized ⟨B.exec, B.bytes, fun w h => hts w (List.mem_cons_of_mem _ h), findClass_of_methodNamed B.named, hml, hK, fun q h => Or.inr h⟩ ⟨rfl, rfl, rfl, hl, hXS, hXZ, B.notSynchronized, ht⟩ s.heap [] _ hP hD0.self va_S.rf (lv_entry av hav)
theorem CtX.ofI (hy : plainName y.cls = true) (hav : (lg_sl av).length ≤ mL) {own : String} (ho : y.cls = own) {ty : FieldType} (hret : ret = some ty) (hn : ∀ x w1, post (some (.int x)) w1 → narrow ty (.int x) = .int x)
    (body : ∀ c : Cx, Ok G cy c b own mL rm → XB G cy c mc ms ws post xp → RetI G c rm mL mc ms b post → T G c rm mL 0 0 ws 0 (lv_args 0 av) []) : CtX G cy y b mL ret rm mc ms av ws post xp := by
  subst ho; subst hret
  refine CtX.body hy hav (fun p l e s m args below meth cd hr hlo X B => body _ X B ?_)
  intro pc lv x w1 d hpost H locs ls hP hD hS hl
  exact vx_ret (W.zret X.1 X.2.1 hr (hn x w1 hpost) (fun t ht _ => ⟨⟨_, w1, rfl, hpost, by rw [ht]; exact hP, hD⟩, hS.F ht⟩) hS.2.2 d hlo)
theorem CtX.ofV (hy : plainName y.cls = true) (hav : (lg_sl av).length ≤ mL) {own : String} (ho : y.cls = own) (hret : ret = none)
    (body : ∀ c : Cx, Ok G cy c b own mL rm → XB G cy c mc ms ws post xp → RetV G c rm mL mc ms b post → T G c rm mL 0 0 ws 0 (lv_args 0 av) []) : CtX G cy y b mL ret rm mc ms av ws post xp := by
  subst ho; subst hret
  refine CtX.body hy hav (fun p l e s m args below meth cd hr hlo X B => body _ X B ?_)
  intro pc lv w1 d hpost H locs ls hP hD hS hl
  exact vx_ret (W.vret X.1 X.2.1 hr (fun t ht _ => ⟨⟨_, w1, rfl, hpost, by rw [ht]; exact hP, hD⟩, hS.F ht⟩) hS.2.2 d hlo)
end CX
section TX
variable {G : va_G} {cy : ClassId} {c : Cx} {cc : ByteArray} {nL : Nat} {R : Room} {k n : Nat} {ws : va_W} {pc : Nat} {lv : List (Nat × Value)} {st : List Value}
variable {mc0 ms0 : Nat} {ws0 : va_W} {post0 : Option Value → va_W → Prop} {xp0 : String → va_W → Prop}
/-- throw new E("text") in the class -/
theorem tx_throw (X : Ok G cy c cc RX4 nL R) (B : XB G cy c mc0 ms0 ws0 post0 xp0) {E tx : String} {ik is ic : Nat} (hE : ThI E ik ic) (htx : (is, tx) ∈ txE) (d0 : decode cc pc = .ok (.new ik, 3)) (d3 : decode cc (pc + 3) = .ok (.dup, 1)) (d4 : decode cc (pc + 4) = .ok (.ldc is, 2)) (d6 : decode cc (pc + 6) = .ok (.invokespecial ic, 3)) (d9 : decode cc (pc + 9) = .ok (.athrow, 1))
    (hRf : 5 < R.frames) (hRl : (st.map fun v => v.category).sum + 82 ≤ R.locals) (hRk : k + 1 ≤ R.cells) (hRn : n + 6 ≤ R.slots) (hk : k + 1 ≤ mc0) (hn : n + 6 ≤ ms0) (hx : xp0 E ws) : T G c R nL k n ws pc lv st := by
  obtain ⟨p, l, e, s, m, args, below, meth, cd, Q, A, H0⟩ := c
  obtain ⟨rfl, rfl, rfl, hl, hXS, hXZ, hlo, ht⟩ := B
  obtain ⟨hx9, hb, hts, hown, hml, hK, hA⟩ := X
  obtain ⟨g1, g2, g3, g4, g5⟩ := hE
  obtain ⟨sa, hsa⟩ := hXS.2.1 _ htx
  intro H locs ls hP hD hS hlv
  refine vx_throwS (names := upE) (A := va_A ws0 s.heap.size) hx9 hb hl hown g3 (by decide +kernel) (hts _ g1) (hts _ g2) hsa (fun w hw => (g4 w hw).elim (fun h => hts w h) (fun h => va_Nw.use (onT w h) (hXS.1 w h))) g5 hXZ.1 hXZ.2 hS (hlv.1.trans hml.symm) d0 d3 d4 d6 d9 (fun x h => (ht x h).elim) hRf hRl hRk hRn hlo (fun t _ hz hk9 => ⟨⟨ws, hx, hP.kept (fun j x hj => hk9 x.1 ((hP j x hj).lt)), hD⟩, Nat.le_trans hS.1 hz, fun q h1 h2 => (hk9 q (Nat.lt_of_lt_of_le h1 hS.1)).trans (hS.2.1 q h1 h2)⟩) hS.2.2 hk hn
where
  onT : ∀ w ∈ nbE, w.onTables = true := XS.all (fun _ _ _ => rfl) (fun _ _ => rfl)
variable {own : String} {y : MethodName} {b : ByteArray} {mL : Nat} {ret : Option FieldType} {rm : Room} {mc ms : Nat} {post : Option Value → va_W → Prop} {xp : String → va_W → Prop}
/-- a call of what may throw, where nothing is caught -/
theorem tx_callV (X : Ok G cy c cc own nL R) (B : XB G cy c mc0 ms0 ws0 post0 xp0) {C : String} {idx np : Nat} {a : Nat} {As : List Value} {ws1 : va_W} (hV : VW own idx C y b mL ret np) (hM : CtX G cy y b mL ret rm mc ms (.ref a :: As) ws1 post xp) {st0 : List Value} (Y Z : va_W) (hws : ws = Y ++ (ws1 ++ Z)) (hst : st0 = As.reverse ++ .ref a :: st)
    {q0 ci : Nat} {fs : List Value} {TF : u_T} {N : Nat} (he : ws1[q0]? = some (a, .inr (ci, fs))) (hc : vwCl[ci]? = some (C, TF, N)) (hnp : As.length = np) (hR : rm.cells = mc ∧ rm.slots = ms ∧ rm.frames + 1 ≤ R.frames ∧ 8 + (mL + 11) + rm.locals ≤ R.locals) (hk : k + mc ≤ R.cells ∧ n + ms ≤ R.slots) (hcat : (st.map fun v => v.category).sum ≤ 8)
    (d : decode cc pc = .ok (.invokevirtual idx, 3)) (hmc : k + mc ≤ mc0 ∧ n + ms ≤ ms0) (hxp : ∀ E w1, xp E w1 → xp0 E (Y ++ (w1 ++ Z))) (kk : ∀ (v : Option Value) (w1 : va_W), post v w1 → T G c R nL (k + mc) (n + ms) (Y ++ (w1 ++ Z)) (pc + 3) lv (v.toList ++ st)) : T G c R nL k n ws pc lv st0 := by
  subst hws; subst hst; subst hnp
  obtain ⟨p, l, e, s, m, args, below, meth, cd, Q, A, H0⟩ := c
  obtain ⟨rfl, rfl, rfl, hl9, hXS, hXZ, hlo, ht⟩ := B
  obtain ⟨hx, hb, hts, hown, hml, hK, hA⟩ := X
  obtain ⟨v1, v2, v3, v4, v5, v6, v7, v8, v9⟩ := hV
  subst v6
  intro H locs ls hP hD hS hl
  have hPc := segP hP
  have hDc := segD hD
  have hF := seg_free hD hS hA
  have hG : GoodIn lwA (ws_ y b mL ret) := ws_good v5
  have cw : CallW R s args own y.cls idx y b mL ret (ws_ y b mL ret) rm mc ms As.length := ⟨callB_of As.length hts hG rfl hR.1 hR.2.1 (hts _ v4) (hts _ v1) ⟨v7, v8, v9⟩ ⟨hR.2.2.1, hR.2.2.2⟩, hts _ v2, hts _ v3⟩
  have run := vx_runV (l := l) (e := e) (below := below) (meth := meth) (locs := locs) (g := F0 m pc ls (As.reverse ++ .ref a :: st)) (As := As) (rest := st) ⟨hx, hb, hml, hown, hts⟩ (hM l H.size hl9) cw ⟨CtBX.blind, va_recv hK hPc hc he, fun U hU hW => ⟨rfl, ⟨by rw [hU], by rw [hU]; exact hPc, va_K.moved hW.alike hK, hDc.weaken (fun _ _ _ _ => trivial)⟩, hXS.warm hW, by rw [hU]; exact hXZ.to hS hF hW.alike⟩⟩ rfl rfl hl.1 rfl (lv_room hcat) d hk
  intro T0 hT0 X0
  rcases run T0 hT0 X0 with ⟨v, st₀, t, T', L, h0, X', hL, e1, e2, ⟨⟨v', w1, hv, hp, hP1, hD1⟩, hz, hkp⟩, go⟩ | ⟨q, st₀, t, T', L, E, ce, h0, X', hL, e1, e2, ⟨⟨w1, hp, hP1, hD1⟩, hz, hkp⟩, hce, hcv, hcl, go⟩
  · cases hv
    rw [h0] at hz hkp
    have hkp' : ∀ q : Nat, q < H.size → ¬ va_A ws1 H.size q → T'.heap[q]? = H[q]? := fun q h1 h2 => by rw [e1]; exact hkp q h1 h2
    have hz' : H.size ≤ T'.heap.size := by rw [e1]; exact hz
    rw [← e1] at hP1
    obtain ⟨hP2, hD2⟩ := seg_join hP hD hF hkp' hP1 hD1
    have hS2 : va_S (va_A ws0 s.heap.size) s.heap T'.heap (locs ++ L) := ⟨Nat.le_trans hS.1 hz', fun q h1 h2 => by
      rw [hkp' q (Nat.lt_of_lt_of_le h1 hS.1) (fun z => h2 (hF q z))]; exact hS.2.1 q h1 h2, fun q hq => by
      rcases List.mem_append.mp hq with h | h
      · exact hS.2.2 q h
      · exact hF _ (hL q h)⟩
    obtain ⟨t2, a1, b1⟩ := kk v w1 hp T'.heap (locs ++ L) ls hP2 hD2 hS2 hl T' rfl X'
    exact ⟨t2, go t2 a1, b1⟩
  · rw [h0] at hz hkp
    have hkp' : ∀ q : Nat, q < H.size → ¬ va_A ws1 H.size q → T'.heap[q]? = H[q]? := fun q h1 h2 => by rw [e1]; exact hkp q h1 h2
    have hz' : H.size ≤ T'.heap.size := by rw [e1]; exact hz
    rw [← e1] at hP1
    obtain ⟨hP2, hD2⟩ := seg_join hP hD hF hkp' hP1 hD1
    have hS2 : va_S (va_A ws0 s.heap.size) s.heap T'.heap (locs ++ L) := ⟨Nat.le_trans hS.1 hz', fun q h1 h2 => by
      rw [hkp' q (Nat.lt_of_lt_of_le h1 hS.1) (fun z => h2 (hF q z))]; exact hS.2.1 q h1 h2, fun q hq => by
      rcases List.mem_append.mp hq with h | h
      · exact hS.2.2 q h
      · exact hF _ (hL q h)⟩
    rw [← e1] at hce
    obtain ⟨t2, a1, b1⟩ := vx_out (Qc := CtQ G cy ws0 s.heap.size post0) (XC := XCf G ws0 s.heap.size xp0) (pc := pc) (ls := ls) (rest := st) (mc := mc0) (ms := ms0) (free := va_A ws0 s.heap.size) (fun x h => (ht x h).elim) hlo hce hcv hcl (fun t9 h9 _ => ⟨⟨_, hxp E w1 hp, by rw [h9]; exact hP2, hD2⟩, hS2.F h9⟩) hS2.2.2 hmc.1 hmc.2 T' rfl X'
    exact ⟨t2, go.trans a1, b1⟩
end TX
