/-! CONTRACTS over T: Ct (a method that returns), its body, and calling it; the frame rule by segments: ws = Y ++ (ws1 ++ Z) -/
theorem seg_get {Y w Z : va_W} {i : Nat} {q : Nat × va_E} (h : (Y ++ (w ++ Z))[i]? = some q) : (i < Y.length ∧ Y[i]? = some q) ∨ (Y.length ≤ i ∧ i < Y.length + w.length ∧ w[i - Y.length]? = some q) ∨ (Y.length + w.length ≤ i ∧ Z[i - Y.length - w.length]? = some q) := by
  rw [List.getElem?_append] at h
  split at h
  · exact Or.inl ⟨by assumption, h⟩
  · rw [List.getElem?_append] at h
    split at h
    · exact Or.inr (Or.inl ⟨by omega, by omega, h⟩)
    · exact Or.inr (Or.inr ⟨by omega, h⟩)
theorem seg_Y {Y w Z : va_W} {i : Nat} {q : Nat × va_E} (h : Y[i]? = some q) : (Y ++ (w ++ Z))[i]? = some q := by
  have hl := (List.getElem?_eq_some_iff.mp h).1
  rw [List.getElem?_append_left hl]; exact h
theorem seg_w {Y w Z : va_W} {i : Nat} {q : Nat × va_E} (h : w[i]? = some q) : (Y ++ (w ++ Z))[Y.length + i]? = some q := by
  have hl := (List.getElem?_eq_some_iff.mp h).1
  rw [List.getElem?_append_right (by omega), show Y.length + i - Y.length = i by omega, List.getElem?_append_left hl]; exact h
theorem seg_Z {Y w Z : va_W} {i : Nat} {q : Nat × va_E} (h : Z[i]? = some q) : (Y ++ (w ++ Z))[Y.length + (w.length + i)]? = some q := by
  rw [List.getElem?_append_right (by omega), show Y.length + (w.length + i) - Y.length = w.length + i by omega, List.getElem?_append_right (by omega), show w.length + i - w.length = i by omega]; exact h
theorem segP {G : va_G} {Y w Z : va_W} {H : Heap} (h : va_P G vwCl (Y ++ (w ++ Z)) H) : va_P G vwCl w H := fun _ q hq => h _ q (seg_w hq)
theorem segD {A : Nat → Prop} {Y w Z : va_W} (h : va_D A (Y ++ (w ++ Z))) : va_D A w := ⟨fun i j p q hp hq e => by
  have := h.1 _ _ p q (seg_w hp) (seg_w hq) e
  omega, fun _ q hq => h.2 _ q (seg_w hq)⟩
/-- behind a call: the segment's new cells beside the rest, which is unchanged -/
theorem seg_join {G : va_G} {A : Nat → Prop} {Y w w1 Z : va_W} {H H1 : Heap} (hP : va_P G vwCl (Y ++ (w ++ Z)) H) (hD : va_D A (Y ++ (w ++ Z))) (hF : ∀ q, va_A w H.size q → A q)
    (hk : ∀ q : Nat, q < H.size → ¬ va_A w H.size q → H1[q]? = H[q]?) (hP1 : va_P G vwCl w1 H1) (hD1 : va_D (va_A w H.size) w1) : va_P G vwCl (Y ++ (w1 ++ Z)) H1 ∧ va_D A (Y ++ (w1 ++ Z)) := by
  have off : ∀ (i : Nat) (q : Nat × va_E), (Y ++ (w ++ Z))[i]? = some q → (i < Y.length ∨ Y.length + w.length ≤ i) → q.1 < H.size ∧ ¬ va_A w H.size q.1 := by
    intro i q hq hi
    have hl := (hP i q hq).lt
    refine ⟨hl, fun h => ?_⟩
    rcases h with ⟨k2, e, h⟩ | h
    · have h4 := (List.getElem?_eq_some_iff.mp h).1
      have := hD.1 i _ q (q.1, e) hq (seg_w h) rfl
      omega
    · omega
  have key : ∀ (i : Nat) (q : Nat × va_E), (Y ++ (w1 ++ Z))[i]? = some q → (Y.length ≤ i ∧ i < Y.length + w1.length ∧ w1[i - Y.length]? = some q) ∨ (∃ j, (Y ++ (w ++ Z))[j]? = some q ∧ ((i < Y.length ∧ j = i) ∨ (Y.length + w1.length ≤ i ∧ j = i - w1.length + w.length))) := by
    intro i q hq
    rcases seg_get hq with ⟨h1, h2⟩ | h | ⟨h1, h2⟩
    · exact Or.inr ⟨i, seg_Y h2, Or.inl ⟨h1, rfl⟩⟩
    · exact Or.inl h
    · refine Or.inr ⟨Y.length + (w.length + (i - Y.length - w1.length)), seg_Z h2, Or.inr ⟨h1, by omega⟩⟩
  refine ⟨fun i q hq => ?_, fun i j p q hp hq e => ?_, fun i q hq => ?_⟩
  · rcases key i q hq with ⟨-, -, h⟩ | ⟨j, h, hj⟩
    · exact hP1 _ q h
    · obtain ⟨g1, g2⟩ := off j q h (by omega)
      exact (hP j q h).kept (hk q.1 g1 g2)
  · rcases key i p hp with ⟨a1, a2, a3⟩ | ⟨i', a1, a2⟩ <;> rcases key j q hq with ⟨b1, b2, b3⟩ | ⟨j', b1, b2⟩
    · have := hD1.1 _ _ p q a3 b3 e
      omega
    · have g := (off j' q b1 (by omega)).2
      rw [← e] at g
      exact absurd (hD1.2 _ p a3) g
    · have g := (off i' p a1 (by omega)).2
      rw [e] at g
      exact absurd (hD1.2 _ q b3) g
    · have := hD.1 i' j' p q a1 b1 e
      omega
  · rcases key i q hq with ⟨-, -, h⟩ | ⟨j, h, -⟩
    · exact hF _ (hD1.2 _ q h)
    · exact hD.2 _ q h
theorem seg_free {A : Nat → Prop} {Y w Z : va_W} {H0 H : Heap} {locs : List Loc} (hD : va_D A (Y ++ (w ++ Z))) (hS : va_S A H0 H locs) (hA : ∀ q, H0.size ≤ q → A q) : ∀ q, va_A w H.size q → A q := by
  intro q h
  rcases h with ⟨k, e, h⟩ | h
  · exact hD.2 _ (q, e) (seg_w h)
  · exact hA q (Nat.le_trans hS.1 h)
/-- what is at a method's start, and its contract: from the cells ws to the cells w1 with 'post answer w1' -/
def CtB (G : va_G) (cy : ClassId) (ws : va_W) (sz : Nat) : State → Prop := fun U => U.heap.size = sz ∧ va_P G vwCl ws U.heap ∧ va_K G vwCl (tyl G cy) U ∧ va_D (fun _ => True) ws
def CtQ (G : va_G) (cy : ClassId) (ws : va_W) (sz : Nat) (post : Option Value → va_W → Prop) : Array Value → State → Outcome → State → Prop := fun _ st oc t => (∃ (v : Option Value) (w1 : va_W), oc = .returned v ∧ post v w1 ∧ va_P G vwCl w1 t.heap ∧ va_D (va_A ws sz) w1) ∧ va_F (va_A ws sz) st t
def Ct (G : va_G) (cy : ClassId) (y : MethodName) (b : ByteArray) (mL : Nat) (ret : Option FieldType) (rm : Room) (mc ms : Nat) (av : List Value) (ws : va_W) (post : Option Value → va_W → Prop) : Prop :=
  ∀ (l : Launch) (sz : Nat), Met l y (ws_ y b mL ret) rm (va_Pc av (CtB G cy ws sz)) (CtQ G cy ws sz post) mc ms (va_A ws sz)
/-- a method's own end, of each kind of answer -/
def RetI (G : va_G) (c : Cx) (R : Room) (nL mc ms : Nat) (cc : ByteArray) (post : Option Value → va_W → Prop) : Prop := ∀ (pc : Nat) (lv : List (Nat × Value)) (x : Int32) (w1 : va_W), decode cc pc = .ok (.ireturn, 1) → post (some (.int x)) w1 → T G c R nL mc ms w1 pc lv [.int x]
def RetV (G : va_G) (c : Cx) (R : Room) (nL mc ms : Nat) (cc : ByteArray) (post : Option Value → va_W → Prop) : Prop := ∀ (pc : Nat) (lv : List (Nat × Value)) (w1 : va_W), decode cc pc = .ok (.return_, 1) → post none w1 → T G c R nL mc ms w1 pc lv []
def RetL (G : va_G) (c : Cx) (R : Room) (nL mc ms : Nat) (cc : ByteArray) (post : Option Value → va_W → Prop) : Prop := ∀ (pc : Nat) (lv : List (Nat × Value)) (x : Int64) (w1 : va_W), decode cc pc = .ok (.lreturn, 1) → post (some (.long x)) w1 → T G c R nL mc ms w1 pc lv [.long x]
def RetD (G : va_G) (c : Cx) (R : Room) (nL mc ms : Nat) (cc : ByteArray) (post : Option Value → va_W → Prop) : Prop := ∀ (pc : Nat) (lv : List (Nat × Value)) (x : UInt64) (w1 : va_W), decode cc pc = .ok (.dreturn, 1) → post (some (.double x)) w1 → T G c R nL mc ms w1 pc lv [.double x]
section CO
variable {G : va_G} {cy : ClassId} {y : MethodName} {b : ByteArray} {mL : Nat} {ret : Option FieldType} {rm : Room} {mc ms : Nat} {av : List Value} {ws : va_W} {post : Option Value → va_W → Prop}
/-- the body of a method, to its own end: the general form -/
theorem Ct.body (hy : plainName y.cls = true) (hav : (lg_sl av).length ≤ mL)
    (body : ∀ (p : Program) (l : Launch) (e : Env) (s : State) (m : MethodId) (args : Array Value) (below : List Frame) (meth : Method) (cd : Code), meth.sig.returnType = ret → meth.locks = false → (y.name = "<init>" → meth.name = "<init>") → Ok G cy (p, l, e, s, m, args, below, meth, cd, MQ below (CtQ G cy ws s.heap.size post) args s mc ms (va_A ws s.heap.size), va_A ws s.heap.size, s.heap) b y.cls mL rm → T G (p, l, e, s, m, args, below, meth, cd, MQ below (CtQ G cy ws s.heap.size post) args s mc ms (va_A ws s.heap.size), va_A ws s.heap.size, s.heap) rm mL 0 0 ws 0 (lv_args 0 av) []) :
    Ct G cy y b mL ret rm mc ms av ws post := by
  intro l sz
  refine Met.ofW (cc := b) (maxL := mL) (ret := ret) hy rfl ?_
  intro p e s m args below meth c s₁ B hml hv
  obtain ⟨rfl, hsz, hP, hK, hD0⟩ := hv
  subst hsz
  have hts := atoms_spec (ws := ws_ y b mL ret) B.pre
  rw [lg_entry_eq]
  refine body p l e s m av.toArray below meth c B.returns B.notSynchronized (fun hn => (name_of_methodNamed B.named B.method).1.trans hn) ⟨B.exec, B.bytes, fun w h => hts w (List.mem_cons_of_mem _ h), findClass_of_methodNamed B.named, hml, hK, fun q h => Or.inr h⟩ s.heap [] _ hP hD0.self va_S.rf (lv_entry av hav)
theorem Ct.ofI (hy : plainName y.cls = true) (hav : (lg_sl av).length ≤ mL) {own : String} (ho : y.cls = own) {ty : FieldType} (hret : ret = some ty) (hn : ∀ x w1, post (some (.int x)) w1 → narrow ty (.int x) = .int x)
    (body : ∀ c : Cx, Ok G cy c b own mL rm → RetI G c rm mL mc ms b post → T G c rm mL 0 0 ws 0 (lv_args 0 av) []) : Ct G cy y b mL ret rm mc ms av ws post := by
  subst ho; subst hret
  refine Ct.body hy hav (fun p l e s m args below meth cd hr hlo _ X => body _ X ?_)
  intro pc lv x w1 d hpost H locs ls hP hD hS hl
  exact W.zret X.1 X.2.1 hr (hn x w1 hpost) (fun t ht _ => ⟨⟨_, w1, rfl, hpost, by rw [ht]; exact hP, hD⟩, hS.F ht⟩) hS.2.2 d hlo
theorem Ct.ofV (hy : plainName y.cls = true) (hav : (lg_sl av).length ≤ mL) {own : String} (ho : y.cls = own) (hret : ret = none)
    (body : ∀ c : Cx, Ok G cy c b own mL rm → RetV G c rm mL mc ms b post → T G c rm mL 0 0 ws 0 (lv_args 0 av) []) : Ct G cy y b mL ret rm mc ms av ws post := by
  subst ho; subst hret
  refine Ct.body hy hav (fun p l e s m args below meth cd hr hlo _ X => body _ X ?_)
  intro pc lv w1 d hpost H locs ls hP hD hS hl
  exact W.vret X.1 X.2.1 hr (fun t ht _ => ⟨⟨_, w1, rfl, hpost, by rw [ht]; exact hP, hD⟩, hS.F ht⟩) hS.2.2 d hlo
theorem Ct.ofL (hy : plainName y.cls = true) (hav : (lg_sl av).length ≤ mL) {own : String} (ho : y.cls = own) (hret : ret = some .long)
    (body : ∀ c : Cx, Ok G cy c b own mL rm → RetL G c rm mL mc ms b post → T G c rm mL 0 0 ws 0 (lv_args 0 av) []) : Ct G cy y b mL ret rm mc ms av ws post := by
  subst ho; subst hret
  refine Ct.body hy hav (fun p l e s m args below meth cd hr hlo _ X => body _ X ?_)
  intro pc lv x w1 d hpost H locs ls hP hD hS hl
  exact W.lret X.1 X.2.1 hr (fun t ht _ => ⟨⟨_, w1, rfl, hpost, by rw [ht]; exact hP, hD⟩, hS.F ht⟩) hS.2.2 d hlo
theorem Ct.ofD (hy : plainName y.cls = true) (hav : (lg_sl av).length ≤ mL) {own : String} (ho : y.cls = own) (hret : ret = some .double)
    (body : ∀ c : Cx, Ok G cy c b own mL rm → RetD G c rm mL mc ms b post → T G c rm mL 0 0 ws 0 (lv_args 0 av) []) : Ct G cy y b mL ret rm mc ms av ws post := by
  subst ho; subst hret
  refine Ct.body hy hav (fun p l e s m args below meth cd hr hlo _ X => body _ X ?_)
  intro pc lv x w1 d hpost H locs ls hP hD hS hl
  exact W.dret X.1 X.2.1 hr (fun t ht _ => ⟨⟨_, w1, rfl, hpost, by rw [ht]; exact hP, hD⟩, hS.F ht⟩) hS.2.2 d hlo
theorem Ct.weak {post' : Option Value → va_W → Prop} (h : Ct G cy y b mL ret rm mc ms av ws post) (hp : ∀ v w1, post v w1 → post' v w1) : Ct G cy y b mL ret rm mc ms av ws post' := by
  intro l sz
  intro p e ha hc hk s m args below hf happ hpre hkk
  obtain ⟨k, o, h1, h2, h3, ⟨⟨v, w1, q1, q2, q3⟩, q4⟩, q5⟩ := h l sz p e ha hc hk s m args below hf happ hpre hkk
  exact ⟨k, o, h1, h2, h3, ⟨⟨v, w1, q1, hp v w1 q2, q3⟩, q4⟩, q5⟩
end CO
/-- the words of a call: link, kind, code; and what its descriptor says -/
def VW (own : String) (idx : Nat) (C : String) (y : MethodName) (b : ByteArray) (mL : Nat) (ret : Option FieldType) (np : Nat) : Prop := Cond.methodLink own idx y ∈ lwA ∧ Cond.instanceMethod y ∈ lwA ∧ Cond.selects C y y ∈ lwA ∧ Cond.initialized C ∈ lwA ∧ Cond.code y b mL ret ∈ lwA ∧ y.cls = C ∧ y.cls ≠ "java/lang/invoke/MethodHandle" ∧ y.cls ≠ "java/lang/invoke/VarHandle" ∧ (parseMethodDescriptor y.desc).map (fun d => d.parameters.length) = some np
def SW (own : String) (idx : Nat) (y : MethodName) (b : ByteArray) (mL : Nat) (ret : Option FieldType) (np : Nat) : Prop := Cond.methodLink own idx y ∈ lwA ∧ Cond.static y ∈ lwA ∧ Cond.initialized y.cls ∈ lwA ∧ Cond.code y b mL ret ∈ lwA ∧ y.cls ≠ "java/lang/invoke/MethodHandle" ∧ y.cls ≠ "java/lang/invoke/VarHandle" ∧ (parseMethodDescriptor y.desc).map (fun d => d.parameters.length) = some np
theorem CtB.blind {G : va_G} {cy : ClassId} {ws : va_W} {sz : Nat} {av : List Value} : FrameBlind (va_Pc av (CtB G cy ws sz)) := fun a U g mk q => ⟨q.1, q.2.1, q.2.2.1, va_K.moved (u := U) (U := U.calling g mk a) (Vm.Alike.refl U.vm) q.2.2.2.1, q.2.2.2.2⟩
section CA
variable {G : va_G} {cy : ClassId} {c : Cx} {cc : ByteArray} {own : String} {nL : Nat} {R : Room} {k n : Nat} {ws : va_W} {pc : Nat} {lv : List (Nat × Value)} {st : List Value}
variable {y : MethodName} {b : ByteArray} {mL : Nat} {ret : Option FieldType} {rm : Room} {mc ms : Nat} {post : Option Value → va_W → Prop}
theorem tw_callV (X : Ok G cy c cc own nL R) {C : String} {idx np : Nat} {a : Nat} {As : List Value} {ws1 : va_W} (hV : VW own idx C y b mL ret np) (hM : Ct G cy y b mL ret rm mc ms (.ref a :: As) ws1 post) {st0 : List Value} (Y Z : va_W) (hws : ws = Y ++ (ws1 ++ Z)) (hst : st0 = As.reverse ++ .ref a :: st)
    {q0 ci : Nat} {fs : List Value} {TF : u_T} {N : Nat} (he : ws1[q0]? = some (a, .inr (ci, fs))) (hc : vwCl[ci]? = some (C, TF, N)) (hnp : As.length = np) (hR : rm.cells = mc ∧ rm.slots = ms ∧ rm.frames + 1 ≤ R.frames ∧ 8 + (mL + 11) + rm.locals ≤ R.locals) (hk : k + mc ≤ R.cells ∧ n + ms ≤ R.slots) (hcat : (st.map fun v => v.category).sum ≤ 8)
    (d : decode cc pc = .ok (.invokevirtual idx, 3)) (kk : ∀ (v : Option Value) (w1 : va_W), post v w1 → T G c R nL (k + mc) (n + ms) (Y ++ (w1 ++ Z)) (pc + 3) lv (v.toList ++ st)) : T G c R nL k n ws pc lv st0 := by
  subst hws; subst hst; subst hnp
  obtain ⟨p, l, e, s, m, args, below, meth, cd, Q, A, H0⟩ := c
  obtain ⟨hx, hb, hts, hown, hml, hK, hA⟩ := X
  obtain ⟨v1, v2, v3, v4, v5, v6, v7, v8, v9⟩ := hV
  subst v6
  intro H locs ls hP hD hS hl
  have hPc := segP hP
  have hDc := segD hD
  have hF := seg_free hD hS hA
  have hG : GoodIn lwA (ws_ y b mL ret) := ws_good v5
  have cw : CallW R s args own y.cls idx y b mL ret (ws_ y b mL ret) rm mc ms As.length := ⟨callB_of As.length hts hG rfl hR.1 hR.2.1 (hts _ v4) (hts _ v1) ⟨v7, v8, v9⟩ ⟨hR.2.2.1, hR.2.2.2⟩, hts _ v2, hts _ v3⟩
  have run := va_runV (l := l) (e := e) (below := below) (meth := meth) (locs := locs) (g := F0 m pc ls (As.reverse ++ .ref a :: st)) (As := As) (rest := st) ⟨hx, hb, hml, hown, hts⟩ (hM l H.size) cw ⟨CtB.blind, va_recv hK hPc hc he, fun U hU hW => ⟨rfl, by rw [hU], by rw [hU]; exact hPc, va_K.moved hW.alike hK, hDc.weaken (fun _ _ _ _ => trivial)⟩⟩ rfl rfl hl.1 rfl (lv_room hcat) d hk
  intro T0 hT0 X0
  obtain ⟨v, st₀, t, T', L, h0, X', hL, e1, e2, ⟨⟨v', w1, hv, hp, hP1, hD1⟩, hz, hkp⟩, go⟩ := run T0 hT0 X0
  cases hv
  rw [h0] at hz hkp
  have hkp' : ∀ q : Nat, q < H.size → ¬ va_A ws1 H.size q → T'.heap[q]? = H[q]? := fun q h1 h2 => by rw [e1]; exact hkp q h1 h2
  have hz' : H.size ≤ T'.heap.size := by rw [e1]; exact hz
  rw [← e1] at hP1
  obtain ⟨hP2, hD2⟩ := seg_join hP hD hF hkp' hP1 hD1
  have hS2 : va_S A H0 T'.heap (locs ++ L) := ⟨Nat.le_trans hS.1 hz', fun q h1 h2 => by
    rw [hkp' q (Nat.lt_of_lt_of_le h1 hS.1) (fun z => h2 (hF q z))]; exact hS.2.1 q h1 h2, fun q hq => by
    rcases List.mem_append.mp hq with h | h
    · exact hS.2.2 q h
    · exact hF _ (hL q h)⟩
  obtain ⟨t2, a1, b1⟩ := kk v w1 hp T'.heap (locs ++ L) ls hP2 hD2 hS2 hl T' rfl X'
  exact ⟨t2, go t2 a1, b1⟩
theorem tw_callS (X : Ok G cy c cc own nL R) {idx np : Nat} {As : List Value} {ws1 : va_W} (hV : SW own idx y b mL ret np) (hM : Ct G cy y b mL ret rm mc ms As ws1 post) {st0 : List Value} (Y Z : va_W) (hws : ws = Y ++ (ws1 ++ Z)) (hst : st0 = As.reverse ++ st)
    (hnp : As.length = np) (hR : rm.cells = mc ∧ rm.slots = ms ∧ rm.frames + 1 ≤ R.frames ∧ 8 + (mL + 11) + rm.locals ≤ R.locals) (hk : k + mc ≤ R.cells ∧ n + ms ≤ R.slots) (hcat : (st.map fun v => v.category).sum ≤ 8)
    (d : decode cc pc = .ok (.invokestatic idx, 3)) (kk : ∀ (v : Option Value) (w1 : va_W), post v w1 → T G c R nL (k + mc) (n + ms) (Y ++ (w1 ++ Z)) (pc + 3) lv (v.toList ++ st)) : T G c R nL k n ws pc lv st0 := by
  subst hws; subst hst; subst hnp
  obtain ⟨p, l, e, s, m, args, below, meth, cd, Q, A, H0⟩ := c
  obtain ⟨hx, hb, hts, hown, hml, hK, hA⟩ := X
  obtain ⟨v1, v2, v4, v5, v7, v8, v9⟩ := hV
  intro H locs ls hP hD hS hl
  have hPc := segP hP
  have hDc := segD hD
  have hF := seg_free hD hS hA
  have hG : GoodIn lwA (ws_ y b mL ret) := ws_good v5
  have cw : CallB R s args own idx y b mL ret (ws_ y b mL ret) rm mc ms As.length ∧ (Cond.static y).before args s = true := ⟨callB_of As.length hts hG rfl hR.1 hR.2.1 (hts _ v4) (hts _ v1) ⟨v7, v8, v9⟩ ⟨hR.2.2.1, hR.2.2.2⟩, hts _ v2⟩
  have run := va_runS (l := l) (e := e) (below := below) (meth := meth) (locs := locs) (g := F0 m pc ls (As.reverse ++ st)) (As := As) (rest := st) ⟨hx, hb, hml, hown, hts⟩ (hM l H.size) cw ⟨CtB.blind, fun U hU hW => ⟨rfl, by rw [hU], by rw [hU]; exact hPc, va_K.moved hW.alike hK, hDc.weaken (fun _ _ _ _ => trivial)⟩⟩ rfl rfl hl.1 rfl (lv_room hcat) d hk
  intro T0 hT0 X0
  obtain ⟨v, st₀, t, T', L, h0, X', hL, e1, e2, ⟨⟨v', w1, hv, hp, hP1, hD1⟩, hz, hkp⟩, go⟩ := run T0 hT0 X0
  cases hv
  rw [h0] at hz hkp
  have hkp' : ∀ q : Nat, q < H.size → ¬ va_A ws1 H.size q → T'.heap[q]? = H[q]? := fun q h1 h2 => by rw [e1]; exact hkp q h1 h2
  have hz' : H.size ≤ T'.heap.size := by rw [e1]; exact hz
  rw [← e1] at hP1
  obtain ⟨hP2, hD2⟩ := seg_join hP hD hF hkp' hP1 hD1
  have hS2 : va_S A H0 T'.heap (locs ++ L) := ⟨Nat.le_trans hS.1 hz', fun q h1 h2 => by
    rw [hkp' q (Nat.lt_of_lt_of_le h1 hS.1) (fun z => h2 (hF q z))]; exact hS.2.1 q h1 h2, fun q hq => by
    rcases List.mem_append.mp hq with h | h
    · exact hS.2.2 q h
    · exact hF _ (hL q h)⟩
  obtain ⟨t2, a1, b1⟩ := kk v w1 hp T'.heap (locs ++ L) ls hP2 hD2 hS2 hl T' rfl X'
  exact ⟨t2, go t2 a1, b1⟩
theorem tw_max (X : Ok G cy c cc own nL R) {idx : Nat} {a b z : Int} (ha : In a) (hb9 : In b) (h1 : Cond.methodLink own idx Lib.Math.max.name ∈ lwA) (h2 : Cond.static Lib.Math.max.name ∈ lwA) (h3 : Cond.initialized "java/lang/Math" ∈ lwA) (h4 : Cond.code Lib.Math.max.name Lib.Math.max.code 2 (some .int) ∈ lwA) (hf : 1 ≤ R.frames) (hlo : (st.map fun v => v.category).sum + 13 ≤ R.locals) (hk : k ≤ R.cells ∧ n ≤ R.slots) (d : decode cc pc = .ok (.invokestatic idx, 3)) (hz : (if a < b then b else a) = z) (kk : T G c R nL k n ws (pc + 3) lv (.int (enc z) :: st)) : T G c R nL k n ws pc lv (.int (enc b) :: .int (enc a) :: st) := by
  obtain ⟨p, l, e, s, m, args, below, meth, cd, Q, A, H0⟩ := c
  obtain ⟨hx, hb, hts, hown, hml, hK, hA⟩ := X
  intro H locs ls hP hD hS hl
  refine va_mmax hx hb (by rw [hml]; exact hl.1.symm) hown (hts _ h1) (hts _ h2) (hts _ h3) (hts _ h4) hf hlo hk.1 hk.2 d ?_
  rw [show (if enc a < enc b then enc b else enc a) = enc z by
    rw [← hz]
    by_cases h : a < b
    · rw [if_pos h, if_pos ((enc_lt ha hb9).mpr h)]
    · rw [if_neg h, if_neg (fun q => h ((enc_lt ha hb9).mp q))]]
  exact kk H locs ls hP hD hS hl
theorem tw_min (X : Ok G cy c cc own nL R) {idx : Nat} {a b z : Int} (ha : In a) (hb9 : In b) (h1 : Cond.methodLink own idx Lib.Math.min.name ∈ lwA) (h2 : Cond.static Lib.Math.min.name ∈ lwA) (h3 : Cond.initialized "java/lang/Math" ∈ lwA) (h4 : Cond.code Lib.Math.min.name Lib.Math.min.code 2 (some .int) ∈ lwA) (hf : 1 ≤ R.frames) (hlo : (st.map fun v => v.category).sum + 13 ≤ R.locals) (hk : k ≤ R.cells ∧ n ≤ R.slots) (d : decode cc pc = .ok (.invokestatic idx, 3)) (hz : (if b < a then b else a) = z) (kk : T G c R nL k n ws (pc + 3) lv (.int (enc z) :: st)) : T G c R nL k n ws pc lv (.int (enc b) :: .int (enc a) :: st) := by
  obtain ⟨p, l, e, s, m, args, below, meth, cd, Q, A, H0⟩ := c
  obtain ⟨hx, hb, hts, hown, hml, hK, hA⟩ := X
  intro H locs ls hP hD hS hl
  refine va_mmin hx hb (by rw [hml]; exact hl.1.symm) hown (hts _ h1) (hts _ h2) (hts _ h3) (hts _ h4) hf hlo hk.1 hk.2 d ?_
  rw [show (if enc b < enc a then enc b else enc a) = enc z by
    rw [← hz]
    by_cases h : b < a
    · rw [if_pos h, if_pos ((enc_lt hb9 ha).mpr h)]
    · rw [if_neg h, if_neg (fun q => h ((enc_lt hb9 ha).mp q))]]
  exact kk H locs ls hP hD hS hl
/-- the whole of one int array over the whole of another -/
theorem tw_copy (X : Ok G cy c cc own nL R) {idx a a0 N : Nat} {z : Int} {f g : Int → Int} {ws' : va_W} (q0 q1 : Nat) (h1 : Cond.methodLink own idx arraycopyName ∈ lwA) (h2 : Cond.native arraycopyName ∈ lwA) (h3 : Cond.static arraycopyName ∈ lwA) (h4 : Cond.initialized "java/lang/System" ∈ lwA) (ha0 : ws[q0]? = some (a0, .inl (cy, N, .inl (ea f)))) (ha1 : ws[q1]? = some (a, .inl (cy, N, .inl (ea g)))) (hz : z = N) (hN : N < 2147483648) (hf : 1 ≤ R.frames) (hlo : (st.map fun v => v.category).sum + (nativeFrameWords "java/lang/System" "arraycopy" 5 + 11) ≤ R.locals) (d : decode cc pc = .ok (.invokestatic idx, 3)) (hw : ws.set q1 (a, .inl (cy, N, .inl (ea f))) = ws') (kk : T G c R nL k n ws' (pc + 3) lv st) : T G c R nL k n ws pc lv (.int (enc z) :: .int (enc 0) :: .ref a :: .int (enc 0) :: .ref a0 :: st) := by
  obtain ⟨p, l, e, s, m, args, below, meth, cd, Q, A, H0⟩ := c
  obtain ⟨hx, hb, hts, hown, hml, hK, hA⟩ := X
  subst hz
  intro H locs ls hP hD hS hl
  have hIn : In (N : Int) := ⟨by omega, by omega⟩
  have e0 : (enc 0).toNatClampNeg = 0 := rfl
  have eN : (enc (N : Int)).toNatClampNeg = N := by rw [enc_nat hIn]; rfl
  refine va_copyi hx hb (by rw [hml]; exact hl.1.symm) hown (hts _ h1) (hts _ h2) (hts _ h3) (hts _ h4) hK hP hD hS q0 q1 0 0 ha0 ha1 rfl rfl rfl (by decide) (by decide) (fun h => by rw [← enc_0, enc_lt hIn In0] at h; omega) (by rw [e0, eN]; omega) (by rw [e0, eN]; omega) (fun _ _ => rfl) hf hlo d (fun H1 locs1 hP hD hS => ?_)
  rw [e0, eN] at hP hD
  have hl2 : q1 < ws.length := (List.getElem?_eq_some_iff.mp ha1).1
  have hP' : va_P G vwCl ws' H1 := by
    rw [← hw]
    intro i q hq
    by_cases hi : i = q1
    · subst hi
      rw [List.getElem?_set_self hl2] at hq
      cases hq
      have h := hP i _ (List.getElem?_set_self hl2)
      show H1[a]? = some (vp_cell cy (N, .inl (ea f)))
      rw [← cell_congr (f := va_cpy (ea f) (ea g) 0 0 N) (fun j hj => by rw [pk_cpy_in (Nat.zero_le j) (by omega)]; simp)]
      exact h
    · rw [List.getElem?_set_ne (Ne.symm hi)] at hq
      exact hP i q (by rw [List.getElem?_set_ne (Ne.symm hi)]; exact hq)
  have hD' : va_D A ws' := by
    rw [← hw]
    have key : ∀ (i : Nat) (q : Nat × va_E), (ws.set q1 (a, .inl (cy, N, .inl (ea f))))[i]? = some q → ∃ q9, (ws.set q1 (a, .inl (cy, N, .inl (va_cpy (ea f) (ea g) 0 0 N))))[i]? = some q9 ∧ q9.1 = q.1 := by
      intro i q hq
      by_cases hi : i = q1
      · subst hi
        rw [List.getElem?_set_self hl2] at hq
        cases hq
        exact ⟨_, List.getElem?_set_self hl2, rfl⟩
      · rw [List.getElem?_set_ne (Ne.symm hi)] at hq
        exact ⟨q, by rw [List.getElem?_set_ne (Ne.symm hi)]; exact hq, rfl⟩
    refine ⟨fun i j p q hp hq e => ?_, fun i q hq => ?_⟩
    · obtain ⟨p9, g1, g2⟩ := key i p hp
      obtain ⟨q9, g3, g4⟩ := key j q hq
      exact hD.1 i j p9 q9 g1 g3 (g2.trans (e.trans g4.symm))
    · obtain ⟨q9, g1, g2⟩ := key i q hq
      rw [← g2]
      exact hD.2 i q9 g1
  exact kk H1 locs1 ls hP' hD' hS hl
end CA
