/-! BEING BORN: Object's constructor, new, final fields, constructors of nest mates -/
def nwA : List Cond := [Cond.methodLinkNest RX4 9 yX3_init "DetourLoom", Cond.methodLinkNest RX4 21 yX2_init "DetourLoom", Cond.methodLinkNest RX3 11 yX0_init "DetourLoom", Cond.methodLinkNest RX3 20 yX1_init "DetourLoom", Cond.methodLinkNest RX3 27 yX2_init "DetourLoom", Cond.methodLinkNest RL 65 yX5_init "DetourLoomLaw"]
theorem nwA_all {P : Cond → Prop} (h : ∀ (a : String) (i : Nat) (x : MethodName) (g : String), Cond.methodLinkNest a i x g ∈ nwA → P (Cond.methodLinkNest a i x g)) : ∀ w ∈ nwA, P w := by
  intro w hw
  have hw2 := hw
  unfold nwA at hw2
  simp only [List.mem_cons, List.not_mem_nil, or_false] at hw2
  rcases hw2 with rfl | rfl | rfl | rfl | rfl | rfl <;> exact h _ _ _ _ hw
/-- rows of ints can be made -/
def AOI (U : State) : Prop := (Cond.arrayOver (.array .int)).before #[] U = true
theorem AOI.of {A : Array Value} {U : State} (h : (Cond.arrayOver (.array .int)).before A U = true) : AOI U := h
theorem AOI.use {A : Array Value} {U : State} (h : AOI U) : (Cond.arrayOver (.array .int)).before A U = true := h
theorem AOI.moved {u U : State} (hvm : u.vm.Alike U.vm) (h : AOI u) : AOI U := by
  obtain ⟨comp, c, k, h1, h2, h3, h4, h5⟩ := arrayOverA_spec h
  obtain ⟨k', hk', he⟩ := hvm.2.2 _ _ h3
  have hi := (hvm.findIdx?_eq _ (fun _ => rfl)).trans h2
  have hkind : k'.kind = .array comp (.array .int) := by rw [he]; exact h4
  have f1 : U.vm.findClass (FieldType.array .int).toString = some comp := by rw [hvm.findClass]; exact h1
  have f2 : U.vm.findClass ("[" ++ (FieldType.array .int).toString) = some c := by rw [hvm.findClass]; exact h5
  unfold AOI Cond.before Cond.holds
  simp only [Cond.value]
  rw [f1, Option.bind_some]
  refine (congrArg (fun o : Option Nat => (o.bind (fun c => (U.vm.classes[c]?).map fun (k : Class) => match k.kind with | .array _ ty => decide (ty = FieldType.array .int) && decide (U.vm.findClass ("[" ++ (FieldType.array .int).toString) = some c) | _ => false) == some true)) hi).trans ?_
  simp [hk', hkind, f2]
def NW (U : State) : Prop := (∀ w ∈ nwA, va_Nw w U) ∧ AOI U
theorem NW.warm {s U : State} (hW : s.WarmedH U.vm) (h : NW s) : NW U := ⟨nwA_all (fun _ _ _ _ hw => va_Nw.warmM hW (h.1 _ hw)), h.2.moved hW.alike⟩
theorem NW.same {u U : State} (e : u.vm = U.vm) (h : NW u) : NW U := ⟨nwA_all (fun _ _ _ _ hw => va_Nw.same rfl e (h.1 _ hw)), h.2.moved (by rw [e]; exact Vm.Alike.refl U.vm)⟩
def Nc (c : Cx) : Prop := match c with | (_, _, _, s, _, _, _, _, _, _, _, _) => NW s
def Ic (c : Cx) : Prop := match c with | (_, _, _, _, _, _, _, meth, _, _, _, _) => meth.name = "<init>"
def CtN (G : va_G) (cy : ClassId) (y : MethodName) (b : ByteArray) (mL : Nat) (rm : Room) (mc ms : Nat) (av : List Value) (ws : va_W) (post : Option Value → va_W → Prop) : Prop :=
  ∀ (l : Launch) (sz : Nat), Met l y (ws_ y b mL none) rm (va_Pc av (fun U => CtB G cy ws sz U ∧ NW U)) (CtQ G cy ws sz post) mc ms (va_A ws sz)
section CN
variable {G : va_G} {cy : ClassId} {y : MethodName} {b : ByteArray} {mL : Nat} {rm : Room} {mc ms : Nat} {av : List Value} {ws : va_W} {post : Option Value → va_W → Prop}
theorem CtN.ofV (hy : plainName y.cls = true) (hav : (lg_sl av).length ≤ mL) {own : String} (ho : y.cls = own) (hn : y.name = "<init>")
    (body : ∀ c : Cx, Ok G cy c b own mL rm → Nc c → Ic c → RetV G c rm mL mc ms b post → T G c rm mL 0 0 ws 0 (lv_args 0 av) []) : CtN G cy y b mL rm mc ms av ws post := by
  subst ho
  intro l sz
  refine Met.ofW (cc := b) (maxL := mL) (ret := none) hy rfl ?_
  intro p e s m args below meth c s₁ B hml hv
  obtain ⟨rfl, ⟨hsz, hP, hK, hD0⟩, hN⟩ := hv
  subst hsz
  have hts := atoms_spec (ws := ws_ y b mL none) B.pre
  rw [lg_entry_eq]
  have X : Ok G cy (p, l, e, s, m, av.toArray, below, meth, c, MQ below (CtQ G cy ws s.heap.size post) av.toArray s mc ms (va_A ws s.heap.size), va_A ws s.heap.size, s.heap) b y.cls mL rm := ⟨B.exec, B.bytes, fun w h => hts w (List.mem_cons_of_mem _ h), findClass_of_methodNamed B.named, hml, hK, fun q h => Or.inr h⟩
  refine body (p, l, e, s, m, av.toArray, below, meth, c, MQ below (CtQ G cy ws s.heap.size post) av.toArray s mc ms (va_A ws s.heap.size), va_A ws s.heap.size, s.heap) X hN ((name_of_methodNamed B.named B.method).1.trans hn) ?_ s.heap [] _ hP hD0.self va_S.rf (lv_entry av hav)
  intro pc lv w1 d hpost H locs ls hP hD hS hl
  exact W.vret (hlocks := B.notSynchronized) X.1 X.2.1 B.returns (fun t ht _ => ⟨⟨_, w1, rfl, hpost, by rw [ht]; exact hP, hD⟩, hS.F ht⟩) hS.2.2 d
theorem CtN.blind {G : va_G} {cy : ClassId} {ws : va_W} {sz : Nat} {av : List Value} : FrameBlind (va_Pc av (fun U => CtB G cy ws sz U ∧ NW U)) := fun a U g mk q => ⟨q.1, ⟨q.2.1.1, q.2.1.2.1, va_K.moved (u := U) (U := U.calling g mk a) (Vm.Alike.refl U.vm) q.2.1.2.2.1, q.2.1.2.2.2⟩, NW.same (u := U) (U := U.calling g mk a) rfl q.2.2⟩
end CN
section BN
variable {G : va_G} {cy : ClassId} {c : Cx} {cc : ByteArray} {own : String} {nL : Nat} {R : Room} {k n : Nat} {ws : va_W} {pc : Nat} {lv : List (Nat × Value)} {st : List Value}
theorem tn_obj (X : Ok G cy c cc own nL R) {idx a : Nat} (h1 : Cond.methodLink own idx objectInit ∈ lwA) (hf : 1 ≤ R.frames) (hlo : (st.map fun v => v.category).sum + 12 ≤ R.locals) (d : decode cc pc = .ok (.invokespecial idx, 3)) (kk : T G c R nL k n ws (pc + 3) lv st) : T G c R nL k n ws pc lv (.ref a :: st) := by
  obtain ⟨p, l, e, s, m, args, below, meth, cd, Q, A, H0⟩ := c
  obtain ⟨hx, hb, hts, hown, hml, hK, hA⟩ := X
  intro H locs ls hP hD hS hl
  refine W.objInit hx hb hown (hts _ h1) (hts _ wo_i) (hts _ wo_c) rfl (by rw [hml]; exact hl.1) rfl d hf (by show 2 * 0 + _ + 12 ≤ _; omega) ?_
  exact W.eq (g2 := F0 m (pc + 3) ls st) rfl (kk H locs ls hP hD hS hl)
theorem tw_new (X : Ok G cy c cc own nL R) {C : String} {TF : u_T} {N ci idx : Nat} (hin : ∀ w ∈ u_ws C TF N, w ∈ lwA) (hc : vwCl[ci]? = some (C, TF, N)) (ty0 : Nat → FieldType) (hty : ∀ k, k < N → parseFieldDescriptor (TF k).2.2.1 = some (ty0 k)) (h1 : Cond.classLink own idx C ∈ lwA) (h2 : Cond.instantiable C N ∈ lwA) (h3 : Cond.initialized C ∈ lwA) {fs : List Value} (hfs : ∀ j, j < N → defaultValue (ty0 j) = vp_V fs j) (hk : k + 1 ≤ R.cells) (hn : n + N ≤ R.slots) (d : decode cc pc = .ok (.new idx, 3))
    (kk : ∀ q : Nat, T G c R nL (k + 1) (n + N) (ws ++ [(q, .inr (ci, fs))]) (pc + 3) lv (.ref q :: st)) : T G c R nL k n ws pc lv st := by
  obtain ⟨p, l, e, s, m, args, below, meth, cd, Q, A, H0⟩ := c
  obtain ⟨hx, hb, hts, hown, hml, hK, hA⟩ := X
  intro H locs ls hP hD hS hl
  exact va_new hx hb hts hin ty0 hty hown (hts _ h1) (hts _ h2) (hts _ h3) hK hP hD hS hA hc hfs hk hn d (fun q H1 hP1 hD1 hS1 => kk q H1 locs ls hP1 hD1 hS1 hl)
theorem tn_putF (X : Ok G cy c cc own nL R) (hi : Ic c) {C ref : String} {TF : u_T} {N ci idx a : Nat} (hin : ∀ w ∈ u_ws C TF N, w ∈ lwA) (hc : vwCl[ci]? = some (C, TF, N)) (ty0 : Nat → FieldType) (hty : ∀ k, k < N → parseFieldDescriptor (TF k).2.2.1 = some (ty0 k)) (hnm : ∀ a, a < N → ∀ b, b < N → a ≠ b → (TF a).2.1 ≠ (TF b).2.1) (j : Nat) (hj : j < N) (hlk : Cond.fieldLink own idx ref (TF j).2.1 (TF j).2.2.1 ∈ lwA) (hr : (TF j).1 = ref) (hdecl : (TF j).1 = own) (hfin : (TF j).2.2.2 = true) (q : Nat) {fs : List Value} {v : Value} {ws' : va_W} (he : ws[q]? = some (a, .inr (ci, fs))) (hl9 : j < fs.length) (hnw : narrow (ty0 j) v = v) (hft : fits (ty0 j) v = true) (d : decode cc pc = .ok (.putfield idx, 3)) (hw : ws.set q (a, .inr (ci, fs.set j v)) = ws') (kk : T G c R nL k n ws' (pc + 3) lv st) : T G c R nL k n ws pc lv (v :: .ref a :: st) := by
  obtain ⟨p, l, e, s, m, args, below, meth, cd, Q, A, H0⟩ := c
  obtain ⟨hx, hb, hts, hown, hml, hK, hA⟩ := X
  intro H locs ls hP hD hS hl
  subst hr
  refine va_putF hx hb hts hin ty0 hty hnm hown hK hP hD hS q he hc j hj (hts _ hlk) (fun _ h9 => h9) hfin hi hdecl (hty j hj) hnw hft hl9 d (fun H1 locs1 hP hD hS => ?_)
  rw [hw] at hP hD
  exact kk H1 locs1 ls hP hD hS hl
variable {y : MethodName} {b : ByteArray} {mL : Nat} {rm : Room} {mc ms : Nat} {post : Option Value → va_W → Prop}
theorem tn_callN (X : Ok G cy c cc own nL R) (hNc : Nc c) {host : String} {idx : Nat} {a : Nat} {ws1 : va_W} (h1 : Cond.methodLinkNest own idx y host ∈ nwA) (h2 : Cond.code y b mL none ∈ lwA) (h3 : Cond.instanceMethod y ∈ lwA) (h4 : Cond.initialized y.cls ∈ lwA) (hd : y.cls ≠ "java/lang/invoke/MethodHandle" ∧ y.cls ≠ "java/lang/invoke/VarHandle" ∧ (parseMethodDescriptor y.desc).map (fun d => d.parameters.length) = some 0) (h5 : y.name = "<init>") (hM : CtN G cy y b mL rm mc ms [.ref a] ws1 post) (Y Z : va_W) (hws : ws = Y ++ (ws1 ++ Z))
    (hR : rm.cells = mc ∧ rm.slots = ms ∧ rm.frames + 1 ≤ R.frames ∧ 8 + (mL + 11) + rm.locals ≤ R.locals) (hk : k + mc ≤ R.cells ∧ n + ms ≤ R.slots) (hcat : (st.map fun v => v.category).sum ≤ 8)
    (d : decode cc pc = .ok (.invokespecial idx, 3)) (kk : ∀ (v : Option Value) (w1 : va_W), post v w1 → T G c R nL (k + mc) (n + ms) (Y ++ (w1 ++ Z)) (pc + 3) lv (v.toList ++ st)) : T G c R nL k n ws pc lv (.ref a :: st) := by
  subst hws
  obtain ⟨p, l, e, s, m, args, below, meth, cd, Q, A, H0⟩ := c
  obtain ⟨hx, hb, hts, hown, hml, hK, hA⟩ := X
  have hN : NW s := hNc
  intro H locs ls hP hD hS hl
  have hPc := segP hP
  have hDc := segD hD
  have hF := seg_free hD hS hA
  have hG : GoodIn lwA (ws_ y b mL none) := ws_good h2
  have run := va_runIN (l := l) (e := e) (below := below) (meth := meth) (locs := locs) (g := F0 m pc ls (.ref a :: st)) (As := []) (rest := st) ⟨hx, hb, hml, hown, hts⟩ (hM l H.size) ⟨va_cnB 0 hts hG rfl hR.1 hR.2.1 (hN.1 _ h1) (hts _ h4) hd ⟨hR.2.2.1, hR.2.2.2⟩, h5, hts _ h3⟩ ⟨CtN.blind, fun U hU hW => ⟨rfl, ⟨by rw [hU], by rw [hU]; exact hPc, va_K.moved hW.alike hK, hDc.weaken (fun _ _ _ _ => trivial)⟩, hN.warm hW⟩⟩ rfl rfl hl.1 rfl (lv_room hcat) d hk
  intro T0 hT0 X0
  obtain ⟨v, st₀, t, T', L, h0, X', hL, e1, e2, ⟨⟨v', w1, hv, hp, hP1, hD1⟩, hz, hkp⟩, go⟩ := run T0 hT0 X0
  cases hv
  rw [h0] at hz hkp
  have hkp' : ∀ q : Nat, q < H.size → ¬ va_A ws1 H.size q → T'.heap[q]? = H[q]? := fun q h1 h2 => by rw [e1]; exact hkp q h1 h2
  have hz' : H.size ≤ T'.heap.size := by rw [e1]; exact hz
  rw [← e1] at hP1
  obtain ⟨hP2, hD2⟩ := seg_join hP hD hF hkp' hP1 hD1
  have hS2 : va_S A H0 T'.heap (locs ++ L) := ⟨Nat.le_trans hS.1 hz', fun q h1 h2 => by
    rw [hkp' q (Nat.lt_of_lt_of_le h1 hS.1) (fun z => h2 (hF q z))]; exact hS.2.1 q h1 h2, fun q hq => by
    rcases List.mem_append.mp hq with h | h
    · exact hS.2.2 q h
    · exact hF _ (hL q h)⟩
  obtain ⟨t2, a1, b1⟩ := kk v w1 hp T'.heap (locs ++ L) ls hP2 hD2 hS2 hl T' rfl X'
  exact ⟨t2, go t2 a1, b1⟩
theorem tn_callI (X : Ok G cy c cc own nL R) (hNc : Nc c) {idx : Nat} {a : Nat} {ws1 : va_W} (h1 : Cond.methodLink own idx y ∈ lwA) (h2 : Cond.code y b mL none ∈ lwA) (h3 : Cond.instanceMethod y ∈ lwA) (h4 : Cond.initialized y.cls ∈ lwA) (hd : y.cls ≠ "java/lang/invoke/MethodHandle" ∧ y.cls ≠ "java/lang/invoke/VarHandle" ∧ (parseMethodDescriptor y.desc).map (fun d => d.parameters.length) = some 0) (h5 : y.name = "<init>") (hM : CtN G cy y b mL rm mc ms [.ref a] ws1 post) (Y Z : va_W) (hws : ws = Y ++ (ws1 ++ Z))
    (hR : rm.cells = mc ∧ rm.slots = ms ∧ rm.frames + 1 ≤ R.frames ∧ 8 + (mL + 11) + rm.locals ≤ R.locals) (hk : k + mc ≤ R.cells ∧ n + ms ≤ R.slots) (hcat : (st.map fun v => v.category).sum ≤ 8)
    (d : decode cc pc = .ok (.invokespecial idx, 3)) (kk : ∀ (v : Option Value) (w1 : va_W), post v w1 → T G c R nL (k + mc) (n + ms) (Y ++ (w1 ++ Z)) (pc + 3) lv (v.toList ++ st)) : T G c R nL k n ws pc lv (.ref a :: st) := by
  subst hws
  obtain ⟨p, l, e, s, m, args, below, meth, cd, Q, A, H0⟩ := c
  obtain ⟨hx, hb, hts, hown, hml, hK, hA⟩ := X
  have hN : NW s := hNc
  intro H locs ls hP hD hS hl
  have hPc := segP hP
  have hDc := segD hD
  have hF := seg_free hD hS hA
  have hG : GoodIn lwA (ws_ y b mL none) := ws_good h2
  have run := va_runI (l := l) (e := e) (below := below) (meth := meth) (locs := locs) (g := F0 m pc ls (.ref a :: st)) (As := []) (rest := st) ⟨hx, hb, hml, hown, hts⟩ (hM l H.size) ⟨callB_of 0 hts hG rfl hR.1 hR.2.1 (hts _ h4) (hts _ h1) hd ⟨hR.2.2.1, hR.2.2.2⟩, h5, hts _ h3⟩ ⟨CtN.blind, fun U hU hW => ⟨rfl, ⟨by rw [hU], by rw [hU]; exact hPc, va_K.moved hW.alike hK, hDc.weaken (fun _ _ _ _ => trivial)⟩, hN.warm hW⟩⟩ rfl rfl hl.1 rfl (lv_room hcat) d hk
  intro T0 hT0 X0
  obtain ⟨v, st₀, t, T', L, h0, X', hL, e1, e2, ⟨⟨v', w1, hv, hp, hP1, hD1⟩, hz, hkp⟩, go⟩ := run T0 hT0 X0
  cases hv
  rw [h0] at hz hkp
  have hkp' : ∀ q : Nat, q < H.size → ¬ va_A ws1 H.size q → T'.heap[q]? = H[q]? := fun q h1 h2 => by rw [e1]; exact hkp q h1 h2
  have hz' : H.size ≤ T'.heap.size := by rw [e1]; exact hz
  rw [← e1] at hP1
  obtain ⟨hP2, hD2⟩ := seg_join hP hD hF hkp' hP1 hD1
  have hS2 : va_S A H0 T'.heap (locs ++ L) := ⟨Nat.le_trans hS.1 hz', fun q h1 h2 => by
    rw [hkp' q (Nat.lt_of_lt_of_le h1 hS.1) (fun z => h2 (hF q z))]; exact hS.2.1 q h1 h2, fun q hq => by
    rcases List.mem_append.mp hq with h | h
    · exact hS.2.2 q h
    · exact hF _ (hL q h)⟩
  obtain ⟨t2, a1, b1⟩ := kk v w1 hp T'.heap (locs ++ L) ls hP2 hD2 hS2 hl T' rfl X'
  exact ⟨t2, go t2 a1, b1⟩
end BN
