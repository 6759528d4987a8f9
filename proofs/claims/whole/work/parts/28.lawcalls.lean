/-! THE LAW'S OWN SMALL METHODS: they catch; the long row; tl_call -/
def oL (cyl : ClassId) (o : Nat) (g : Nat → Int64) : va_W := [(o, .inl (cyl, 1, .inr (.inl g)))]
def wsH (y : MethodName) (b : ByteArray) (mL : Nat) (hh : List (Nat × Nat × Nat × Nat)) : List Cond := .codeWith y b mL (some .int) hh :: lwA
theorem wsH_good {y : MethodName} {b : ByteArray} {mL : Nat} {hh : List (Nat × Nat × Nat × Nat)} (h : Cond.codeWith y b mL (some .int) hh ∈ lwA) : GoodIn lwA (wsH y b mL hh) := fun w hw => (List.mem_cons.mp hw).elim (fun e => by rw [e]; exact lwA_good _ h) (fun h => lwA_good w h)
def CtBL (G : va_G) (cy cyl : ClassId) (ws : va_W) (sz : Nat) : State → Prop := fun U => CtBX G cy ws sz U ∧ va_K G vwCl [(cyl, .long)] U
def CtLw (G : va_G) (cy cyl : ClassId) (y : MethodName) (b : ByteArray) (mL : Nat) (hh : List (Nat × Nat × Nat × Nat)) (rm : Room) (mc ms : Nat) (av : List Value) (ws : va_W) (post : Option Value → va_W → Prop) : Prop :=
  ∀ (l : Launch) (sz : Nat), l.stackTraces = false → Met l y (wsH y b mL hh) rm (va_Pc av (CtBL G cy cyl ws sz)) (CtQ G cy ws sz post) mc ms (va_A ws sz)
theorem CtBL.blind {G : va_G} {cy cyl : ClassId} {ws : va_W} {sz : Nat} {av : List Value} : FrameBlind (va_Pc av (CtBL G cy cyl ws sz)) := fun a U g mk q => by
  have h := CtBX.blind (av := av) a U g mk ⟨q.1, q.2.1⟩
  exact ⟨h.1, h.2, va_K.moved (u := U) (U := U.calling g mk a) (Vm.Alike.refl U.vm) q.2.2⟩
/-- what is known in such a body, and in the law's: no traces, the state's facts, the long rows, its table -/
def LB (G : va_G) (cyl : ClassId) (c : Cx) (hh : List (Nat × Nat × Nat × Nat)) : Prop :=
  match c with
  | (_, l, _, s, _, _, _, _, cd, _, A, H0) => H0 = s.heap ∧ l.stackTraces = false ∧ XS s ∧ XZ A s s.heap ∧ va_K G vwCl [(cyl, .long)] s ∧ cd.exceptionTable.toList.map (fun h => (h.startPc, h.endPc, h.handlerPc, h.catchType)) = hh
section LW
variable {G : va_G} {cy cyl : ClassId} {y : MethodName} {b : ByteArray} {mL : Nat} {hh : List (Nat × Nat × Nat × Nat)} {rm : Room} {mc ms : Nat} {av : List Value} {ws : va_W} {post : Option Value → va_W → Prop}
theorem CtLw.of (hy : plainName y.cls = true) (hav : (lg_sl av).length ≤ mL) {own : String} (ho : y.cls = own) (hn : ∀ x w1, post (some (.int x)) w1 → narrow .int (.int x) = .int x)
    (body : ∀ c : Cx, Ok G cy c b own mL rm → LB G cyl c hh → RetI G c rm mL mc ms b post → T G c rm mL 0 0 ws 0 (lv_args 0 av) []) : CtLw G cy cyl y b mL hh rm mc ms av ws post := by
  subst ho
  intro l sz hl
  refine va_MetW (cc := b) (maxL := mL) (ret := some .int) (hh := hh) hy rfl ?_
  intro p e s m args below meth c s₁ B hml hv
  obtain ⟨rfl, ⟨⟨hsz, hP, hK, hD0⟩, hXS, hXZ⟩, hKL⟩ := hv
  subst hsz
  have hts := atoms_spec (ws := wsH y b mL hh) B.pre
  have hex : c.exceptionTable.toList.map (fun h => (h.startPc, h.endPc, h.handlerPc, h.catchType)) = hh := by
    obtain ⟨m9, meth9, c9, hn9, h1, h2, h3, h4, h5, h6, h7, h8⟩ := Cond.codeWith_spec (hts _ List.mem_cons_self)
    cases Option.some.inj (hn9.symm.trans B.named)
    cases Option.some.inj (h1.symm.trans B.method)
    cases Option.some.inj (h2.symm.trans (Stand.of_body B).code)
    exact h5
  rw [lg_entry_eq]
  have X : Ok G cy (p, l, e, s, m, av.toArray, below, meth, c, MQ below (CtQ G cy ws s.heap.size post) av.toArray s mc ms (va_A ws s.heap.size), va_A ws s.heap.size, s.heap) b y.cls mL rm := ⟨B.exec, B.bytes, fun w h => hts w (List.mem_cons_of_mem _ h), findClass_of_methodNamed B.named, hml, hK, fun q h => Or.inr h⟩
  refine body (p, l, e, s, m, av.toArray, below, meth, c, MQ below (CtQ G cy ws s.heap.size post) av.toArray s mc ms (va_A ws s.heap.size), va_A ws s.heap.size, s.heap) X ⟨rfl, hl, hXS, hXZ, hKL, hex⟩ ?_ s.heap [] _ hP hD0.self va_S.rf (lv_entry av hav)
  intro pc lv x w1 d hpost H locs ls hP hD hS hl
  exact W.zret (hlocks := B.notSynchronized) X.1 X.2.1 B.returns (hn x w1 hpost) (fun t ht _ => ⟨⟨_, w1, rfl, hpost, by rw [ht]; exact hP, hD⟩, hS.F ht⟩) hS.2.2 d
end LW
section LT
variable {G : va_G} {cy cyl : ClassId} {c : Cx} {cc : ByteArray} {own : String} {nL : Nat} {R : Room} {k n : Nat} {ws : va_W} {pc : Nat} {lv : List (Nat × Value)} {st : List Value} {hh : List (Nat × Nat × Nat × Nat)}
theorem tw_i2lr (X : Ok G cy c cc own nL R) {x : Int32} (d : decode cc pc = .ok (.i2l, 1)) (kk : T G c R nL k n ws (pc + 1) lv (.long x.toInt64 :: st)) : T G c R nL k n ws pc lv (.int x :: st) := by
  obtain ⟨p, l, e, s, m, args, below, meth, cd, Q, A, H0⟩ := c
  obtain ⟨hx, hb, hts, hown, hml, hK, hA⟩ := X
  intro H locs ls hP hD hS hl
  exact lv_i2l hx hb d rfl (kk H locs ls hP hD hS hl)
theorem tl_last (X : Ok G cy c cc own nL R) (B : LB G cyl c hh) {o : Nat} {g : Nat → Int64} {x : Int64} {ws' : va_W} (q : Nat) (hq : ws[q]? = some (o, .inl (cyl, 1, .inr (.inl g)))) (d : decode cc pc = .ok (.lastore, 1)) (hw : ws.set q (o, .inl (cyl, 1, .inr (.inl (vp_updL g 0 x)))) = ws') (kk : T G c R nL k n ws' (pc + 1) lv st) : T G c R nL k n ws pc lv (.long x :: .int (enc 0) :: .ref o :: st) := by
  obtain ⟨p, l, e, s, m, args, below, meth, cd, Q, A, H0⟩ := c
  obtain ⟨hx, hb, hts, hown, hml, hK, hA⟩ := X
  obtain ⟨-, -, -, -, hKL, -⟩ := B
  intro H locs ls hP hD hS hl
  refine va_last hx hb hKL hP hD hS q 0 hq rfl (enc_in ⟨Int.le_refl _, by decide⟩ (by decide)) d (fun H1 locs1 hP hD hS => ?_)
  rw [show (enc 0).toNatClampNeg = 0 from rfl, hw] at hP hD
  exact kk H1 locs1 ls hP hD hS hl
theorem tl_lald (X : Ok G cy c cc own nL R) (B : LB G cyl c hh) {o : Nat} {g : Nat → Int64} (q : Nat) (hq : ws[q]? = some (o, .inl (cyl, 1, .inr (.inl g)))) (d : decode cc pc = .ok (.laload, 1)) (kk : T G c R nL k n ws (pc + 1) lv (.long (g 0) :: st)) : T G c R nL k n ws pc lv (.int (enc 0) :: .ref o :: st) := by
  obtain ⟨p, l, e, s, m, args, below, meth, cd, Q, A, H0⟩ := c
  obtain ⟨hx, hb, hts, hown, hml, hK, hA⟩ := X
  obtain ⟨-, -, -, -, hKL, -⟩ := B
  intro H locs ls hP hD hS hl
  exact va_lald hx hb hKL hP q 0 hq rfl (enc_in ⟨Int.le_refl _, by decide⟩ (by decide)) d (kk H locs ls hP hD hS hl)
/-- the table's first row that takes E at pc goes to h -/
def Cat (own : String) (hh : List (Nat × Nat × Nat × Nat)) (pc : Nat) (E : String) (h : Nat) : Prop :=
  ∃ (pre : List (Nat × Nat × Nat × Nat)) (x : Nat × Nat × Nat × Nat) (suf : List (Nat × Nat × Nat × Nat)), hh = pre ++ x :: suf ∧ x.2.2.1 = h ∧ (∀ z ∈ pre, z.2.2.2 ≠ 0 ∧ ∃ nm : String, Cond.classLink own z.2.2.2 nm ∈ lwA ∧ (E, nm) ∈ ncE) ∧ (x.1 ≤ pc ∧ pc < x.2.1) ∧ x.2.2.2 ≠ 0 ∧ Cond.classLink own x.2.2.2 E ∈ lwA ∧ Cond.castable E E ∈ nbE
variable {y : MethodName} {b : ByteArray} {mL : Nat} {ret : Option FieldType} {rm : Room} {mc ms : Nat} {post : Option Value → va_W → Prop} {xp : String → va_W → Prop}
theorem tl_call (X : Ok G cy c cc own nL R) (B : LB G cyl c hh) {C : String} {idx np : Nat} {a : Nat} {As : List Value} {ws1 : va_W} (hV : VW own idx C y b mL ret np) (hM : CtX G cy y b mL ret rm mc ms (.ref a :: As) ws1 post xp) {st0 : List Value} (Y Z : va_W) (hws : ws = Y ++ (ws1 ++ Z)) (hst : st0 = As.reverse ++ .ref a :: st)
    {q0 ci : Nat} {fs : List Value} {TF : u_T} {N : Nat} (he : ws1[q0]? = some (a, .inr (ci, fs))) (hc : vwCl[ci]? = some (C, TF, N)) (hnp : As.length = np) (hR : rm.cells = mc ∧ rm.slots = ms ∧ rm.frames + 1 ≤ R.frames ∧ 8 + (mL + 11) + rm.locals ≤ R.locals) (hk : k + mc ≤ R.cells ∧ n + ms ≤ R.slots) (hcat : (st.map fun v => v.category).sum ≤ 8)
    (d : decode cc pc = .ok (.invokevirtual idx, 3)) (hx9 : ∀ E w1, xp E w1 → ∃ h : Nat, Cat own hh pc E h ∧ ∀ q : Nat, T G c R nL (k + mc) (n + ms) (Y ++ (w1 ++ Z)) h lv [.ref q]) (kk : ∀ (v : Option Value) (w1 : va_W), post v w1 → T G c R nL (k + mc) (n + ms) (Y ++ (w1 ++ Z)) (pc + 3) lv (v.toList ++ st)) : T G c R nL k n ws pc lv st0 := by
  subst hws; subst hst; subst hnp
  obtain ⟨p, l, e, s, m, args, below, meth, cd, Q, A, H0⟩ := c
  obtain ⟨rfl, hl9, hXS, hXZ, hKL, hex⟩ := B
  obtain ⟨hx, hb, hts, hown, hml, hK, hA⟩ := X
  obtain ⟨v1, v2, v3, v4, v5, v6, v7, v8, v9⟩ := hV
  subst v6
  intro H locs ls hP hD hS hl
  have hPc := segP hP
  have hDc := segD hD
  have hF := seg_free hD hS hA
  have hG : GoodIn lwA (ws_ y b mL ret) := ws_good v5
  have cw : CallW R s args own y.cls idx y b mL ret (ws_ y b mL ret) rm mc ms As.length := ⟨callB_of As.length hts hG rfl hR.1 hR.2.1 (hts _ v4) (hts _ v1) ⟨v7, v8, v9⟩ ⟨hR.2.2.1, hR.2.2.2⟩, hts _ v2, hts _ v3⟩
  have run := vx_runV (l := l) (e := e) (below := below) (meth := meth) (locs := locs) (g := F0 m pc ls (As.reverse ++ .ref a :: st)) (As := As) (rest := st) ⟨hx, hb, hml, hown, hts⟩ (hM l H.size hl9) cw ⟨CtBX.blind, va_recv hK hPc hc he, fun U hU hW => ⟨rfl, ⟨by rw [hU], by rw [hU]; exact hPc, va_K.moved hW.alike hK, hDc.weaken (fun _ _ _ _ => trivial)⟩, hXS.warm hW, by rw [hU]; exact hXZ.to hS hF hW.alike⟩⟩ rfl rfl hl.1 rfl (lv_room hcat) d hk
  intro T0 hT0 X0
  rcases run T0 hT0 X0 with ⟨v, st₀, t, T', L, h0, X', hL, e1, e2, ⟨⟨v', w1, hv, hp, hP1, hD1⟩, hz, hkp⟩, go⟩ | ⟨q, st₀, t, T', L, E, ce, h0, X', hL, e1, e2, ⟨⟨w1, hp, hP1, hD1⟩, hz, hkp⟩, hce, hcv, hcl, go⟩
  · cases hv
    rw [h0] at hz hkp
    have hkp' : ∀ q : Nat, q < H.size → ¬ va_A ws1 H.size q → T'.heap[q]? = H[q]? := fun q h1 h2 => by rw [e1]; exact hkp q h1 h2
    have hz' : H.size ≤ T'.heap.size := by rw [e1]; exact hz
    rw [← e1] at hP1
    obtain ⟨hP2, hD2⟩ := seg_join hP hD hF hkp' hP1 hD1
    have hS2 : va_S A s.heap T'.heap (locs ++ L) := ⟨Nat.le_trans hS.1 hz', fun q h1 h2 => by
      rw [hkp' q (Nat.lt_of_lt_of_le h1 hS.1) (fun z => h2 (hF q z))]; exact hS.2.1 q h1 h2, fun q hq => by
      rcases List.mem_append.mp hq with h | h
      · exact hS.2.2 q h
      · exact hF _ (hL q h)⟩
    obtain ⟨t2, a1, b1⟩ := kk v w1 hp T'.heap (locs ++ L) ls hP2 hD2 hS2 hl T' rfl X'
    exact ⟨t2, go t2 a1, b1⟩
  · rw [h0] at hz hkp
    have hkp' : ∀ q : Nat, q < H.size → ¬ va_A ws1 H.size q → T'.heap[q]? = H[q]? := fun q h1 h2 => by rw [e1]; exact hkp q h1 h2
    have hz' : H.size ≤ T'.heap.size := by rw [e1]; exact hz
    rw [← e1] at hP1
    obtain ⟨hP2, hD2⟩ := seg_join hP hD hF hkp' hP1 hD1
    have hS2 : va_S A s.heap T'.heap (locs ++ L) := ⟨Nat.le_trans hS.1 hz', fun q h1 h2 => by
      rw [hkp' q (Nat.lt_of_lt_of_le h1 hS.1) (fun z => h2 (hF q z))]; exact hS.2.1 q h1 h2, fun q hq => by
      rcases List.mem_append.mp hq with h | h
      · exact hS.2.2 q h
      · exact hF _ (hL q h)⟩
    rw [← e1] at hce
    obtain ⟨h, ⟨pre, x, suf, g1, g2, g3, g4, g5, g6, g7⟩, kx⟩ := hx9 E w1 hp
    rw [g1] at hex
    obtain ⟨pre', r1, f1, f2, f3⟩ := List.map_eq_append_iff.mp hex
    obtain ⟨x', suf', f4, f5, f6⟩ := List.map_eq_cons_iff.mp f3
    subst f2
    subst f5
    rw [f4] at f1
    subst g2
    have hcov : covers x' pc = true := by
      unfold covers
      simp only [Bool.and_eq_true, decide_eq_true_eq]
      exact g4
    obtain ⟨t2, a1, b1⟩ := vx_catch (name := E) (pc := pc) (ls := ls) (rest := st) hown pre' x' suf' f1 (fun z hz => Or.inr ⟨(g3 _ (List.mem_map_of_mem hz)).1, by
      obtain ⟨nm, n1, n2⟩ := (g3 _ (List.mem_map_of_mem hz)).2
      exact ⟨nm, hts _ n1, hXS.2.2 _ n2⟩⟩) hcov g5 (hts _ g6) (va_Nw.use rfl (hXS.1 _ g7)) hce hcv hcl (kx q T'.heap (locs ++ L) ls hP2 hD2 hS2 hl) T' rfl X'
    exact ⟨t2, go.trans a1, b1⟩
end LT
