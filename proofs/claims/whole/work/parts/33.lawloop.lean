/-! THE CLAIM OUT OF ONE WALK OF THE LAW'S BODY. Your part is whole_start (and what it stands on); all else here is the same for every law, but numbers. -/
def R_law : String := "DetourLoomLaw"
def lw_P (b : Addr) (xs : List Int32) (args : Array Value) (s : State) : Prop := args = #[.ref b] ∧ s.IntsAt b xs ∧ xs.length ≤ 2560 ∧ (Jvm.Cond.and given_1 narrow_1).before args s = true
/-- what a walk over the start with the record d0 says of its end, said of the start itself -/
theorem lw_closed {s t : State} {o : Outcome} {d0 : Drawn} {L : List Loc} {k n : Nat} (hd0 : s.drawn.sameBut d0 lw_cs) (hv : ∃ v, o = .returned v) (hW : (s.setDrawn d0).WarmedH t.vm) (hs : (s.setDrawn d0).sameButNew ({ t with vm := s.vm } : State) L k n) : State.butDraws s t lw_cs (fun t1 => Framed s o t1 L k n) := by
  have h2 : t.drawn = d0 := congrArg State.drawn hs.1
  refine ⟨⟨hv, hW, State.sameButNew.setDrawn hs s.drawn⟩, ?_, by decide⟩
  rw [h2]
  exact hd0
def lw_Q (_ : Array Value) (s : State) (o : Outcome) (t : State) : Prop := o = .returned (some (.int 1)) ∧ State.butDraws s t lw_cs (fun t1 => Framed s o t1 [] 601024 7293034)
def lw_Z (below : List Frame) (a : Array Value) (s : State) : State → Prop := fun t => ∃ o, t.status = .running ∧ Ended t below o ∧ lw_Q a s o t
/-- the law's own end, with 1 on the stack, nothing written that was there before, its room as the claim has it; d0: the record of draws at this point (at the entry s.drawn: begin with 'refine W.base ?_' and 'have hd0 := Drawn.sameBut.refl s.drawn lw_cs') -/
theorem lw_ret {p : Program} {l : Launch} {e : Env} {s : State} {m : MethodId} {below : List Frame} {meth : Method} {c : Code} {b : Nat} {d0 : Drawn} (hd0 : s.drawn.sameBut d0 lw_cs) (hx : p.tables.exec = Jvm.exec) (hb : c.code = code) (hr : meth.sig.returnType = ret) (hlocks : meth.locks = false) {pc : Nat} {H : Heap} {ls : Array Slot} (hdg : decode code pc = .ok (.ireturn, 1)) : W p l e room_1 (s.setDrawn d0) m #[Value.ref b] below meth c H [] 601024 7293034 (lw_Z below #[Value.ref b] s) (F0 m pc ls [.int 1]) := by
  intro T hT X
  obtain ⟨fs, hret, hrun, hended, hW, hframe⟩ := X.leave (v := some (.int 1)) (hlocks := hlocks) (fun h => by rw [hr] at h; cases h)
  have hmeth' : T.vm.method? m = some meth := X.method'
  refine ⟨T.setFrames fs, ?_, .returned (some (.int 1)), hrun, hended, rfl, lw_closed hd0 ⟨_, rfl⟩ hW hframe⟩
  jvm_step X.here [X.here.top, hx, hb, hdg, hmeth', hr, ret, narrow_b1]
  (try refine ⟨rfl, ?_⟩); (try refine ⟨rfl, ?_⟩)
  first | (intro acts; rw [hret _ acts rfl rfl rfl]) | rw [hret _ _ rfl rfl rfl]
  exact Steps.refl _
/-- what holds at the law's entry: the machine, the code, the tables' words (any of lw_tbl by 'hts w (by decide +kernel)'), the script of L ints xs at the cell b, what the Statement gives of the start (any of its parts by flat_of_before) -/
def lw_At (p : Program) (s : State) (m : MethodId) (meth : Method) (c : Code) (b L : Nat) (xs : Nat → Int32) : Prop :=
  p.tables.exec = Jvm.exec ∧ c.code = code ∧ meth.sig.returnType = ret ∧ c.maxLocals = 9 ∧ s.vm.findClass R_law = some m.cls ∧ (∀ w ∈ lw_tbl, w.before #[Value.ref b] s = true) ∧ va_X b L xs s s.heap ∧ b < s.heap.size ∧ meth.locks = false ∧ (Jvm.Cond.and given_1 narrow_1).before #[Value.ref b] s = true
/-- where the law walks -/
def lawC (p : Program) (l : Launch) (e : Env) (s : State) (m : MethodId) (b : Nat) (below : List Frame) (meth : Method) (cd : Code) : Cx := (p, l, e, s, m, #[Value.ref b], below, meth, cd, lw_Z below #[Value.ref b] s, fun q : Nat => s.heap.size ≤ q, s.heap)
theorem tl_end {G : va_G} {p : Program} {l : Launch} {e : Env} {s : State} {m : MethodId} {b : Nat} {below : List Frame} {meth : Method} {cd : Code} (hx : p.tables.exec = Jvm.exec) (hb : cd.code = code) (hr : meth.sig.returnType = ret) (hlo : meth.locks = false) {k n pc : Nat} {ws : va_W} {lv : List (Nat × Value)} (hk : k ≤ 601024) (hn : n ≤ 7293034) (d : decode code pc = .ok (.ireturn, 1)) : T G (lawC p l e s m b below meth cd) room_1 9 k n ws pc lv [.int (enc 1)] := by
  intro H locs ls hP hD hS hl
  refine va_forget hS.2.2 ?_
  refine W.widen (k := 601024) (n := 7293034) hk hn ?_
  exact lw_ret (d0 := s.drawn) (Drawn.sameBut.refl s.drawn lw_cs) hx hb hr hlo d

theorem XS.start {s : State} {args : Array Value} (h1 : ∀ w ∈ lw_tbl, w.before args s = true) (h2 : ∀ w ∈ flatC (Jvm.Cond.and given_1 narrow_1), w.before args s = true) : XS s := by
  refine ⟨XS.all (fun a b h => va_Nw.of rfl (h1 _ (nbE_t _ h))) (fun x h => va_Nw.of rfl (h1 _ (nbE_t _ h))), fun q hq => ?_, fun q hq => va_Nc.of (h2 _ (ncE_t q hq))⟩
  obtain ⟨a, c9, cell, k9, e1, -⟩ := Cond.exactly_spec (h2 _ (exE_t q hq))
  exact ⟨a, vk_R.of (h1 _ (txE_t q hq)) e1⟩
where
  nbE_t : ∀ w ∈ nbE, w ∈ lw_tbl := by decide +kernel
  ncE_t : ∀ q ∈ ncE, Cond.not (Cond.castable q.1 q.2) ∈ flatC (Jvm.Cond.and given_1 narrow_1) := by decide +kernel
  exE_t : ∀ q ∈ txE, Cond.exactly (Term.string RX4 q.1) "java/lang/String" ∈ flatC (Jvm.Cond.and given_1 narrow_1) := by decide +kernel
  txE_t : ∀ q ∈ txE, Cond.stringRef RX4 q.1 q.2 ∈ lw_tbl := by decide +kernel
theorem XZ.start {s : State} {args : Array Value} {A : Nat → Prop} (h1 : ∀ w ∈ lw_tbl, w.before args s = true) (h2 : ∀ w ∈ flatC (Jvm.Cond.and given_1 narrow_1), w.before args s = true) (hA : ∀ a : Nat, a < s.heap.size → ¬ A a) : XZ A s s.heap :=
  ⟨vx_Zqof (h1 _ (List.mem_append_right _ (List.mem_of_getElem? (i := 415) (by decide +kernel)))) (h1 _ (List.mem_append_right _ (List.mem_of_getElem? (i := 7) (by decide +kernel)))) (h2 _ (by decide +kernel)) hA, vx_Zqof (h1 _ (List.mem_append_right _ (List.mem_of_getElem? (i := 417) (by decide +kernel)))) (h1 _ (List.mem_append_right _ (List.mem_of_getElem? (i := 7) (by decide +kernel)))) (h2 _ (by decide +kernel)) hA⟩
theorem NW.start {s : State} {args : Array Value} (h1 : ∀ w ∈ lw_tbl, w.before args s = true) : NW s := NW.all (fun a i x g h => va_Nw.of rfl (h1 _ (nwA_t _ h)))
where
  nwA_t : ∀ w ∈ nwA, w ∈ lw_tbl := by decide +kernel
/-- the rows of ints and of longs, as the tables have them -/
theorem arr_start {s : State} {args : Array Value} {G : va_G} {cl : List vw_C} {ty : FieldType} (hk : ∀ (c : Nat) (q : vw_C), cl[c]? = some q → u_Kn s q.1 q.2.1 q.2.2 (G.1 c) (G.2 c)) (h : (Cond.arrayClass ty).before args s = true) (hr : ∀ cA : ClassId, s.vm.findClass ("[" ++ ty.toString) = some cA → va_RA s cA ty) : ∃ cA : ClassId, va_K G cl [(cA, ty)] s := by
  obtain ⟨cA, kA, comp, h1, h2, h3⟩ := Cond.arrayClass_spec h
  refine ⟨cA, hk, fun k x hx => ?_⟩
  have hz : k < 1 := (List.getElem?_eq_some_iff.mp hx).1
  rw [show k = 0 by omega] at hx
  cases hx
  exact ⟨fun n z => ⟨fun k h => (by cases h), kA, h2, comp, h3⟩, hr _ h1⟩
theorem tw_newaL {G : va_G} {cy cyl : ClassId} {c : Cx} {cc : ByteArray} {own : String} {nL : Nat} {R : Room} {k n : Nat} {ws : va_W} {pc : Nat} {lv : List (Nat × Value)} {st : List Value} {hh : List (Nat × Nat × Nat × Nat)} (X : Ok G cy c cc own nL R) (B : LB G cyl c hh) (hk : k + 1 ≤ R.cells) (hn : n + 1 ≤ R.slots) (d : decode cc pc = .ok (.newarray .long, 2))
    (kk : ∀ q : Nat, T G c R nL (k + 1) (n + 1) (ws ++ oL cyl q (fun _ => 0)) (pc + 2) lv (.ref q :: st)) : T G c R nL k n ws pc lv (.int (enc 1) :: st) := by
  obtain ⟨p, l, e, s, m, args, below, meth, cd, Q, A, H0⟩ := c
  obtain ⟨hx, hb, hts, hown, hml, hK, hA⟩ := X
  obtain ⟨-, -, -, -, hKL, -⟩ := B
  intro H locs ls hP hD hS hl
  refine va_newa (atype := .long) (ty := .long) (N' := 1) (a0 := (1, .inr (.inl (fun _ => 0)))) hx hb (hts _ wy_long) rfl hKL hP hD hS hA (fun cA => by rw [vp_cell_l]; rfl) (by decide) (by decide) (by decide) hk hn d (fun q cA H1 hK1 hP1 hD1 hS1 => ?_)
  have h1 := (hKL.2 0 (cyl, .long) rfl).2
  have h2 := (hK1.2 1 (cA, .long) rfl).2
  have e : cA = cyl := Option.some.inj (h2.symm.trans h1)
  rw [e] at hP1 hD1
  exact kk q H1 locs ls hP1 hD1 hS1 hl
set_option maxRecDepth 100000 in
set_option maxHeartbeats 4000000 in
theorem law_loop {p : Program} {l : Launch} {e : Env} {s : State} {m : MethodId} {b : Nat} {below : List Frame} {meth : Method} {cd : Code} {G : va_G} {cy cyl : ClassId} {q q2 : Nat → Nat} {o L : Nat} {xs : Nat → Int32} {hh : List (Nat × Nat × Nat × Nat)} (hx : p.tables.exec = Jvm.exec) (hb : cd.code = code) (hr : meth.sig.returnType = ret) (hlo : meth.locks = false) (X : Ok G cy (lawC p l e s m b below meth cd) cL_law RL 9 room_1) (B : LB G cyl (lawC p l e s m b below meth cd) hh) (hS9 : SX (lawC p l e s m b below meth cd) b L xs) (hL : L ≤ 2560) :
    ∀ (fu j : Nat) (N : MT) (sN : Int → Int) (oN : Int) (U : MT) (sU : Int → Int) (oU : Int) (A : Int → Int) (g : Nat → Int64) (th : Int) (kept far : Int → Int) (k9 n9 : Nat), k9 ≤ 100 + 40 * j → n9 ≤ 1400 + 250 * j → WF N (200 + 1300 * (j : Int)) → WVo N sN oN → j ≤ 512 → 513 ≤ j + fu → T G (lawC p l e s m b below meth cd) room_1 9 k9 n9 ((wD cy q N sN oN U sU oU A ++ oL cyl o g) ++ wP cy q2 N th kept far) 23 [(0, .ref (b)), (1, .ref (q 0)), (2, .ref (q2 0)), (3, .ref (o)), (4, .int (enc (5 * (j : Int))))] [] := by
  intro fu
  induction fu with
  | zero => intro j N sN oN U sU oU A g th kept far k9 n9 _ _ _ _ h1 h2; exact absurd h2 (by omega)
  | succ fu ih =>
    intro j N sN oN U sU oU A g th kept far k9 n9 hk9 hn9 hF hV hj1 hj2
    refine Twiden (k' := 100 + 40 * j) (n' := 1400 + 250 * j) hk9 hn9 ?_
    refine tw_iload X dL_law_23 4 rfl ?_
    refine tw_aload_n X dL_law_25 0 rfl rfl ?_
    refine tl_slen X hS9 dL_law_26 ?_
    refine tw_iconst X dL_law_27 ?_
    refine tw_isub (z := (L : Int) - 5) X dL_law_28 rfl ?_
    refine tw_icmp_gt (tgt := 1642) X (In_of (by omega) (by omega)) (In_of (by omega) (by omega)) dL_law_29 (by decide) (fun c29 => ?_) (fun c29 => ?_)
    · refine tw_iconst X dL_law_1642 ?_
      exact tl_end hx hb hr hlo (by omega) (by omega) dL_law_1643
    have hj : 5 * (j : Int) + 5 ≤ L := by omega
    have kk : ∀ (N' : MT) (s' : Int → Int) (o' : Int) (U' : MT) (sU' : Int → Int) (oU' : Int) (A' : Int → Int) (g' : Nat → Int64) (th' : Int) (k' f' : Int → Int) (k9 n9 : Nat), k9 ≤ 140 + 40 * j → n9 ≤ 1650 + 250 * j → WF N' (200 + 1300 * (j : Int) + 1300) → WVo N' s' o' → T G (lawC p l e s m b below meth cd) room_1 9 k9 n9 ((wD cy q N' s' o' U' sU' oU' A' ++ oL cyl o g') ++ wP cy q2 N' th' k' f') 1636 [(0, .ref (b)), (1, .ref (q 0)), (2, .ref (q2 0)), (3, .ref (o)), (4, .int (enc (5 * (j : Int))))] [] := by
      intro N' s' o' U' sU' oU' A' g' th' k' f' k9 n9 hk9 hn9 hF' hV'
      refine tw_iinc (q := 4) (x := 5 * (j : Int)) (y := 5 * (j : Int) + 5) (lv' := [(4, .int (enc (5 * (j : Int) + 5))), (0, .ref (b)), (1, .ref (q 0)), (2, .ref (q2 0)), (3, .ref (o))]) X dL_law_1636 rfl rfl (by decide) rfl ?_
      refine tw_goto (tgt := 23) X dL_law_1639 (by decide) ?_
      refine Tsub (lv' := [(0, .ref (b)), (1, .ref (q 0)), (2, .ref (q2 0)), (3, .ref (o)), (4, .int (enc (5 * (j : Int) + 5)))]) [1, 2, 3, 4, 0] rfl ?_
      refine Tlv (lv' := [(0, .ref (b)), (1, .ref (q 0)), (2, .ref (q2 0)), (3, .ref (o)), (4, .int (enc (5 * ((j + 1 : Nat) : Int))))]) (by rw [show 5 * (j : Int) + 5 = 5 * ((j + 1 : Nat) : Int) by omega]) ?_
      exact ih (j + 1) N' s' o' U' sU' oU' A' g' th' k' f' k9 n9 (by omega) (by omega) (by rw [show 200 + 1300 * ((j + 1 : Nat) : Int) = 200 + 1300 * (j : Int) + 1300 by omega]; exact hF') hV' (by omega) (by omega)
    refine tw_aload_n X dL_law_32 0 rfl rfl ?_
    refine tw_iload X dL_law_33 4 rfl ?_
    refine tl_sld X hS9 hL (z := 5 * (j : Int)) (by omega) dL_law_35 ?_
    refine tw_bipush X dL_law_36 (by decide) ?_
    refine tw_iandr X dL_law_38 ?_
    refine tw_table (tgt := 1636) X dL_law_39 rfl (by decide) (fun i off hio => ?_) (kk N sN oN U sU oU A g th kept far _ _ (by omega) (by omega) (hF.mono (by omega)) hV)
    match i, hio with
    | 0, h => exact ⟨184, by rw [← Option.some.inj (show some (145 : Int) = some off from h)]; rfl, lc_0 X B hS9 hL N sN oN U sU oU A th kept far _ hF (by omega) hV j hj kk⟩
    | 1, h => exact ⟨228, by rw [← Option.some.inj (show some (189 : Int) = some off from h)]; rfl, lc_1 X B hS9 hL N sN oN U sU oU A th kept far _ hF (by omega) hV j hj kk⟩
    | 2, h => exact ⟨320, by rw [← Option.some.inj (show some (281 : Int) = some off from h)]; rfl, lc_2 X B hS9 hL N sN oN U sU oU A th kept far _ hF (by omega) hV j hj kk⟩
    | 3, h => exact ⟨388, by rw [← Option.some.inj (show some (349 : Int) = some off from h)]; rfl, lc_3 X B hS9 hL N sN oN U sU oU A th kept far _ hF (by omega) hV j hj kk⟩
    | 4, h => exact ⟨456, by rw [← Option.some.inj (show some (417 : Int) = some off from h)]; rfl, lc_4 X B hS9 hL N sN oN U sU oU A th kept far _ hF (by omega) hV j hj kk⟩
    | 5, h => exact ⟨512, by rw [← Option.some.inj (show some (473 : Int) = some off from h)]; rfl, lc_5 X B hS9 hL N sN oN U sU oU A th kept far _ hF (by omega) hV j hj kk⟩
    | 6, h => exact ⟨568, by rw [← Option.some.inj (show some (529 : Int) = some off from h)]; rfl, lc_6 X B hS9 hL N sN oN U sU oU A th kept far _ hF (by omega) hV j hj kk⟩
    | 7, h => exact ⟨581, by rw [← Option.some.inj (show some (542 : Int) = some off from h)]; rfl, lc_7 X B hS9 hL N sN oN U sU oU A th kept far _ hF (by omega) hV j hj kk⟩
    | 8, h => exact ⟨594, by rw [← Option.some.inj (show some (555 : Int) = some off from h)]; rfl, lc_8 X B hS9 hL N sN oN U sU oU A th kept far _ hF (by omega) hV j hj kk⟩
    | 9, h => exact ⟨607, by rw [← Option.some.inj (show some (568 : Int) = some off from h)]; rfl, lc_9 X B hS9 hL N sN oN U sU oU A th kept far _ hF (by omega) hV j hj kk⟩
    | 10, h => exact ⟨620, by rw [← Option.some.inj (show some (581 : Int) = some off from h)]; rfl, lc_10 X B hS9 hL N sN oN U sU oU A th kept far _ hF (by omega) hV j hj kk⟩
    | 11, h => exact ⟨633, by rw [← Option.some.inj (show some (594 : Int) = some off from h)]; rfl, lc_11 X B hS9 hL N sN oN U sU oU A th kept far _ hF (by omega) hV j hj kk⟩
    | 12, h => exact ⟨646, by rw [← Option.some.inj (show some (607 : Int) = some off from h)]; rfl, lc_12 X B hS9 hL N sN oN U sU oU A th kept far _ hF (by omega) hV j hj kk⟩
    | 13, h => exact ⟨659, by rw [← Option.some.inj (show some (620 : Int) = some off from h)]; rfl, lc_13 X B hS9 hL N sN oN U sU oU A th kept far _ hF (by omega) hV j hj kk⟩
    | 14, h => exact ⟨715, by rw [← Option.some.inj (show some (676 : Int) = some off from h)]; rfl, lc_14 X B hS9 hL N sN oN U sU oU A th kept far _ hF (by omega) hV j hj kk⟩
    | 15, h => exact ⟨771, by rw [← Option.some.inj (show some (732 : Int) = some off from h)]; rfl, lc_15 X B hS9 hL N sN oN U sU oU A th kept far _ hF (by omega) hV j hj kk⟩
    | 16, h => exact ⟨827, by rw [← Option.some.inj (show some (788 : Int) = some off from h)]; rfl, lc_16 X B hS9 hL N sN oN U sU oU A th kept far _ hF (by omega) hV j hj kk⟩
    | 17, h => exact ⟨883, by rw [← Option.some.inj (show some (844 : Int) = some off from h)]; rfl, lc_17 X B hS9 hL N sN oN U sU oU A th kept far _ hF (by omega) hV j hj kk⟩
    | 18, h => exact ⟨939, by rw [← Option.some.inj (show some (900 : Int) = some off from h)]; rfl, lc_18 X B hS9 hL N sN oN U sU oU A th kept far _ hF (by omega) hV j hj kk⟩
    | 19, h => exact ⟨952, by rw [← Option.some.inj (show some (913 : Int) = some off from h)]; rfl, lc_19 X B hS9 hL N sN oN U sU oU A th kept far _ hF (by omega) hV j hj kk⟩
    | 20, h => exact ⟨1020, by rw [← Option.some.inj (show some (981 : Int) = some off from h)]; rfl, lc_20 X B hS9 hL N sN oN U sU oU A th kept far _ hF (by omega) hV j hj kk⟩
    | 21, h => exact ⟨1088, by rw [← Option.some.inj (show some (1049 : Int) = some off from h)]; rfl, lc_21 X B hS9 hL N sN oN U sU oU A th kept far _ hF (by omega) hV j hj kk⟩
    | 22, h => exact ⟨1156, by rw [← Option.some.inj (show some (1117 : Int) = some off from h)]; rfl, lc_22 X B hS9 hL N sN oN U sU oU A th kept far _ hF (by omega) hV j hj kk⟩
    | 23, h => exact ⟨1169, by rw [← Option.some.inj (show some (1130 : Int) = some off from h)]; rfl, lc_23 X B hS9 hL N sN oN U sU oU A th kept far _ hF (by omega) hV j hj kk⟩
    | 24, h => exact ⟨1225, by rw [← Option.some.inj (show some (1186 : Int) = some off from h)]; rfl, lc_24 X B hS9 hL N sN oN U sU oU A th kept far _ hF (by omega) hV j hj kk⟩
    | 25, h => exact ⟨1281, by rw [← Option.some.inj (show some (1242 : Int) = some off from h)]; rfl, lc_25 X B hS9 hL N sN oN U sU oU A th kept far _ hF (by omega) hV j hj kk⟩
    | 26, h => exact ⟨1337, by rw [← Option.some.inj (show some (1298 : Int) = some off from h)]; rfl, lc_26 X B hS9 hL N sN oN U sU oU A th kept far _ hF (by omega) hV j hj kk⟩
    | 27, h => exact ⟨1393, by rw [← Option.some.inj (show some (1354 : Int) = some off from h)]; rfl, lc_27 X B hS9 hL N sN oN U sU oU A th kept far _ hF (by omega) hV j hj kk⟩
    | 28, h => exact ⟨1456, by rw [← Option.some.inj (show some (1417 : Int) = some off from h)]; rfl, lc_28 X B hS9 hL N sN oN U sU oU A th kept far _ hF (by omega) hV j hj kk⟩
    | 29, h => exact ⟨1512, by rw [← Option.some.inj (show some (1473 : Int) = some off from h)]; rfl, lc_29 X B hS9 hL N sN oN U sU oU A th kept far _ hF (by omega) hV j hj kk⟩
    | 30, h => exact ⟨1568, by rw [← Option.some.inj (show some (1529 : Int) = some off from h)]; rfl, lc_30 X B hS9 hL N sN oN U sU oU A th kept far _ hF (by omega) hV j hj kk⟩
    | 31, h => exact ⟨1581, by rw [← Option.some.inj (show some (1542 : Int) = some off from h)]; rfl, lc_31 X B hS9 hL N sN oN U sU oU A th kept far _ hF (by omega) hV j hj kk⟩
    | 32, h => exact ⟨1622, by rw [← Option.some.inj (show some (1583 : Int) = some off from h)]; rfl, lc_32 X B hS9 hL N sN oN U sU oU A th kept far _ hF (by omega) hV j hj kk⟩
    | i + 33, h => exact absurd (Array.getElem?_eq_some_iff.mp h).1 (by show ¬ i + 33 < 33; omega)
