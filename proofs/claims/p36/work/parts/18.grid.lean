/-! ROWS FOR ARRAYS OF ROWS, BOOLEANS, ANY NUMBER; METHODS THAT ANSWER A REFERENCE, READ THE SCRIPT, MAKE ROWS -/
abbrev gI (G : va_G) (n : Nat) (f : Nat → Option Nat) : va_E := .inl (G.1 101, n, .inr (.inr (.inr (.inr f))))
abbrev arZ (G : va_G) (n : Nat) (f : Int → Int) : va_E := .inl (G.1 100, n, .inl (ea f))
theorem In_i32 (x : Int32) : In x.toInt := ⟨by have := Int32.le_toInt x; omega, by have := Int32.toInt_lt x; omega⟩
theorem assign_self (vm : Vm) (a : ClassId) : vm.assignable a a = true := by
  show vm.assignableAux (255 + 1) a a = true
  rw [Vm.assignableAux]
  simp only [beq_self_eq_true, Bool.true_or]
section GR
variable {G : va_G} {cy : ClassId} {c : Cx} {cc : ByteArray} {own : String} {nL : Nat} {R : Room} {k n : Nat} {ws : va_W} {pc : Nat} {lv : List (Nat × Value)} {st : List Value}
theorem tw_aald (X : Ok G cy c cc own nL R) {a N : Nat} {f : Nat → Option Nat} {i : Int} {r : Nat} (q : Nat) (hq : ws[q]? = some (a, gI G N f)) (hN : N < 2147483648) (hi : 0 ≤ i ∧ i < N) (hr : f i.toNat = some r) (d : decode cc pc = .ok (.aaload, 1)) (kk : T G c R nL k n ws (pc + 1) lv (.ref r :: st)) : T G c R nL k n ws pc lv (.int (enc i) :: .ref a :: st) := by
  obtain ⟨p, l, e, s, m, args, below, meth, cd, Q, A, H0⟩ := c
  obtain ⟨hx, hb, hts, hown, hml, hK, hA⟩ := X
  intro H locs ls hP hD hS hl
  have hlt : i.toNat < N := by omega
  have en : (enc i).toNatClampNeg = i.toNat := enc_nat ⟨by omega, by omega⟩
  exact W.aald (v := .ref r) (ty := .array .int) hx hb (hP q _ hq) ((hK.2 2 (G.1 101, .array .int) rfl).1 N (fun j => va_rf (f j))) rfl (fun q => by cases q) (by show ¬ (enc i < 0 ∨ (arrV _ _ _).slots.size ≤ _); rw [arrV_size]; exact enc_in hi hN) (by show (arrV _ _ _).slots[_]? = _; rw [en, arrV_read _ _ hlt, hr]; rfl) rfl rfl d (kk H locs ls hP hD hS hl)
theorem tw_aast (X : Ok G cy c cc own nL R) (hN0 : Nc c) {a N v w : Nat} {f : Nat → Option Nat} {fv : Nat → Int32} {i : Int} {ws' : va_W} (q qv : Nat) (hq : ws[q]? = some (a, gI G N f)) (hv : ws[qv]? = some (v, .inl (cy, w, .inl fv))) (hN : N < 2147483648) (hi : 0 ≤ i ∧ i < N) (d : decode cc pc = .ok (.aastore, 1)) (hw : ws.set q (a, gI G N (va_up f i.toNat (some v))) = ws') (kk : T G c R nL k n ws' (pc + 1) lv st) : T G c R nL k n ws pc lv (.ref v :: .int (enc i) :: .ref a :: st) := by
  obtain ⟨p, l, e, s, m, args, below, meth, cd, Q, A, H0⟩ := c
  obtain ⟨hx, hb, hts, hown, hml, hK, hA⟩ := X
  have hNW : NW s := hN0
  intro H locs ls hP hD hS hl
  have en : (enc i).toNatClampNeg = i.toNat := enc_nat ⟨by omega, by omega⟩
  have hin : vp_in (enc i) N := enc_in hi hN
  obtain ⟨comp, c2, kA, h1, -, h3, h4, h5⟩ := arrayOverA_spec hNW.2
  have e2 : c2 = G.1 101 := Option.some.inj (h5.symm.trans (hK.2 2 (G.1 101, .array .int) rfl).2)
  have e1 : comp = cy := Option.some.inj (h1.symm.trans (hK.2 0 (cy, .int) rfl).2)
  subst e1; subst e2
  obtain ⟨-, kv, hkv, -⟩ := (hK.2 0 (comp, .int) rfl).1 w (fun j => .int (fv j))
  have hlt : i.toNat < N := by omega
  have h0 : ¬ enc i < 0 := fun q => hin (Or.inl q)
  have hkv' : s.vm.classes[comp]? = some kv := hkv
  refine W.aast (cv := vp_cell comp (w, .inl fv)) (kv := kv) (kcomp := kv) hx hb (hP q _ hq) (fun q h => by cases h) (fun h => by cases h) h3 h4 rfl hkv' ⟨h0, by show _ < (arrV _ _ _).slots.size; rw [arrV_size, en]; exact hlt⟩ (hP qv _ hv) (fun q h => by cases h) hkv' (assign_self s.vm comp) rfl rfl d fun H1 e z oq => ?_
  have hP1 : va_P G vwCl (ws.set q (a, gI G N (va_up f i.toNat (some v)))) H1 := hP.set hD hq (by
    show H1[a]? = some (vp_cell _ _)
    rw [e, en]
    rw [vp_cell_q, vp_cell_q, arrV_store]
    congr 2
    funext q
    by_cases hq : q = i.toNat
    · subst hq
      simp [updV, va_up, va_rf]
    · simp [updV, va_up, hq]) oq
  have hD1 := hD.set (e := gI G N (va_up f i.toNat (some v))) hq
  rw [hw] at hP1 hD1
  exact kk H1 _ ls hP1 hD1 (hS.put z oq (hD.2 q _ hq)) hl
theorem tw_anew (X : Ok G cy c cc own nL R) (hN0 : Nc c) {idx N : Nat} {z : Int} (hz : z = N) (hN : N ≤ 1000) (h1 : Cond.classLink own idx "[I" ∈ lwA) (hk : k + 1 ≤ R.cells) (hn : n + N ≤ R.slots) (d : decode cc pc = .ok (.anewarray idx, 3))
    (kk : ∀ q : Nat, T G c R nL (k + 1) (n + N) (ws ++ [(q, gI G N (fun _ => none))]) (pc + 3) lv (.ref q :: st)) : T G c R nL k n ws pc lv (.int (enc z) :: st) := by
  obtain ⟨p, l, e, s, m, args, below, meth, cd, Q, A, H0⟩ := c
  obtain ⟨hx, hb, hts, hown, hml, hK, hA⟩ := X
  have hNW : NW s := hN0
  subst hz
  intro H locs ls hP hD hS hl
  have hIn : In (N : Int) := ⟨by omega, by omega⟩
  have en : (enc (N : Int)).toNatClampNeg = N := by rw [enc_nat hIn]; rfl
  have hcl : Cond.classLink own idx (FieldType.array .int).toString ∈ lwA := h1
  refine W.anewA (t := .int) hx hb hown (hts _ hcl) (AOI.use hNW.2) rfl d rfl (by intro h; rw [← enc_0, enc_lt hIn In0] at h; omega) (by rw [en]; omega) hk (by rw [en]; exact hn) fun cA kA comp f1 f2 f3 f4 => ?_
  have e2 : cA = G.1 101 := Option.some.inj (f1.symm.trans (hK.2 2 (G.1 101, .array .int) rfl).2)
  subst e2
  rw [en]
  generalize hH1 : H.push ({ cls := G.1 101, slots := Array.replicate N .null, vm := .none } : Cell) = H1
  have z1 : H1.size = H.size + 1 := by rw [← hH1, Array.size_push]
  have e1 : H1[H.size]? = some (arrV (G.1 101) N (fun _ => .null)) := by rw [← hH1, Array.getElem?_push_size, ← arrV_new]
  have o1 : ∀ q : Nat, q < H.size → H1[q]? = H[q]? := fun q hq => by rw [← hH1, Array.getElem?_push, if_neg (Nat.ne_of_lt hq)]
  have hk9 : ∀ (k : Nat) (x : Nat × va_E), ws[k]? = some x → H1[x.1]? = H[x.1]? := fun k x hx => o1 x.1 ((hP k x hx).lt)
  refine kk H.size H1 locs ls ((hP.kept hk9).app (fun k x hx => ?_)) (hD.push hP rfl (hA _ hS.1)) ⟨Nat.le_trans hS.1 (by omega), fun x h1 h2 => (o1 x (Nat.lt_of_lt_of_le h1 hS.1)).trans (hS.2.1 x h1 h2), hS.2.2⟩ hl
  have hz : k < 1 := (List.getElem?_eq_some_iff.mp hx).1
  rw [show k = 0 by omega] at hx
  cases hx
  show H1[H.size]? = some (vp_cell _ _)
  rw [vp_cell_q]
  exact e1
theorem tw_newz (X : Ok G cy c cc own nL R) {N : Nat} {z : Int} (hz : z = N) (hN : N ≤ 1000) (hk : k + 1 ≤ R.cells) (hn : n + N ≤ R.slots) (d : decode cc pc = .ok (.newarray .boolean, 2))
    (kk : ∀ q : Nat, T G c R nL (k + 1) (n + N) (ws ++ [(q, arZ G N (fun _ => 0))]) (pc + 2) lv (.ref q :: st)) : T G c R nL k n ws pc lv (.int (enc z) :: st) := by
  obtain ⟨p, l, e, s, m, args, below, meth, cd, Q, A, H0⟩ := c
  obtain ⟨hx, hb, hts, hown, hml, hK, hA⟩ := X
  subst hz
  intro H locs ls hP hD hS hl
  have hIn : In (N : Int) := ⟨by omega, by omega⟩
  refine va_newa (atype := .boolean) (ty := .boolean) (N' := N) (a0 := (N, .inl (ea (fun _ => 0)))) hx hb (hts _ wy_boolean) rfl hK hP hD hS hA (fun cA => by rw [vp_cell_i]; rfl) ?_ ?_ ?_ hk hn d (fun q cA H1 hK1 hP1 hD1 hS1 => ?_)
  · intro h; rw [← enc_0, enc_lt hIn In0] at h; omega
  · rw [enc_nat hIn]; rfl
  · show N * 1 ≤ 536870912; omega
  · have h1 := (hK.2 1 (G.1 100, .boolean) rfl).2
    have h2 := (hK1.2 3 (cA, .boolean) rfl).2
    have e : cA = G.1 100 := Option.some.inj (h2.symm.trans h1)
    rw [e] at hP1 hD1
    exact kk q H1 locs ls hP1 hD1 hS1 hl
theorem tw_zald (X : Ok G cy c cc own nL R) {a : Nat} {N : Nat} {f : Int → Int} {i : Int} (q : Nat) (hq : ws[q]? = some (a, arZ G N f)) (hN : N < 2147483648) (hi : 0 ≤ i ∧ i < N) (d : decode cc pc = .ok (.baload, 1)) (kk : T G c R nL k n ws (pc + 1) lv (.int (enc (f i)) :: st)) : T G c R nL k n ws pc lv (.int (enc i) :: .ref a :: st) := by
  obtain ⟨p, l, e, s, m, args, below, meth, cd, Q, A, H0⟩ := c
  obtain ⟨hx, hb, hts, hown, hml, hK, hA⟩ := X
  intro H locs ls hP hD hS hl
  refine va_zald hx hb hK hP q 1 hq rfl (enc_in hi hN) d ?_
  rw [ea_at f hi.1 ⟨by omega, by omega⟩]
  exact kk H locs ls hP hD hS hl
theorem tw_zast (X : Ok G cy c cc own nL R) {a : Nat} {N : Nat} {f : Int → Int} {i v : Int} {ws' : va_W} (q : Nat) (hq : ws[q]? = some (a, arZ G N f)) (hN : N < 2147483648) (hi : 0 ≤ i ∧ i < N) (hv : v = 0 ∨ v = 1) (d : decode cc pc = .ok (.bastore, 1)) (hw : ws.set q (a, arZ G N (ups f i v)) = ws') (kk : T G c R nL k n ws' (pc + 1) lv st) : T G c R nL k n ws pc lv (.int (enc v) :: .int (enc i) :: .ref a :: st) := by
  obtain ⟨p, l, e, s, m, args, below, meth, cd, Q, A, H0⟩ := c
  obtain ⟨hx, hb, hts, hown, hml, hK, hA⟩ := X
  intro H locs ls hP hD hS hl
  refine va_zast hx hb hK hP hD hS q 1 hq rfl (enc_in hi hN) d (fun H1 locs1 hP hD hS => ?_)
  rw [show vp_nar .boolean (enc v) = enc v from by rcases hv with h | h <;> rw [h] <;> rfl, ea_upd f hi.1 ⟨by omega, by omega⟩] at hP hD
  rw [hw] at hP hD
  exact kk H1 locs1 ls hP hD hS hl
theorem tw_alenG (X : Ok G cy c cc own nL R) {a N : Nat} {f : Nat → Option Nat} (q : Nat) (hq : ws[q]? = some (a, gI G N f)) (d : decode cc pc = .ok (.arraylength, 1)) (kk : T G c R nL k n ws (pc + 1) lv (.int (enc N) :: st)) : T G c R nL k n ws pc lv (.ref a :: st) := by
  obtain ⟨p, l, e, s, m, args, below, meth, cd, Q, A, H0⟩ := c
  obtain ⟨hx, hb, hts, hown, hml, hK, hA⟩ := X
  intro H locs ls hP hD hS hl
  exact va_alen (x := (N, .inr (.inr (.inr (.inr f))))) (ty := .array .int) hx hb hK hP q 2 hq rfl (by show Int32.ofNat N = Int32.ofInt (N : Int); rw [Int32.ofInt_eq_ofNat]) d (kk H locs ls hP hD hS hl)
theorem tw_ifnonnull (X : Ok G cy c cc own nL R) {a : Nat} {off : Int} {tgt : Nat} (d : decode cc pc = .ok (.ifnonnull off, 3)) (ht : (pc : Int) + off = (tgt : Int)) (kk : T G c R nL k n ws tgt lv st) : T G c R nL k n ws pc lv (.ref a :: st) := by
  obtain ⟨p, l, e, s, m, args, below, meth, cd, Q, A, H0⟩ := c
  obtain ⟨hx, hb, hts, hown, hml, hK, hA⟩ := X
  intro H locs ls hP hD hS hl
  exact lv_ifnonnull hx hb d ht (kk H locs ls hP hD hS hl)
/-- any number is one of ours -/
theorem Tany {x : Int32} (kk : ∀ z : Int, In z → T G c R nL k n ws pc lv (.int (enc z) :: st)) : T G c R nL k n ws pc lv (.int x :: st) := by
  have h := kk x.toInt (In_i32 x)
  rw [enc_of] at h
  exact h
theorem tw_ishr (X : Ok G cy c cc own nL R) {a b : Int} (d : decode cc pc = .ok (.ishr, 1)) (kk : ∀ z : Int, In z → T G c R nL k n ws (pc + 1) lv (.int (enc z) :: st)) : T G c R nL k n ws pc lv (.int (enc b) :: .int (enc a) :: st) := by
  refine (?_ : (∀ x : Int32, T G c R nL k n ws (pc + 1) lv (.int x :: st)) → _) (fun x => Tany kk)
  intro kk2
  obtain ⟨p, l, e, s, m, args, below, meth, cd, Q, A, H0⟩ := c
  obtain ⟨hx, hb, hts, hown, hml, hK, hA⟩ := X
  intro H locs ls hP hD hS hl
  exact lv_ishr hx hb d (kk2 _ H locs ls hP hD hS hl)
theorem tw_idiv (X : Ok G cy c cc own nL R) {a b : Int} (hb0 : In b ∧ b ≠ 0) (d : decode cc pc = .ok (.idiv, 1)) (kk : ∀ z : Int, In z → T G c R nL k n ws (pc + 1) lv (.int (enc z) :: st)) : T G c R nL k n ws pc lv (.int (enc b) :: .int (enc a) :: st) := by
  refine (?_ : (∀ x : Int32, T G c R nL k n ws (pc + 1) lv (.int x :: st)) → _) (fun x => Tany kk)
  intro kk2
  obtain ⟨p, l, e, s, m, args, below, meth, cd, Q, A, H0⟩ := c
  obtain ⟨hx, hb, hts, hown, hml, hK, hA⟩ := X
  intro H locs ls hP hD hS hl
  exact lv_idiv hx hb d (fun h => hb0.2 ((enc_eq hb0.1 In0).mp h)) (kk2 _ H locs ls hP hD hS hl)
theorem tw_irem (X : Ok G cy c cc own nL R) {a b : Int} (ha : 0 ≤ a ∧ In a) (hb0 : 0 < b ∧ In b) (d : decode cc pc = .ok (.irem, 1)) (kk : ∀ z : Int, 0 ≤ z → z < b → z = a % b → T G c R nL k n ws (pc + 1) lv (.int (enc z) :: st)) : T G c R nL k n ws pc lv (.int (enc b) :: .int (enc a) :: st) := by
  have hz := kk (a % b) (Int.emod_nonneg a (by omega)) (Int.emod_lt_of_pos a hb0.1) rfl
  obtain ⟨p, l, e, s, m, args, below, meth, cd, Q, A, H0⟩ := c
  obtain ⟨hx, hb, hts, hown, hml, hK, hA⟩ := X
  intro H locs ls hP hD hS hl
  refine lv_irem hx hb d (fun h => by have := (enc_eq hb0.2 In0).mp h; omega) ?_
  have hIn : In (a % b) := ⟨by have := Int.emod_nonneg a (show b ≠ 0 by omega); omega, by have := Int.emod_lt_of_pos a hb0.1; have := hb0.2.2; omega⟩
  rw [irem_eq_mod, show enc a % enc b = enc (a % b) from by rw [← Int32.toInt_inj, Int32.toInt_mod, enc_toInt ha.2, enc_toInt hb0.2, enc_toInt hIn, Int.tmod_eq_emod_of_nonneg ha.1]]
  exact hz H locs ls hP hD hS hl
theorem tw_iand31 (X : Ok G cy c cc own nL R) {a : Int} (d : decode cc pc = .ok (.iand, 1)) (kk : ∀ z : Int, 0 ≤ z → In z → T G c R nL k n ws (pc + 1) lv (.int (enc z) :: st)) : T G c R nL k n ws pc lv (.int (enc 2147483647) :: .int (enc a) :: st) := by
  obtain ⟨p, l, e, s, m, args, below, meth, cd, Q, A, H0⟩ := c
  obtain ⟨hx, hb, hts, hown, hml, hK, hA⟩ := X
  intro H locs ls hP hD hS hl
  refine lv_iand hx hb d ?_
  have h0 : 0 ≤ (enc a &&& enc 2147483647).toInt := by
    have hm : (enc a &&& enc 2147483647).toBitVec.msb = false := by
      show ((enc a).toBitVec &&& (enc 2147483647).toBitVec).msb = false
      rw [BitVec.msb_and, show (enc 2147483647).toBitVec.msb = false from by decide +kernel, Bool.and_false]
    show 0 ≤ (enc a &&& enc 2147483647).toBitVec.toInt
    rw [BitVec.toInt_eq_msb_cond, hm]
    exact Int.natCast_nonneg _
  have h := kk (enc a &&& enc 2147483647).toInt h0 (In_i32 _) H locs ls hP hD hS hl
  rw [enc_of] at h
  exact h
theorem tw_tabOut (X : Ok G cy c cc own nL R) {dflt lo hi : Int} {offs : Array Int} {len tgt : Nat} {a : Int} (ha : In a) (h : a < lo ∨ hi < a) (d : decode cc pc = .ok (.tableswitch dflt lo hi offs, len)) (ht : (pc : Int) + dflt = (tgt : Int)) (kk : T G c R nL k n ws tgt lv st) : T G c R nL k n ws pc lv (.int (enc a) :: st) := by
  obtain ⟨p, l, e, s, m, args, below, meth, cd, Q, A, H0⟩ := c
  obtain ⟨hx, hb, hts, hown, hml, hK, hA⟩ := X
  intro H locs ls hP hD hS hl
  exact lv_tableOut hx hb d (by rw [enc_toInt ha]; exact h) ht (kk H locs ls hP hD hS hl)
theorem tw_tabIn (X : Ok G cy c cc own nL R) {dflt lo hi : Int} {offs : Array Int} {len tgt : Nat} {a off : Int} (ha : In a) (h1 : ¬ a < lo) (h2 : ¬ hi < a) (d : decode cc pc = .ok (.tableswitch dflt lo hi offs, len)) (ho : offs[(a - lo).toNat]? = some off) (ht : (pc : Int) + off = (tgt : Int)) (kk : T G c R nL k n ws tgt lv st) : T G c R nL k n ws pc lv (.int (enc a) :: st) := by
  obtain ⟨p, l, e, s, m, args, below, meth, cd, Q, A, H0⟩ := c
  obtain ⟨hx, hb, hts, hown, hml, hK, hA⟩ := X
  intro H locs ls hP hD hS hl
  exact lv_tableIn hx hb d (by rw [enc_toInt ha]; exact h1) (by rw [enc_toInt ha]; exact h2) (by rw [enc_toInt ha]; exact ho) ht (kk H locs ls hP hD hS hl)
/-- the world in another order -/
theorem TPerm {ws' : va_W} (h : ws.Perm ws') (kk : T G c R nL k n ws' pc lv st) : T G c R nL k n ws pc lv st := by
  refine Tcells (ws' := ws') (fun H hP i q hq => ?_) (fun A hD => ?_) kk
  · obtain ⟨j, hj⟩ := List.getElem?_of_mem (h.mem_iff.mpr (List.mem_of_getElem? hq))
    exact hP j q hj
  · have hn : (ws.map Prod.fst).Nodup := by
      rw [List.nodup_iff_pairwise_ne, List.pairwise_iff_getElem]
      intro i j hi hj hij e
      simp only [List.length_map] at hi hj
      simp only [List.getElem_map] at e
      have := hD.1 i j _ _ (List.getElem?_eq_getElem hi) (List.getElem?_eq_getElem hj) e
      omega
    have hn' : (ws'.map Prod.fst).Nodup := (h.map Prod.fst).nodup_iff.mp hn
    refine ⟨fun i j p q hp hq e => ?_, fun i q hq => ?_⟩
    · rw [List.nodup_iff_pairwise_ne, List.pairwise_iff_getElem] at hn'
      have li := (List.getElem?_eq_some_iff.mp hp)
      have lj := (List.getElem?_eq_some_iff.mp hq)
      obtain ⟨li1, li2⟩ := li
      obtain ⟨lj1, lj2⟩ := lj
      rcases Nat.lt_trichotomy i j with h1 | h1 | h1
      · have := hn' i j (by simpa using li1) (by simpa using lj1) h1
        simp only [List.getElem_map] at this
        exact absurd (by rw [li2, lj2]; exact e) this
      · exact h1
      · have := hn' j i (by simpa using lj1) (by simpa using li1) h1
        simp only [List.getElem_map] at this
        exact absurd (by rw [li2, lj2]; exact e.symm) this
    · obtain ⟨j, hj⟩ := List.getElem?_of_mem (h.mem_iff.mpr (List.mem_of_getElem? hq))
      exact hD.2 j q hj
end GR
/-- segments, one behind the other -/
def cats : List va_W → va_W
  | [] => []
  | [a] => a
  | a :: b :: l => a ++ cats (b :: l)
theorem cats_flat : ∀ L : List va_W, cats L = L.flatten
  | [] => rfl
  | [a] => by simp [cats]
  | a :: b :: l => by rw [cats, cats_flat (b :: l)]; simp
theorem cats_perm (L : List va_W) (is : List Nat) (h : is.Perm (List.range L.length)) : (cats L).Perm (cats (is.map (fun i => L.getD i []))) := by
  rw [cats_flat, cats_flat]
  have e : L = (List.range L.length).map (fun i => L.getD i []) := by
    apply List.ext_getElem
    · simp
    · intro i h1 h2
      simp [h1]
  refine List.Perm.flatten ?_
  conv => lhs; rw [e]
  exact (h.map _).symm
def RetA (G : va_G) (c : Cx) (R : Room) (nL mc ms : Nat) (cc : ByteArray) (post : Option Value → va_W → Prop) : Prop := ∀ (pc : Nat) (lv : List (Nat × Value)) (x : Nat) (w1 : va_W), decode cc pc = .ok (.areturn, 1) → post (some (.ref x)) w1 → T G c R nL mc ms w1 pc lv [.ref x]
section CR
variable {G : va_G} {cy : ClassId} {y : MethodName} {b : ByteArray} {mL : Nat} {ret : Option FieldType} {rm : Room} {mc ms : Nat} {av : List Value} {ws : va_W} {post : Option Value → va_W → Prop}
theorem Ct.ofA (hy : plainName y.cls = true) (hav : (lg_sl av).length ≤ mL) {own : String} (ho : y.cls = own) {ty : FieldType} (hret : ret = some ty) (hty : (∃ n, ty = .object n) ∨ ∃ t, ty = .array t)
    (body : ∀ c : Cx, Ok G cy c b own mL rm → RetA G c rm mL mc ms b post → T G c rm mL 0 0 ws 0 (lv_args 0 av) []) : Ct G cy y b mL ret rm mc ms av ws post := by
  subst ho; subst hret
  refine Ct.body hy hav (fun p l e s m args below meth cd hr hlo _ X => body _ X ?_)
  intro pc lv x w1 d hpost H locs ls hP hD hS hl
  exact W.aret X.1 X.2.1 hr hty (Or.inr ⟨x, rfl⟩) (fun t ht _ => ⟨⟨_, w1, rfl, hpost, by rw [ht]; exact hP, hD⟩, hS.F ht⟩) hS.2.2 d hlo
/-! methods that make rows, or read the script -/
abbrev Scr : Type := Option (Nat × Nat × (Nat → Int32))
def SCo (o : Scr) (ws : va_W) (U : State) : Prop := ∀ (b L : Nat) (xs : Nat → Int32), o = some (b, L, xs) → va_X b L xs U U.heap ∧ b < U.heap.size ∧ ∀ (k : Nat) (e : va_E), ws[k]? ≠ some (b, e)
def XSo (o : Scr) (c : Cx) : Prop := match c with | (_, _, _, s, _, _, _, _, _, _, A, H0) => ∀ (b L : Nat) (xs : Nat → Int32), o = some (b, L, xs) → va_X b L xs s H0 ∧ b < H0.size ∧ ¬ A b
def CtE (G : va_G) (cy : ClassId) (o : Scr) (y : MethodName) (b : ByteArray) (mL : Nat) (ret : Option FieldType) (rm : Room) (mc ms : Nat) (av : List Value) (ws : va_W) (post : Option Value → va_W → Prop) : Prop :=
  ∀ (l : Launch) (sz : Nat), Met l y (ws_ y b mL ret) rm (va_Pc av (fun U => CtB G cy ws sz U ∧ NW U ∧ SCo o ws U)) (CtQ G cy ws sz post) mc ms (va_A ws sz)
variable {o : Scr}
theorem CtE.body (hy : plainName y.cls = true) (hav : (lg_sl av).length ≤ mL)
    (body : ∀ (p : Program) (l : Launch) (e : Env) (s : State) (m : MethodId) (args : Array Value) (below : List Frame) (meth : Method) (cd : Code), meth.sig.returnType = ret → meth.locks = false → Nc (p, l, e, s, m, args, below, meth, cd, MQ below (CtQ G cy ws s.heap.size post) args s mc ms (va_A ws s.heap.size), va_A ws s.heap.size, s.heap) → XSo o (p, l, e, s, m, args, below, meth, cd, MQ below (CtQ G cy ws s.heap.size post) args s mc ms (va_A ws s.heap.size), va_A ws s.heap.size, s.heap) → Ok G cy (p, l, e, s, m, args, below, meth, cd, MQ below (CtQ G cy ws s.heap.size post) args s mc ms (va_A ws s.heap.size), va_A ws s.heap.size, s.heap) b y.cls mL rm → T G (p, l, e, s, m, args, below, meth, cd, MQ below (CtQ G cy ws s.heap.size post) args s mc ms (va_A ws s.heap.size), va_A ws s.heap.size, s.heap) rm mL 0 0 ws 0 (lv_args 0 av) []) :
    CtE G cy o y b mL ret rm mc ms av ws post := by
  intro l sz
  refine Met.ofW (cc := b) (maxL := mL) (ret := ret) hy rfl ?_
  intro p e s m args below meth c s₁ B hml hv
  obtain ⟨rfl, ⟨hsz, hP, hK, hD0⟩, hN, hSC⟩ := hv
  subst hsz
  have hts := atoms_spec (ws := ws_ y b mL ret) B.pre
  rw [lg_entry_eq]
  refine body p l e s m av.toArray below meth c B.returns B.notSynchronized hN (fun b L xs ho => ?_) ⟨B.exec, B.bytes, fun w h => hts w (List.mem_cons_of_mem _ h), findClass_of_methodNamed B.named, hml, hK, fun q h => Or.inr h⟩ s.heap [] _ hP hD0.self va_S.rf (lv_entry av hav)
  obtain ⟨h1, h2, h3⟩ := hSC b L xs ho
  refine ⟨h1, h2, fun h => ?_⟩
  rcases h with ⟨k, e, h⟩ | h
  · exact h3 k e h
  · omega
theorem CtE.ofI (hy : plainName y.cls = true) (hav : (lg_sl av).length ≤ mL) {own : String} (ho : y.cls = own) {ty : FieldType} (hret : ret = some ty) (hn : ∀ x w1, post (some (.int x)) w1 → narrow ty (.int x) = .int x)
    (body : ∀ c : Cx, Ok G cy c b own mL rm → Nc c → XSo o c → RetI G c rm mL mc ms b post → T G c rm mL 0 0 ws 0 (lv_args 0 av) []) : CtE G cy o y b mL ret rm mc ms av ws post := by
  subst ho; subst hret
  refine CtE.body hy hav (fun p l e s m args below meth cd hr hlo hN hXS X => body _ X hN hXS ?_)
  intro pc lv x w1 d hpost H locs ls hP hD hS hl
  exact W.zret X.1 X.2.1 hr (hn x w1 hpost) (fun t ht _ => ⟨⟨_, w1, rfl, hpost, by rw [ht]; exact hP, hD⟩, hS.F ht⟩) hS.2.2 d hlo
theorem CtE.ofA (hy : plainName y.cls = true) (hav : (lg_sl av).length ≤ mL) {own : String} (ho : y.cls = own) {ty : FieldType} (hret : ret = some ty) (hty : (∃ n, ty = .object n) ∨ ∃ t, ty = .array t)
    (body : ∀ c : Cx, Ok G cy c b own mL rm → Nc c → XSo o c → RetA G c rm mL mc ms b post → T G c rm mL 0 0 ws 0 (lv_args 0 av) []) : CtE G cy o y b mL ret rm mc ms av ws post := by
  subst ho; subst hret
  refine CtE.body hy hav (fun p l e s m args below meth cd hr hlo hN hXS X => body _ X hN hXS ?_)
  intro pc lv x w1 d hpost H locs ls hP hD hS hl
  exact W.aret X.1 X.2.1 hr hty (Or.inr ⟨x, rfl⟩) (fun t ht _ => ⟨⟨_, w1, rfl, hpost, by rw [ht]; exact hP, hD⟩, hS.F ht⟩) hS.2.2 d hlo
theorem CtE.blind {sz : Nat} : FrameBlind (va_Pc av (fun U => CtB G cy ws sz U ∧ NW U ∧ SCo o ws U)) := fun a U g mk q => ⟨q.1, ⟨q.2.1.1, q.2.1.2.1, va_K.moved (u := U) (U := U.calling g mk a) (Vm.Alike.refl U.vm) q.2.1.2.2.1, q.2.1.2.2.2⟩, NW.same (u := U) (U := U.calling g mk a) rfl q.2.2.1, fun b L xs ho => by
  obtain ⟨h1, h2, h3⟩ := q.2.2.2 b L xs ho
  exact ⟨va_X.moved (u := U) (U := U.calling g mk a) (Vm.Alike.refl U.vm) h1, h2, h3⟩⟩
variable {c : Cx} {cc : ByteArray} {own : String} {nL : Nat} {R : Room} {k n : Nat} {pc : Nat} {lv : List (Nat × Value)} {st : List Value}
theorem tw_callE (X : Ok G cy c cc own nL R) (hNc : Nc c) (hXS : XSo o c) {idx np : Nat} {As : List Value} {ws1 : va_W} (hV : SW own idx y b mL ret np) (hM : CtE G cy o y b mL ret rm mc ms As ws1 post) {st0 : List Value} (Y Z : va_W) (hws : ws = Y ++ (ws1 ++ Z)) (hst : st0 = As.reverse ++ st)
    (hnp : As.length = np) (hR : rm.cells = mc ∧ rm.slots = ms ∧ rm.frames + 1 ≤ R.frames ∧ 8 + (mL + 11) + rm.locals ≤ R.locals) (hk : k + mc ≤ R.cells ∧ n + ms ≤ R.slots) (hcat : (st.map fun v => v.category).sum ≤ 8)
    (d : decode cc pc = .ok (.invokestatic idx, 3)) (kk : ∀ (v : Option Value) (w1 : va_W), post v w1 → T G c R nL (k + mc) (n + ms) (Y ++ (w1 ++ Z)) (pc + 3) lv (v.toList ++ st)) : T G c R nL k n ws pc lv st0 := by
  subst hws; subst hst; subst hnp
  obtain ⟨p, l, e, s, m, args, below, meth, cd, Q, A, H0⟩ := c
  obtain ⟨hx, hb, hts, hown, hml, hK, hA⟩ := X
  obtain ⟨v1, v2, v4, v5, v7, v8, v9⟩ := hV
  have hN : NW s := hNc
  intro H locs ls hP hD hS hl
  have hPc := segP hP
  have hDc := segD hD
  have hF := seg_free hD hS hA
  have hG : GoodIn lwA (ws_ y b mL ret) := ws_good v5
  have hSC : ∀ U : State, U.heap = H → s.vm.Alike U.vm → SCo o ws1 U := fun U hU hW b9 L9 xs9 ho => by
    obtain ⟨h1, h2, h3⟩ := hXS b9 L9 xs9 ho
    refine ⟨?_, ?_, fun k e h => h3 (hDc.2 k _ h)⟩
    · rw [hU]
      exact va_X.moved hW (h1.kept (hS.2.1 b9 h2 h3))
    · rw [hU]; exact Nat.lt_of_lt_of_le h2 hS.1
  have cw : CallB R s args own idx y b mL ret (ws_ y b mL ret) rm mc ms As.length ∧ (Cond.static y).before args s = true := ⟨callB_of As.length hts hG rfl hR.1 hR.2.1 (hts _ v4) (hts _ v1) ⟨v7, v8, v9⟩ ⟨hR.2.2.1, hR.2.2.2⟩, hts _ v2⟩
  have run := va_runS (l := l) (e := e) (below := below) (meth := meth) (locs := locs) (g := F0 m pc ls (As.reverse ++ st)) (As := As) (rest := st) ⟨hx, hb, hml, hown, hts⟩ (hM l H.size) cw ⟨CtE.blind, fun U hU hW => ⟨rfl, ⟨by rw [hU], by rw [hU]; exact hPc, va_K.moved hW.alike hK, hDc.weaken (fun _ _ _ _ => trivial)⟩, hN.warm hW, hSC U hU hW.alike⟩⟩ rfl rfl hl.1 rfl (lv_room hcat) d hk
  intro T0 hT0 X0
  obtain ⟨v, st₀, t, T', L, h0, X', hL, e1, e2, ⟨⟨v', w1, hv, hp, hP1, hD1⟩, hz, hkp⟩, go⟩ := run T0 hT0 X0
  cases hv
  rw [h0] at hz hkp
  have hkp' : ∀ q : Nat, q < H.size → ¬ va_A ws1 H.size q → T'.heap[q]? = H[q]? := fun q h1 h2 => by rw [e1]; exact hkp q h1 h2
  have hz' : H.size ≤ T'.heap.size := by rw [e1]; exact hz
  rw [← e1] at hP1
  obtain ⟨hP2, hD2⟩ := seg_join hP hD hF hkp' hP1 hD1
  have hS2 : va_S A H0 T'.heap (locs ++ L) := ⟨Nat.le_trans hS.1 hz', fun q h1 h2 => by
    rw [hkp' q (Nat.lt_of_lt_of_le h1 hS.1) (fun z => h2 (hF q z))]; exact hS.2.1 q h1 h2, fun q hq => by
    rcases List.mem_append.mp hq with h | h
    · exact hS.2.2 q h
    · exact hF _ (hL q h)⟩
  obtain ⟨t2, a1, b1⟩ := kk v w1 hp T'.heap (locs ++ L) ls hP2 hD2 hS2 hl T' rfl X'
  exact ⟨t2, go t2 a1, b1⟩
/-- reading the script -/
theorem tw_sld (X : Ok G cy c cc own nL R) {b9 L9 : Nat} {xs : Nat → Int32} (hXS : XSo (some (b9, L9, xs)) c) {i : Int} (hL : L9 < 2147483648) (hi : 0 ≤ i ∧ i < L9) (d : decode cc pc = .ok (.iaload, 1)) (kk : ∀ z : Int, In z → T G c R nL k n ws (pc + 1) lv (.int (enc z) :: st)) : T G c R nL k n ws pc lv (.int (enc i) :: .ref b9 :: st) := by
  refine (?_ : (∀ x : Int32, T G c R nL k n ws (pc + 1) lv (.int x :: st)) → _) (fun x => Tany kk)
  intro kk2
  obtain ⟨p, l, e, s, m, args, below, meth, cd, Q, A, H0⟩ := c
  obtain ⟨hx, hb, hts, hown, hml, hK, hA⟩ := X
  obtain ⟨h1, h2, h3⟩ := hXS b9 L9 xs rfl
  intro H locs ls hP hD hS hl
  exact va_sld hx hb h1 h2 h3 hS (enc_in hi hL) d (kk2 _ H locs ls hP hD hS hl)
theorem tw_slen (X : Ok G cy c cc own nL R) {b9 L9 : Nat} {xs : Nat → Int32} (hXS : XSo (some (b9, L9, xs)) c) (d : decode cc pc = .ok (.arraylength, 1)) (kk : T G c R nL k n ws (pc + 1) lv (.int (enc L9) :: st)) : T G c R nL k n ws pc lv (.ref b9 :: st) := by
  obtain ⟨p, l, e, s, m, args, below, meth, cd, Q, A, H0⟩ := c
  obtain ⟨hx, hb, hts, hown, hml, hK, hA⟩ := X
  obtain ⟨h1, h2, h3⟩ := hXS b9 L9 xs rfl
  intro H locs ls hP hD hS hl
  refine va_slen hx hb h1 h2 h3 hS d ?_
  rw [show Int32.ofNat L9 = enc (L9 : Int) from by show Int32.ofNat L9 = Int32.ofInt (L9 : Int); rw [Int32.ofInt_eq_ofNat]]
  exact kk H locs ls hP hD hS hl
end CR
