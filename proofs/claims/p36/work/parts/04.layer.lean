/-! THE LAYER: numbers as Int under enc; one list of words lwA; the judgement T (a T-row an instruction); contracts Ct -/
def enc (z : Int) : Int32 := Int32.ofInt z
def In (z : Int) : Prop := -2147483648 ≤ z ∧ z < 2147483648
theorem enc_toInt {z : Int} (h : In z) : (enc z).toInt = z := Int32.toInt_ofInt_of_le (by have := h.1; omega) (by have := h.2; omega)
theorem enc_of (x : Int32) : enc x.toInt = x := Int32.ofInt_toInt x
theorem enc_add (a b : Int) : enc a + enc b = enc (a + b) := by unfold enc; rw [Int32.ofInt_add]
theorem enc_sub (a b : Int) : enc a - enc b = enc (a - b) := by unfold enc; rw [Int32.ofInt_sub]
theorem enc_mul (a b : Int) : enc a * enc b = enc (a * b) := by unfold enc; rw [Int32.ofInt_mul]
theorem enc_eq {a b : Int} (ha : In a) (hb : In b) : enc a = enc b ↔ a = b := by
  rw [← Int32.toInt_inj, enc_toInt ha, enc_toInt hb]
theorem enc_lt {a b : Int} (ha : In a) (hb : In b) : enc a < enc b ↔ a < b := by
  rw [Int32.lt_iff_toInt_lt, enc_toInt ha, enc_toInt hb]
theorem enc_le {a b : Int} (ha : In a) (hb : In b) : enc a ≤ enc b ↔ a ≤ b := by
  rw [Int32.le_iff_toInt_le, enc_toInt ha, enc_toInt hb]
theorem enc_0 : enc 0 = 0 := rfl
theorem In0 : In 0 := ⟨by decide, by decide⟩
theorem enc_nat {z : Int} (h : In z) : (enc z).toNatClampNeg = z.toNat := by
  rw [← Int32.toNat_toInt, enc_toInt h]
theorem enc_in {z : Int} {n : Nat} (h : 0 ≤ z ∧ z < n) (hn : n < 2147483648) : vp_in (enc z) n := by
  rw [vp_in_iff, enc_toInt ⟨by omega, by omega⟩]
  exact h
theorem enc_l {z : Int} (h : In z) : (enc z).toInt64 = Int64.ofInt z := by
  unfold enc
  exact Int32.toInt64_ofInt (by have := h.1; show (-2147483648 : Int) ≤ z; exact this) (by have := h.2; show z ≤ (2147483647 : Int); omega)
/-- an array of ints out of a function of Int -/
def ea (f : Int → Int) : Nat → Int32 := fun j => enc (f j)
def ups (f : Int → Int) (i v : Int) : Int → Int := fun j => if j = i then v else f j
theorem ups_same (f : Int → Int) (i v : Int) : ups f i v i = v := if_pos rfl
theorem ups_ne {f : Int → Int} {i j : Int} (v : Int) (h : j ≠ i) : ups f i v j = f j := if_neg h
theorem ea_upd (f : Int → Int) {i : Int} (h : 0 ≤ i) (hi : In i) (v : Int) : upd (ea f) (enc i).toNatClampNeg (enc v) = ea (ups f i v) := by
  funext j
  rw [enc_nat hi]
  unfold upd ea ups
  by_cases hj : j = i.toNat
  · rw [if_pos hj, if_pos (by omega)]
  · rw [if_neg hj, if_neg (by omega)]
theorem ea_at (f : Int → Int) {i : Int} (h : 0 ≤ i) (hi : In i) : ea f (enc i).toNatClampNeg = enc (f i) := by
  rw [enc_nat hi]
  unfold ea
  rw [show ((i.toNat : Nat) : Int) = i by omega]
theorem cell_congr {cA : ClassId} {n : Nat} {f g : Nat → Int32} (h : ∀ j, j < n → f j = g j) : vp_cell cA (n, .inl f) = vp_cell cA (n, .inl g) := by
  have e : (Array.ofFn (n := n) fun j => Value.int (f j.val)) = Array.ofFn (n := n) fun j => Value.int (g j.val) := by
    congr 1
    funext j
    rw [h j.val j.isLt]
  show ({ cls := cA, slots := Array.ofFn (n := n) fun j => Value.int (f j.val), vm := .none } : Cell) = _
  rw [e]
  rfl
/-! the one list of words -/
def lwA : List Cond := lw_tbl.filter goodWord
theorem lwA_tbl {w : Cond} (h : w ∈ lwA) : w ∈ lw_tbl := (List.mem_filter.mp h).1
theorem wdm {w : Cond} (i : Nat) (h : tables_1[i]? = some w) (g : goodWord w = true) : w ∈ lwA := List.mem_filter.mpr ⟨List.mem_append_right _ (List.mem_of_getElem? h), g⟩
theorem wds {w : Cond} (i : Nat) (h : (k2_sels lw_privs)[i]? = some w) (g : goodWord w = true) : w ∈ lwA := List.mem_filter.mpr ⟨List.mem_append_left _ (List.mem_of_getElem? h), g⟩
theorem lwA_good : GoodIn lwA lwA := fun _ h => ⟨h, good_of_word (List.mem_filter.mp h).2⟩
def ws_ (y : MethodName) (b : ByteArray) (mL : Nat) (ret : Option FieldType) : List Cond := .code y b mL ret :: lwA
theorem ws_good {y : MethodName} {b : ByteArray} {mL : Nat} {ret : Option FieldType} (h : Cond.code y b mL ret ∈ lwA) : GoodIn lwA (ws_ y b mL ret) := fun w hw => (List.mem_cons.mp hw).elim (fun e => by rw [e]; exact lwA_good _ h) (fun h => lwA_good w h)
/-! the judgement -/
/-- the array classes: ints, booleans, rows of ints -/
def tyl (G : va_G) (cy : ClassId) : List (ClassId × FieldType) := [(cy, .int), (G.1 100, .boolean), (G.1 101, .array .int)]
abbrev Cx : Type := Program × Launch × Env × State × MethodId × Array Value × List Frame × Method × Code × (State → Prop) × (Nat → Prop) × Heap
def T (G : va_G) (c : Cx) (R : Room) (nL : Nat) (k n : Nat) (ws : va_W) (pc : Nat) (lv : List (Nat × Value)) (st : List Value) : Prop :=
  match c with
  | (p, l, e, s, m, args, below, meth, cd, Q, A, H0) => ∀ (H : Heap) (locs : List Loc) (ls : Array Slot), va_P G vwCl ws H → va_D A ws → va_S A H0 H locs → lv_has ls nL lv → W p l e R s m args below meth cd H locs k n Q (F0 m pc ls st)
def Ok (G : va_G) (cy : ClassId) (c : Cx) (cc : ByteArray) (own : String) (nL : Nat) (R : Room) : Prop :=
  match c with
  | (p, _, _, s, m, args, _, _, cd, _, A, H0) => p.tables.exec = Jvm.exec ∧ cd.code = cc ∧ (∀ w ∈ lwA, w.before args s = true) ∧ s.vm.findClass own = some m.cls ∧ cd.maxLocals = nL ∧ va_K G vwCl (tyl G cy) s ∧ ∀ q, H0.size ≤ q → A q
section TR
variable {G : va_G} {cy : ClassId} {c : Cx} {cc : ByteArray} {own : String} {nL : Nat} {R : Room} {k n : Nat} {ws : va_W} {pc : Nat} {lv : List (Nat × Value)} {st : List Value}
theorem Teq {ws' : va_W} {lv' : List (Nat × Value)} {st' : List Value} (h1 : ws = ws') (h2 : lv = lv') (h3 : st = st') (kk : T G c R nL k n ws' pc lv' st') : T G c R nL k n ws pc lv st := by
  subst h1; subst h2; subst h3; exact kk
theorem Tws {ws' : va_W} (h1 : ws = ws') (kk : T G c R nL k n ws' pc lv st) : T G c R nL k n ws pc lv st := by
  subst h1; exact kk
theorem Tst {st' : List Value} (h1 : st = st') (kk : T G c R nL k n ws pc lv st') : T G c R nL k n ws pc lv st := by
  subst h1; exact kk
theorem Tlv {lv' : List (Nat × Value)} (h1 : lv = lv') (kk : T G c R nL k n ws pc lv' st) : T G c R nL k n ws pc lv st := by
  subst h1; exact kk
/-- fewer locals, by their places -/
theorem Tsub {lv' : List (Nat × Value)} (ks : List Nat) (hl : lv_pick lv ks = lv') (kk : T G c R nL k n ws pc lv' st) : T G c R nL k n ws pc lv st := by
  obtain ⟨p, l, e, s, m, args, below, meth, cd, Q, A, H0⟩ := c
  intro H locs ls hP hD hS h
  exact kk H locs ls hP hD hS (lv_sub h ks hl)
/-- the world's cells hold the same where it can be seen -/
theorem Tcells {ws' : va_W} (h : ∀ H : Heap, va_P G vwCl ws H → va_P G vwCl ws' H) (h2 : ∀ A : Nat → Prop, va_D A ws → va_D A ws') (kk : T G c R nL k n ws' pc lv st) : T G c R nL k n ws pc lv st := by
  obtain ⟨p, l, e, s, m, args, below, meth, cd, Q, A, H0⟩ := c
  intro H locs ls hP hD hS hl
  exact kk H locs ls (h H hP) (h2 A hD) hS hl
theorem Twiden {k' n' : Nat} (h1 : k ≤ k') (h2 : n ≤ n') (kk : T G c R nL k' n' ws pc lv st) : T G c R nL k n ws pc lv st := by
  obtain ⟨p, l, e, s, m, args, below, meth, cd, Q, A, H0⟩ := c
  intro H locs ls hP hD hS hl
  exact W.widen h1 h2 (kk H locs ls hP hD hS hl)
theorem tw_iconst (X : Ok G cy c cc own nL R) {z : Int} (d : decode cc pc = .ok (.iconst z, 1)) (kk : T G c R nL k n ws (pc + 1) lv (.int (enc z) :: st)) : T G c R nL k n ws pc lv st := by
  obtain ⟨p, l, e, s, m, args, below, meth, cd, Q, A, H0⟩ := c
  obtain ⟨hx, hb, hts, hown, hml, hK, hA⟩ := X
  intro H locs ls hP hD hS hl
  exact lv_iconst (v := enc z) hx hb d rfl (kk H locs ls hP hD hS hl)
theorem tw_bipush (X : Ok G cy c cc own nL R) {z : Int} (d : decode cc pc = .ok (.bipush z, 2)) (hz : (Int8.ofInt z).toInt32 = enc z) (kk : T G c R nL k n ws (pc + 2) lv (.int (enc z) :: st)) : T G c R nL k n ws pc lv st := by
  obtain ⟨p, l, e, s, m, args, below, meth, cd, Q, A, H0⟩ := c
  obtain ⟨hx, hb, hts, hown, hml, hK, hA⟩ := X
  intro H locs ls hP hD hS hl
  exact lv_bipush (v := enc z) hx hb d hz (kk H locs ls hP hD hS hl)
theorem tw_sipush (X : Ok G cy c cc own nL R) {z : Int} (d : decode cc pc = .ok (.sipush z, 3)) (hz : (Int16.ofInt z).toInt32 = enc z) (kk : T G c R nL k n ws (pc + 3) lv (.int (enc z) :: st)) : T G c R nL k n ws pc lv st := by
  obtain ⟨p, l, e, s, m, args, below, meth, cd, Q, A, H0⟩ := c
  obtain ⟨hx, hb, hts, hown, hml, hK, hA⟩ := X
  intro H locs ls hP hD hS hl
  exact lv_sipush (v := enc z) hx hb d hz (kk H locs ls hP hD hS hl)
theorem tw_ldc (X : Ok G cy c cc own nL R) {i : Nat} {v : Int32} {z : Int} (hw : Cond.constant own i v ∈ lwA) (hz : v = enc z) (d : decode cc pc = .ok (.ldc i, 2)) (kk : T G c R nL k n ws (pc + 2) lv (.int (enc z) :: st)) : T G c R nL k n ws pc lv st := by
  obtain ⟨p, l, e, s, m, args, below, meth, cd, Q, A, H0⟩ := c
  obtain ⟨hx, hb, hts, hown, hml, hK, hA⟩ := X
  intro H locs ls hP hD hS hl
  subst hz
  exact lv_ldc hx hb hown (hts _ hw) d (kk H locs ls hP hD hS hl)
theorem tw_ldc2 (X : Ok G cy c cc own nL R) {i : Nat} {v : Int64} (hw : Cond.constantLong own i v ∈ lwA) (d : decode cc pc = .ok (.ldc2_w i, 3)) (kk : T G c R nL k n ws (pc + 3) lv (.long v :: st)) : T G c R nL k n ws pc lv st := by
  obtain ⟨p, l, e, s, m, args, below, meth, cd, Q, A, H0⟩ := c
  obtain ⟨hx, hb, hts, hown, hml, hK, hA⟩ := X
  intro H locs ls hP hD hS hl
  exact lv_ldc2 hx hb hown (hts _ hw) d (kk H locs ls hP hD hS hl)
theorem tw_lconst (X : Ok G cy c cc own nL R) {z : Fin 2} {v : Int64} (d : decode cc pc = .ok (.lconst z, 1)) (hv : Int64.ofNat (z : Nat) = v) (kk : T G c R nL k n ws (pc + 1) lv (.long v :: st)) : T G c R nL k n ws pc lv st := by
  obtain ⟨p, l, e, s, m, args, below, meth, cd, Q, A, H0⟩ := c
  obtain ⟨hx, hb, hts, hown, hml, hK, hA⟩ := X
  intro H locs ls hP hD hS hl
  exact lv_lconst hx hb d hv (kk H locs ls hP hD hS hl)
theorem tw_iload_n (X : Ok G cy c cc own nL R) {i : Fin 4} {j : Nat} {x : Int32} (d : decode cc pc = .ok (.iload_n i, 1)) (q : Nat) (hj : (i : Nat) = j) (hq : lv[q]? = some (j, .int x)) (kk : T G c R nL k n ws (pc + 1) lv (.int x :: st)) : T G c R nL k n ws pc lv st := by
  obtain ⟨p, l, e, s, m, args, below, meth, cd, Q, A, H0⟩ := c
  obtain ⟨hx, hb, hts, hown, hml, hK, hA⟩ := X
  intro H locs ls hP hD hS hl
  exact lv_iload_n hx hb d hj (lv_at hl q hq) (kk H locs ls hP hD hS hl)
theorem tw_lload_n (X : Ok G cy c cc own nL R) {i : Fin 4} {j : Nat} {x : Int64} (d : decode cc pc = .ok (.lload_n i, 1)) (q : Nat) (hj : (i : Nat) = j) (hq : lv[q]? = some (j, .long x)) (kk : T G c R nL k n ws (pc + 1) lv (.long x :: st)) : T G c R nL k n ws pc lv st := by
  obtain ⟨p, l, e, s, m, args, below, meth, cd, Q, A, H0⟩ := c
  obtain ⟨hx, hb, hts, hown, hml, hK, hA⟩ := X
  intro H locs ls hP hD hS hl
  exact lv_lload_n hx hb d hj (lv_at hl q hq) (kk H locs ls hP hD hS hl)
theorem tw_aload_n (X : Ok G cy c cc own nL R) {i : Fin 4} {j : Nat} {x : Nat} (d : decode cc pc = .ok (.aload_n i, 1)) (q : Nat) (hj : (i : Nat) = j) (hq : lv[q]? = some (j, .ref x)) (kk : T G c R nL k n ws (pc + 1) lv (.ref x :: st)) : T G c R nL k n ws pc lv st := by
  obtain ⟨p, l, e, s, m, args, below, meth, cd, Q, A, H0⟩ := c
  obtain ⟨hx, hb, hts, hown, hml, hK, hA⟩ := X
  intro H locs ls hP hD hS hl
  exact lv_aload_n hx hb d hj (lv_at hl q hq) (kk H locs ls hP hD hS hl)
theorem tw_iload (X : Ok G cy c cc own nL R) {j : Nat} {x : Int32} (d : decode cc pc = .ok (.iload j, 2)) (q : Nat) (hq : lv[q]? = some (j, .int x)) (kk : T G c R nL k n ws (pc + 2) lv (.int x :: st)) : T G c R nL k n ws pc lv st := by
  obtain ⟨p, l, e, s, m, args, below, meth, cd, Q, A, H0⟩ := c
  obtain ⟨hx, hb, hts, hown, hml, hK, hA⟩ := X
  intro H locs ls hP hD hS hl
  exact lv_iload hx hb d (lv_at hl q hq) (kk H locs ls hP hD hS hl)
theorem tw_lload (X : Ok G cy c cc own nL R) {j : Nat} {x : Int64} (d : decode cc pc = .ok (.lload j, 2)) (q : Nat) (hq : lv[q]? = some (j, .long x)) (kk : T G c R nL k n ws (pc + 2) lv (.long x :: st)) : T G c R nL k n ws pc lv st := by
  obtain ⟨p, l, e, s, m, args, below, meth, cd, Q, A, H0⟩ := c
  obtain ⟨hx, hb, hts, hown, hml, hK, hA⟩ := X
  intro H locs ls hP hD hS hl
  exact lv_lload hx hb d (lv_at hl q hq) (kk H locs ls hP hD hS hl)
theorem tw_aload (X : Ok G cy c cc own nL R) {j : Nat} {x : Nat} (d : decode cc pc = .ok (.aload j, 2)) (q : Nat) (hq : lv[q]? = some (j, .ref x)) (kk : T G c R nL k n ws (pc + 2) lv (.ref x :: st)) : T G c R nL k n ws pc lv st := by
  obtain ⟨p, l, e, s, m, args, below, meth, cd, Q, A, H0⟩ := c
  obtain ⟨hx, hb, hts, hown, hml, hK, hA⟩ := X
  intro H locs ls hP hD hS hl
  exact lv_aload hx hb d (lv_at hl q hq) (kk H locs ls hP hD hS hl)
theorem tw_dload (X : Ok G cy c cc own nL R) {j : Nat} {x : UInt64} (d : decode cc pc = .ok (.dload j, 2)) (q : Nat) (hq : lv[q]? = some (j, .double x)) (kk : T G c R nL k n ws (pc + 2) lv (.double x :: st)) : T G c R nL k n ws pc lv st := by
  obtain ⟨p, l, e, s, m, args, below, meth, cd, Q, A, H0⟩ := c
  obtain ⟨hx, hb, hts, hown, hml, hK, hA⟩ := X
  intro H locs ls hP hD hS hl
  exact lv_dload hx hb d (lv_at hl q hq) (kk H locs ls hP hD hS hl)
theorem tw_istore_n (X : Ok G cy c cc own nL R) {i : Fin 4} {j : Nat} {x : Int32} {lv' : List (Nat × Value)} (d : decode cc pc = .ok (.istore_n i, 1)) (hj : (i : Nat) = j) (hn : j < nL) (hv : (j, Value.int x) :: lv.filter (fun q => !(q.1 == j) && !(q.1 + 1 == j && q.2.category == 2)) = lv') (kk : T G c R nL k n ws (pc + 1) lv' st) : T G c R nL k n ws pc lv (.int x :: st) := by
  obtain ⟨p, l, e, s, m, args, below, meth, cd, Q, A, H0⟩ := c
  obtain ⟨hx, hb, hts, hown, hml, hK, hA⟩ := X
  intro H locs ls hP hD hS hl
  exact lv_istore_n hx hb d hj hl hn hv (fun ls hl => kk H locs ls hP hD hS hl)
theorem tw_astore_n (X : Ok G cy c cc own nL R) {i : Fin 4} {j : Nat} {x : Nat} {lv' : List (Nat × Value)} (d : decode cc pc = .ok (.astore_n i, 1)) (hj : (i : Nat) = j) (hn : j < nL) (hv : (j, Value.ref x) :: lv.filter (fun q => !(q.1 == j) && !(q.1 + 1 == j && q.2.category == 2)) = lv') (kk : T G c R nL k n ws (pc + 1) lv' st) : T G c R nL k n ws pc lv (.ref x :: st) := by
  obtain ⟨p, l, e, s, m, args, below, meth, cd, Q, A, H0⟩ := c
  obtain ⟨hx, hb, hts, hown, hml, hK, hA⟩ := X
  intro H locs ls hP hD hS hl
  exact lv_astore_n hx hb d hj hl hn hv (fun ls hl => kk H locs ls hP hD hS hl)
theorem tw_lstore_n (X : Ok G cy c cc own nL R) {i : Fin 4} {j : Nat} {x : Int64} {lv' : List (Nat × Value)} (d : decode cc pc = .ok (.lstore_n i, 1)) (hj : (i : Nat) = j) (hn : j + 1 < nL) (hv : (j, Value.long x) :: lv.filter (fun q => !(q.1 == j) && (!(q.1 == j + 1) && !(q.1 + 1 == j && q.2.category == 2))) = lv') (kk : T G c R nL k n ws (pc + 1) lv' st) : T G c R nL k n ws pc lv (.long x :: st) := by
  obtain ⟨p, l, e, s, m, args, below, meth, cd, Q, A, H0⟩ := c
  obtain ⟨hx, hb, hts, hown, hml, hK, hA⟩ := X
  intro H locs ls hP hD hS hl
  exact lv_lstore_n hx hb d hj hl hn hv (fun ls hl => kk H locs ls hP hD hS hl)
theorem tw_istore (X : Ok G cy c cc own nL R) {j : Nat} {x : Int32} {lv' : List (Nat × Value)} (d : decode cc pc = .ok (.istore j, 2)) (hn : j < nL) (hv : (j, Value.int x) :: lv.filter (fun q => !(q.1 == j) && !(q.1 + 1 == j && q.2.category == 2)) = lv') (kk : T G c R nL k n ws (pc + 2) lv' st) : T G c R nL k n ws pc lv (.int x :: st) := by
  obtain ⟨p, l, e, s, m, args, below, meth, cd, Q, A, H0⟩ := c
  obtain ⟨hx, hb, hts, hown, hml, hK, hA⟩ := X
  intro H locs ls hP hD hS hl
  exact lv_istore hx hb d hl hn hv (fun ls hl => kk H locs ls hP hD hS hl)
theorem tw_astore (X : Ok G cy c cc own nL R) {j : Nat} {x : Nat} {lv' : List (Nat × Value)} (d : decode cc pc = .ok (.astore j, 2)) (hn : j < nL) (hv : (j, Value.ref x) :: lv.filter (fun q => !(q.1 == j) && !(q.1 + 1 == j && q.2.category == 2)) = lv') (kk : T G c R nL k n ws (pc + 2) lv' st) : T G c R nL k n ws pc lv (.ref x :: st) := by
  obtain ⟨p, l, e, s, m, args, below, meth, cd, Q, A, H0⟩ := c
  obtain ⟨hx, hb, hts, hown, hml, hK, hA⟩ := X
  intro H locs ls hP hD hS hl
  exact lv_astore hx hb d hl hn hv (fun ls hl => kk H locs ls hP hD hS hl)
theorem tw_lstore (X : Ok G cy c cc own nL R) {j : Nat} {x : Int64} {lv' : List (Nat × Value)} (d : decode cc pc = .ok (.lstore j, 2)) (hn : j + 1 < nL) (hv : (j, Value.long x) :: lv.filter (fun q => !(q.1 == j) && (!(q.1 == j + 1) && !(q.1 + 1 == j && q.2.category == 2))) = lv') (kk : T G c R nL k n ws (pc + 2) lv' st) : T G c R nL k n ws pc lv (.long x :: st) := by
  obtain ⟨p, l, e, s, m, args, below, meth, cd, Q, A, H0⟩ := c
  obtain ⟨hx, hb, hts, hown, hml, hK, hA⟩ := X
  intro H locs ls hP hD hS hl
  exact lv_lstore hx hb d hl hn hv (fun ls hl => kk H locs ls hP hD hS hl)
theorem tw_dstore (X : Ok G cy c cc own nL R) {j : Nat} {x : UInt64} {lv' : List (Nat × Value)} (d : decode cc pc = .ok (.dstore j, 2)) (hn : j + 1 < nL) (hv : (j, Value.double x) :: lv.filter (fun q => !(q.1 == j) && (!(q.1 == j + 1) && !(q.1 + 1 == j && q.2.category == 2))) = lv') (kk : T G c R nL k n ws (pc + 2) lv' st) : T G c R nL k n ws pc lv (.double x :: st) := by
  obtain ⟨p, l, e, s, m, args, below, meth, cd, Q, A, H0⟩ := c
  obtain ⟨hx, hb, hts, hown, hml, hK, hA⟩ := X
  intro H locs ls hP hD hS hl
  exact lv_dstore hx hb d hl hn hv (fun ls hl => kk H locs ls hP hD hS hl)
theorem tw_iinc (X : Ok G cy c cc own nL R) {j q : Nat} {z x y : Int} {lv' : List (Nat × Value)} (d : decode cc pc = .ok (.iinc j z, 3)) (hq : lv[q]? = some (j, .int (enc x))) (hy : x + z = y) (hn : j < nL) (hv : (j, Value.int (enc y)) :: lv.filter (fun q => !(q.1 == j) && !(q.1 + 1 == j && q.2.category == 2)) = lv') (kk : T G c R nL k n ws (pc + 3) lv' st) : T G c R nL k n ws pc lv st := by
  obtain ⟨p, l, e, s, m, args, below, meth, cd, Q, A, H0⟩ := c
  obtain ⟨hx, hb, hts, hown, hml, hK, hA⟩ := X
  intro H locs ls hP hD hS hl
  subst hy
  exact lv_iinc (v := enc (x + z)) hx hb d hl hq (enc_add x z) hn hv (fun ls hl => kk H locs ls hP hD hS hl)
theorem tw_iadd (X : Ok G cy c cc own nL R) {a b z : Int} (d : decode cc pc = .ok (.iadd, 1)) (hz : a + b = z) (kk : T G c R nL k n ws (pc + 1) lv (.int (enc z) :: st)) : T G c R nL k n ws pc lv (.int (enc b) :: .int (enc a) :: st) := by
  obtain ⟨p, l, e, s, m, args, below, meth, cd, Q, A, H0⟩ := c
  obtain ⟨hx, hb, hts, hown, hml, hK, hA⟩ := X
  intro H locs ls hP hD hS hl
  subst hz
  refine lv_iadd hx hb d ?_
  rw [enc_add]
  exact kk H locs ls hP hD hS hl
theorem tw_isub (X : Ok G cy c cc own nL R) {a b z : Int} (d : decode cc pc = .ok (.isub, 1)) (hz : a - b = z) (kk : T G c R nL k n ws (pc + 1) lv (.int (enc z) :: st)) : T G c R nL k n ws pc lv (.int (enc b) :: .int (enc a) :: st) := by
  obtain ⟨p, l, e, s, m, args, below, meth, cd, Q, A, H0⟩ := c
  obtain ⟨hx, hb, hts, hown, hml, hK, hA⟩ := X
  intro H locs ls hP hD hS hl
  subst hz
  refine lv_isub hx hb d ?_
  rw [enc_sub]
  exact kk H locs ls hP hD hS hl
theorem tw_imul (X : Ok G cy c cc own nL R) {a b z : Int} (d : decode cc pc = .ok (.imul, 1)) (hz : a * b = z) (kk : T G c R nL k n ws (pc + 1) lv (.int (enc z) :: st)) : T G c R nL k n ws pc lv (.int (enc b) :: .int (enc a) :: st) := by
  obtain ⟨p, l, e, s, m, args, below, meth, cd, Q, A, H0⟩ := c
  obtain ⟨hx, hb, hts, hown, hml, hK, hA⟩ := X
  intro H locs ls hP hD hS hl
  subst hz
  refine lv_imul hx hb d ?_
  rw [enc_mul]
  exact kk H locs ls hP hD hS hl
theorem tw_ladd (X : Ok G cy c cc own nL R) {a b : Int64} (d : decode cc pc = .ok (.ladd, 1)) (kk : T G c R nL k n ws (pc + 1) lv (.long (a + b) :: st)) : T G c R nL k n ws pc lv (.long b :: .long a :: st) := by
  obtain ⟨p, l, e, s, m, args, below, meth, cd, Q, A, H0⟩ := c
  obtain ⟨hx, hb, hts, hown, hml, hK, hA⟩ := X
  intro H locs ls hP hD hS hl
  exact lv_ladd hx hb d (kk H locs ls hP hD hS hl)
theorem tw_lmul (X : Ok G cy c cc own nL R) {a b : Int64} (d : decode cc pc = .ok (.lmul, 1)) (kk : T G c R nL k n ws (pc + 1) lv (.long (a * b) :: st)) : T G c R nL k n ws pc lv (.long b :: .long a :: st) := by
  obtain ⟨p, l, e, s, m, args, below, meth, cd, Q, A, H0⟩ := c
  obtain ⟨hx, hb, hts, hown, hml, hK, hA⟩ := X
  intro H locs ls hP hD hS hl
  exact lv_lmul hx hb d (kk H locs ls hP hD hS hl)
theorem tw_i2l (X : Ok G cy c cc own nL R) {z : Int} (hz : In z) (d : decode cc pc = .ok (.i2l, 1)) (kk : T G c R nL k n ws (pc + 1) lv (.long (Int64.ofInt z) :: st)) : T G c R nL k n ws pc lv (.int (enc z) :: st) := by
  obtain ⟨p, l, e, s, m, args, below, meth, cd, Q, A, H0⟩ := c
  obtain ⟨hx, hb, hts, hown, hml, hK, hA⟩ := X
  intro H locs ls hP hD hS hl
  exact lv_i2l hx hb d (enc_l hz) (kk H locs ls hP hD hS hl)
theorem tw_i2d (X : Ok G cy c cc own nL R) {x : Int32} (d : decode cc pc = .ok (.i2d, 1)) (kk : T G c R nL k n ws (pc + 1) lv (.double (FP.i2d x) :: st)) : T G c R nL k n ws pc lv (.int x :: st) := by
  obtain ⟨p, l, e, s, m, args, below, meth, cd, Q, A, H0⟩ := c
  obtain ⟨hx, hb, hts, hown, hml, hK, hA⟩ := X
  intro H locs ls hP hD hS hl
  exact lv_i2d hx hb d (kk H locs ls hP hD hS hl)
theorem tw_ddiv (X : Ok G cy c cc own nL R) {x y : UInt64} (hne : vf_n64 (FP.ddiv x y)) (d : decode cc pc = .ok (.ddiv, 1)) (kk : T G c R nL k n ws (pc + 1) lv (.double (FP.ddiv x y) :: st)) : T G c R nL k n ws pc lv (.double y :: .double x :: st) := by
  obtain ⟨p, l, e, s, m, args, below, meth, cd, Q, A, H0⟩ := c
  obtain ⟨hx, hb, hts, hown, hml, hK, hA⟩ := X
  intro H locs ls hP hD hS hl
  exact lv_ddiv hx hb d hne (kk H locs ls hP hD hS hl)
theorem tw_dcmp (X : Ok G cy c cc own nL R) {x y : UInt64} {op : CmpOp} (d : decode cc pc = .ok (.dcmp op, 1)) (kk : T G c R nL k n ws (pc + 1) lv (.int (Op.cmpValue (FP.dcmp x y) op) :: st)) : T G c R nL k n ws pc lv (.double y :: .double x :: st) := by
  obtain ⟨p, l, e, s, m, args, below, meth, cd, Q, A, H0⟩ := c
  obtain ⟨hx, hb, hts, hown, hml, hK, hA⟩ := X
  intro H locs ls hP hD hS hl
  exact lv_dcmp hx hb d (kk H locs ls hP hD hS hl)
theorem tw_dconst0 (X : Ok G cy c cc own nL R) (d : decode cc pc = .ok (.dconst 0, 1)) (kk : T G c R nL k n ws (pc + 1) lv (.double FP.dconst0 :: st)) : T G c R nL k n ws pc lv st := by
  obtain ⟨p, l, e, s, m, args, below, meth, cd, Q, A, H0⟩ := c
  obtain ⟨hx, hb, hts, hown, hml, hK, hA⟩ := X
  intro H locs ls hP hD hS hl
  exact lv_dconst0 hx hb d (kk H locs ls hP hD hS hl)
theorem tw_dup (X : Ok G cy c cc own nL R) {v : Value} (d : decode cc pc = .ok (.dup, 1)) (hv : v.category = 1) (kk : T G c R nL k n ws (pc + 1) lv (v :: v :: st)) : T G c R nL k n ws pc lv (v :: st) := by
  obtain ⟨p, l, e, s, m, args, below, meth, cd, Q, A, H0⟩ := c
  obtain ⟨hx, hb, hts, hown, hml, hK, hA⟩ := X
  intro H locs ls hP hD hS hl
  exact lv_dup hx hb d hv (kk H locs ls hP hD hS hl)
theorem tw_dup2 (X : Ok G cy c cc own nL R) {v w : Value} (d : decode cc pc = .ok (.dup2, 1)) (hv : v.category = 1) (hw : w.category = 1) (kk : T G c R nL k n ws (pc + 1) lv (v :: w :: v :: w :: st)) : T G c R nL k n ws pc lv (v :: w :: st) := by
  obtain ⟨p, l, e, s, m, args, below, meth, cd, Q, A, H0⟩ := c
  obtain ⟨hx, hb, hts, hown, hml, hK, hA⟩ := X
  intro H locs ls hP hD hS hl
  exact lv_dup2_11 hx hb d hv hw (kk H locs ls hP hD hS hl)
theorem tw_goto (X : Ok G cy c cc own nL R) {off : Int} {tgt : Nat} (d : decode cc pc = .ok (.goto off, 3)) (ht : (pc : Int) + off = (tgt : Int)) (kk : T G c R nL k n ws tgt lv st) : T G c R nL k n ws pc lv st := by
  obtain ⟨p, l, e, s, m, args, below, meth, cd, Q, A, H0⟩ := c
  obtain ⟨hx, hb, hts, hown, hml, hK, hA⟩ := X
  intro H locs ls hP hD hS hl
  exact lv_goto hx hb d ht (kk H locs ls hP hD hS hl)
theorem tw_lcmp (X : Ok G cy c cc own nL R) {x y : Int64} (d : decode cc pc = .ok (.lcmp, 1)) (kk : T G c R nL k n ws (pc + 1) lv (.int (lg_cmp x y) :: st)) : T G c R nL k n ws pc lv (.long y :: .long x :: st) := by
  obtain ⟨p, l, e, s, m, args, below, meth, cd, Q, A, H0⟩ := c
  obtain ⟨hx, hb, hts, hown, hml, hK, hA⟩ := X
  intro H locs ls hP hD hS hl
  exact W.lcmp hx hb d (kk H locs ls hP hD hS hl)
theorem tw_if_eq (X : Ok G cy c cc own nL R) {a : Int} {off : Int} {tgt : Nat} (h : In a) (d : decode cc pc = .ok (.ifCond .eq off, 3)) (ht : (pc : Int) + off = (tgt : Int)) (kt : a = 0 → T G c R nL k n ws tgt lv st) (kf : a ≠ 0 → T G c R nL k n ws (pc + 3) lv st) : T G c R nL k n ws pc lv (.int (enc a) :: st) := by
  obtain ⟨p, l, e, s, m, args, below, meth, cd, Q, A, H0⟩ := c
  obtain ⟨hx, hb, hts, hown, hml, hK, hA⟩ := X
  intro H locs ls hP hD hS hl
  exact lv_if_eq hx hb d ht (fun q => kt ((by rw [← enc_0] at q; exact (enc_eq h In0).mp q)) H locs ls hP hD hS hl) (fun q => kf ((by rw [← enc_0] at q; exact fun z => q ((enc_eq h In0).mpr z))) H locs ls hP hD hS hl)
theorem tw_if_ne (X : Ok G cy c cc own nL R) {a : Int} {off : Int} {tgt : Nat} (h : In a) (d : decode cc pc = .ok (.ifCond .ne off, 3)) (ht : (pc : Int) + off = (tgt : Int)) (kt : a ≠ 0 → T G c R nL k n ws tgt lv st) (kf : a = 0 → T G c R nL k n ws (pc + 3) lv st) : T G c R nL k n ws pc lv (.int (enc a) :: st) := by
  obtain ⟨p, l, e, s, m, args, below, meth, cd, Q, A, H0⟩ := c
  obtain ⟨hx, hb, hts, hown, hml, hK, hA⟩ := X
  intro H locs ls hP hD hS hl
  exact lv_if_ne hx hb d ht (fun q => kt ((by rw [← enc_0] at q; exact fun z => q ((enc_eq h In0).mpr z))) H locs ls hP hD hS hl) (fun q => kf ((by rw [← enc_0] at q; exact (enc_eq h In0).mp q)) H locs ls hP hD hS hl)
theorem tw_if_lt (X : Ok G cy c cc own nL R) {a : Int} {off : Int} {tgt : Nat} (h : In a) (d : decode cc pc = .ok (.ifCond .lt off, 3)) (ht : (pc : Int) + off = (tgt : Int)) (kt : a < 0 → T G c R nL k n ws tgt lv st) (kf : 0 ≤ a → T G c R nL k n ws (pc + 3) lv st) : T G c R nL k n ws pc lv (.int (enc a) :: st) := by
  obtain ⟨p, l, e, s, m, args, below, meth, cd, Q, A, H0⟩ := c
  obtain ⟨hx, hb, hts, hown, hml, hK, hA⟩ := X
  intro H locs ls hP hD hS hl
  exact lv_if_lt hx hb d ht (fun q => kt ((by rw [← enc_0] at q; exact (enc_lt h In0).mp q)) H locs ls hP hD hS hl) (fun q => kf ((by rw [← enc_0] at q; exact Int.not_lt.mp (fun z => q ((enc_lt h In0).mpr z)))) H locs ls hP hD hS hl)
theorem tw_if_ge (X : Ok G cy c cc own nL R) {a : Int} {off : Int} {tgt : Nat} (h : In a) (d : decode cc pc = .ok (.ifCond .ge off, 3)) (ht : (pc : Int) + off = (tgt : Int)) (kt : 0 ≤ a → T G c R nL k n ws tgt lv st) (kf : a < 0 → T G c R nL k n ws (pc + 3) lv st) : T G c R nL k n ws pc lv (.int (enc a) :: st) := by
  obtain ⟨p, l, e, s, m, args, below, meth, cd, Q, A, H0⟩ := c
  obtain ⟨hx, hb, hts, hown, hml, hK, hA⟩ := X
  intro H locs ls hP hD hS hl
  exact lv_if_ge hx hb d ht (fun q => kt ((by rw [← enc_0] at q; exact (enc_le In0 h).mp q)) H locs ls hP hD hS hl) (fun q => kf ((by rw [← enc_0] at q; exact Int.not_le.mp (fun z => q ((enc_le In0 h).mpr z)))) H locs ls hP hD hS hl)
theorem tw_if_le (X : Ok G cy c cc own nL R) {a : Int} {off : Int} {tgt : Nat} (h : In a) (d : decode cc pc = .ok (.ifCond .le off, 3)) (ht : (pc : Int) + off = (tgt : Int)) (kt : a ≤ 0 → T G c R nL k n ws tgt lv st) (kf : 0 < a → T G c R nL k n ws (pc + 3) lv st) : T G c R nL k n ws pc lv (.int (enc a) :: st) := by
  obtain ⟨p, l, e, s, m, args, below, meth, cd, Q, A, H0⟩ := c
  obtain ⟨hx, hb, hts, hown, hml, hK, hA⟩ := X
  intro H locs ls hP hD hS hl
  exact lv_if_le hx hb d ht (fun q => kt ((by rw [← enc_0] at q; exact (enc_le h In0).mp q)) H locs ls hP hD hS hl) (fun q => kf ((by rw [← enc_0] at q; exact Int.not_le.mp (fun z => q ((enc_le h In0).mpr z)))) H locs ls hP hD hS hl)
theorem tw_if_gt (X : Ok G cy c cc own nL R) {a : Int} {off : Int} {tgt : Nat} (h : In a) (d : decode cc pc = .ok (.ifCond .gt off, 3)) (ht : (pc : Int) + off = (tgt : Int)) (kt : 0 < a → T G c R nL k n ws tgt lv st) (kf : a ≤ 0 → T G c R nL k n ws (pc + 3) lv st) : T G c R nL k n ws pc lv (.int (enc a) :: st) := by
  obtain ⟨p, l, e, s, m, args, below, meth, cd, Q, A, H0⟩ := c
  obtain ⟨hx, hb, hts, hown, hml, hK, hA⟩ := X
  intro H locs ls hP hD hS hl
  exact lv_if_gt hx hb d ht (fun q => kt ((by rw [← enc_0] at q; exact (enc_lt In0 h).mp q)) H locs ls hP hD hS hl) (fun q => kf ((by rw [← enc_0] at q; exact Int.not_lt.mp (fun z => q ((enc_lt In0 h).mpr z)))) H locs ls hP hD hS hl)
theorem tw_icmp_eq (X : Ok G cy c cc own nL R) {a b : Int} {off : Int} {tgt : Nat} (h : In a) (h2 : In b) (d : decode cc pc = .ok (.if_icmp .eq off, 3)) (ht : (pc : Int) + off = (tgt : Int)) (kt : a = b → T G c R nL k n ws tgt lv st) (kf : a ≠ b → T G c R nL k n ws (pc + 3) lv st) : T G c R nL k n ws pc lv (.int (enc b) :: .int (enc a) :: st) := by
  obtain ⟨p, l, e, s, m, args, below, meth, cd, Q, A, H0⟩ := c
  obtain ⟨hx, hb, hts, hown, hml, hK, hA⟩ := X
  intro H locs ls hP hD hS hl
  exact lv_icmp_eq hx hb d ht (fun q => kt ((enc_eq h h2).mp q) H locs ls hP hD hS hl) (fun q => kf (fun z => q ((enc_eq h h2).mpr z)) H locs ls hP hD hS hl)
theorem tw_icmp_ne (X : Ok G cy c cc own nL R) {a b : Int} {off : Int} {tgt : Nat} (h : In a) (h2 : In b) (d : decode cc pc = .ok (.if_icmp .ne off, 3)) (ht : (pc : Int) + off = (tgt : Int)) (kt : a ≠ b → T G c R nL k n ws tgt lv st) (kf : a = b → T G c R nL k n ws (pc + 3) lv st) : T G c R nL k n ws pc lv (.int (enc b) :: .int (enc a) :: st) := by
  obtain ⟨p, l, e, s, m, args, below, meth, cd, Q, A, H0⟩ := c
  obtain ⟨hx, hb, hts, hown, hml, hK, hA⟩ := X
  intro H locs ls hP hD hS hl
  exact lv_icmp_ne hx hb d ht (fun q => kt (fun z => q ((enc_eq h h2).mpr z)) H locs ls hP hD hS hl) (fun q => kf ((enc_eq h h2).mp q) H locs ls hP hD hS hl)
theorem tw_icmp_lt (X : Ok G cy c cc own nL R) {a b : Int} {off : Int} {tgt : Nat} (h : In a) (h2 : In b) (d : decode cc pc = .ok (.if_icmp .lt off, 3)) (ht : (pc : Int) + off = (tgt : Int)) (kt : a < b → T G c R nL k n ws tgt lv st) (kf : b ≤ a → T G c R nL k n ws (pc + 3) lv st) : T G c R nL k n ws pc lv (.int (enc b) :: .int (enc a) :: st) := by
  obtain ⟨p, l, e, s, m, args, below, meth, cd, Q, A, H0⟩ := c
  obtain ⟨hx, hb, hts, hown, hml, hK, hA⟩ := X
  intro H locs ls hP hD hS hl
  exact lv_icmp_lt hx hb d ht (fun q => kt ((enc_lt h h2).mp q) H locs ls hP hD hS hl) (fun q => kf (Int.not_lt.mp (fun z => q ((enc_lt h h2).mpr z))) H locs ls hP hD hS hl)
theorem tw_icmp_ge (X : Ok G cy c cc own nL R) {a b : Int} {off : Int} {tgt : Nat} (h : In a) (h2 : In b) (d : decode cc pc = .ok (.if_icmp .ge off, 3)) (ht : (pc : Int) + off = (tgt : Int)) (kt : b ≤ a → T G c R nL k n ws tgt lv st) (kf : a < b → T G c R nL k n ws (pc + 3) lv st) : T G c R nL k n ws pc lv (.int (enc b) :: .int (enc a) :: st) := by
  obtain ⟨p, l, e, s, m, args, below, meth, cd, Q, A, H0⟩ := c
  obtain ⟨hx, hb, hts, hown, hml, hK, hA⟩ := X
  intro H locs ls hP hD hS hl
  exact lv_icmp_ge hx hb d ht (fun q => kt ((enc_le h2 h).mp q) H locs ls hP hD hS hl) (fun q => kf (Int.not_le.mp (fun z => q ((enc_le h2 h).mpr z))) H locs ls hP hD hS hl)
theorem tw_icmp_le (X : Ok G cy c cc own nL R) {a b : Int} {off : Int} {tgt : Nat} (h : In a) (h2 : In b) (d : decode cc pc = .ok (.if_icmp .le off, 3)) (ht : (pc : Int) + off = (tgt : Int)) (kt : a ≤ b → T G c R nL k n ws tgt lv st) (kf : b < a → T G c R nL k n ws (pc + 3) lv st) : T G c R nL k n ws pc lv (.int (enc b) :: .int (enc a) :: st) := by
  obtain ⟨p, l, e, s, m, args, below, meth, cd, Q, A, H0⟩ := c
  obtain ⟨hx, hb, hts, hown, hml, hK, hA⟩ := X
  intro H locs ls hP hD hS hl
  exact lv_icmp_le hx hb d ht (fun q => kt ((enc_le h h2).mp q) H locs ls hP hD hS hl) (fun q => kf (Int.not_le.mp (fun z => q ((enc_le h h2).mpr z))) H locs ls hP hD hS hl)
theorem tw_icmp_gt (X : Ok G cy c cc own nL R) {a b : Int} {off : Int} {tgt : Nat} (h : In a) (h2 : In b) (d : decode cc pc = .ok (.if_icmp .gt off, 3)) (ht : (pc : Int) + off = (tgt : Int)) (kt : b < a → T G c R nL k n ws tgt lv st) (kf : a ≤ b → T G c R nL k n ws (pc + 3) lv st) : T G c R nL k n ws pc lv (.int (enc b) :: .int (enc a) :: st) := by
  obtain ⟨p, l, e, s, m, args, below, meth, cd, Q, A, H0⟩ := c
  obtain ⟨hx, hb, hts, hown, hml, hK, hA⟩ := X
  intro H locs ls hP hD hS hl
  exact lv_icmp_gt hx hb d ht (fun q => kt ((enc_lt h2 h).mp q) H locs ls hP hD hS hl) (fun q => kf (Int.not_lt.mp (fun z => q ((enc_lt h2 h).mpr z))) H locs ls hP hD hS hl)
theorem tw_iald (X : Ok G cy c cc own nL R) {a : Nat} {N : Nat} {f : Int → Int} {i : Int} (q : Nat) (hq : ws[q]? = some (a, .inl (cy, N, .inl (ea f)))) (hN : N < 2147483648) (hi : 0 ≤ i ∧ i < N) (d : decode cc pc = .ok (.iaload, 1)) (kk : T G c R nL k n ws (pc + 1) lv (.int (enc (f i)) :: st)) : T G c R nL k n ws pc lv (.int (enc i) :: .ref a :: st) := by
  obtain ⟨p, l, e, s, m, args, below, meth, cd, Q, A, H0⟩ := c
  obtain ⟨hx, hb, hts, hown, hml, hK, hA⟩ := X
  intro H locs ls hP hD hS hl
  refine va_iald hx hb hK hP q 0 hq rfl (enc_in hi hN) d ?_
  rw [ea_at f hi.1 ⟨by omega, by omega⟩]
  exact kk H locs ls hP hD hS hl
theorem tw_iast (X : Ok G cy c cc own nL R) {a : Nat} {N : Nat} {f : Int → Int} {i v : Int} {ws' : va_W} (q : Nat) (hq : ws[q]? = some (a, .inl (cy, N, .inl (ea f)))) (hN : N < 2147483648) (hi : 0 ≤ i ∧ i < N) (d : decode cc pc = .ok (.iastore, 1)) (hw : ws.set q (a, .inl (cy, N, .inl (ea (ups f i v)))) = ws') (kk : T G c R nL k n ws' (pc + 1) lv st) : T G c R nL k n ws pc lv (.int (enc v) :: .int (enc i) :: .ref a :: st) := by
  obtain ⟨p, l, e, s, m, args, below, meth, cd, Q, A, H0⟩ := c
  obtain ⟨hx, hb, hts, hown, hml, hK, hA⟩ := X
  intro H locs ls hP hD hS hl
  refine va_iast hx hb hK hP hD hS q 0 hq rfl (enc_in hi hN) d (fun H1 locs1 hP hD hS => ?_)
  rw [ea_upd f hi.1 ⟨by omega, by omega⟩] at hP hD
  rw [hw] at hP hD
  exact kk H1 locs1 ls hP hD hS hl
theorem tw_alen (X : Ok G cy c cc own nL R) {a : Nat} {N : Nat} {f : Nat → Int32} (q : Nat) (hq : ws[q]? = some (a, .inl (cy, N, .inl f))) (d : decode cc pc = .ok (.arraylength, 1)) (kk : T G c R nL k n ws (pc + 1) lv (.int (enc N) :: st)) : T G c R nL k n ws pc lv (.ref a :: st) := by
  obtain ⟨p, l, e, s, m, args, below, meth, cd, Q, A, H0⟩ := c
  obtain ⟨hx, hb, hts, hown, hml, hK, hA⟩ := X
  intro H locs ls hP hD hS hl
  exact va_alen (x := (N, .inl f)) (ty := .int) hx hb hK hP q 0 hq rfl (by show Int32.ofNat N = Int32.ofInt (N : Int); rw [Int32.ofInt_eq_ofNat]) d (kk H locs ls hP hD hS hl)
theorem tw_get (X : Ok G cy c cc own nL R) {C ref : String} {TF : u_T} {N ci idx a : Nat} (hin : ∀ w ∈ u_ws C TF N, w ∈ lwA) (hc : vwCl[ci]? = some (C, TF, N)) (j : Nat) (hj : j < N) (hlk : Cond.fieldLink own idx ref (TF j).2.1 (TF j).2.2.1 ∈ lwA) (hr : (TF j).1 = ref) (q : Nat) {fs : List Value} {v : Value} (he : ws[q]? = some (a, .inr (ci, fs))) (hv : fs[j]? = some v) (d : decode cc pc = .ok (.getfield idx, 3)) (kk : T G c R nL k n ws (pc + 3) lv (v :: st)) : T G c R nL k n ws pc lv (.ref a :: st) := by
  obtain ⟨p, l, e, s, m, args, below, meth, cd, Q, A, H0⟩ := c
  obtain ⟨hx, hb, hts, hown, hml, hK, hA⟩ := X
  intro H locs ls hP hD hS hl
  subst hr
  exact va_get hx hb hts hin hown hK hP q he hc j hj (hts _ hlk) (fun _ h9 => h9) hv d (kk H locs ls hP hD hS hl)
theorem tw_put (X : Ok G cy c cc own nL R) {C ref : String} {TF : u_T} {N ci idx a : Nat} (hin : ∀ w ∈ u_ws C TF N, w ∈ lwA) (hc : vwCl[ci]? = some (C, TF, N)) (ty0 : Nat → FieldType) (hty : ∀ k, k < N → parseFieldDescriptor (TF k).2.2.1 = some (ty0 k)) (hnm : ∀ a, a < N → ∀ b, b < N → a ≠ b → (TF a).2.1 ≠ (TF b).2.1) (j : Nat) (hj : j < N) (hlk : Cond.fieldLink own idx ref (TF j).2.1 (TF j).2.2.1 ∈ lwA) (hr : (TF j).1 = ref) (hfin : (TF j).2.2.2 = false) (q : Nat) {fs : List Value} {v : Value} {ws' : va_W} (he : ws[q]? = some (a, .inr (ci, fs))) (hl9 : j < fs.length) (hnw : narrow (ty0 j) v = v) (hft : fits (ty0 j) v = true) (d : decode cc pc = .ok (.putfield idx, 3)) (hw : ws.set q (a, .inr (ci, fs.set j v)) = ws') (kk : T G c R nL k n ws' (pc + 3) lv st) : T G c R nL k n ws pc lv (v :: .ref a :: st) := by
  obtain ⟨p, l, e, s, m, args, below, meth, cd, Q, A, H0⟩ := c
  obtain ⟨hx, hb, hts, hown, hml, hK, hA⟩ := X
  intro H locs ls hP hD hS hl
  subst hr
  refine va_put hx hb hts hin ty0 hty hnm hown hK hP hD hS q he hc j hj (hts _ hlk) (fun _ h9 => h9) hfin (hty j hj) hnw hft hl9 d (fun H1 locs1 hP hD hS => ?_)
  rw [hw] at hP hD
  exact kk H1 locs1 ls hP hD hS hl
end TR
