/-! THE LAW: rows for its script, its switch, its calls, its end -/
def SX (c : Cx) (b L : Nat) (xs : Nat → Int32) : Prop := match c with | (_, _, _, s, _, _, _, _, _, _, A, H0) => va_X b L xs s H0 ∧ b < H0.size ∧ ¬ A b
theorem In_i32 (x : Int32) : In x.toInt := ⟨by have := Int32.le_toInt x; omega, by have := Int32.toInt_lt x; omega⟩
theorem lg_self (x : Int64) : lg_cmp x x = enc 0 := by
  unfold lg_cmp
  simp [Int64.lt_irrefl]
  rfl
section LRW
variable {G : va_G} {cy cyl : ClassId} {c : Cx} {cc : ByteArray} {own : String} {nL : Nat} {R : Room} {k n : Nat} {ws : va_W} {pc : Nat} {lv : List (Nat × Value)} {st : List Value} {hh : List (Nat × Nat × Nat × Nat)} {b L : Nat} {xs : Nat → Int32}
theorem tl_sld (X : Ok G cy c cc own nL R) (hS9 : SX c b L xs) (hL : L ≤ 2560) {z : Int} (hz : 0 ≤ z ∧ z < L) (d : decode cc pc = .ok (.iaload, 1)) (kk : T G c R nL k n ws (pc + 1) lv (.int (enc (xs z.toNat).toInt) :: st)) : T G c R nL k n ws pc lv (.int (enc z) :: .ref b :: st) := by
  obtain ⟨p, l, e, s, m, args, below, meth, cd, Q, A, H0⟩ := c
  obtain ⟨hx, hb, hts, hown, hml, hK, hA⟩ := X
  obtain ⟨s1, s2, s3⟩ := hS9
  intro H locs ls hP hD hS hl
  refine va_sld hx hb s1 s2 s3 hS (enc_in hz (by omega)) d ?_
  rw [enc_nat ⟨by omega, by omega⟩]
  have := kk H locs ls hP hD hS hl
  rw [enc_of] at this
  exact this
theorem tl_slen (X : Ok G cy c cc own nL R) (hS9 : SX c b L xs) (d : decode cc pc = .ok (.arraylength, 1)) (kk : T G c R nL k n ws (pc + 1) lv (.int (enc L) :: st)) : T G c R nL k n ws pc lv (.ref b :: st) := by
  obtain ⟨p, l, e, s, m, args, below, meth, cd, Q, A, H0⟩ := c
  obtain ⟨hx, hb, hts, hown, hml, hK, hA⟩ := X
  obtain ⟨s1, s2, s3⟩ := hS9
  intro H locs ls hP hD hS hl
  refine va_slen hx hb s1 s2 s3 hS d ?_
  rw [show Int32.ofNat L = enc L by show Int32.ofNat L = Int32.ofInt (L : Int); rw [Int32.ofInt_eq_ofNat]]
  exact kk H locs ls hP hD hS hl
theorem tw_iandr (X : Ok G cy c cc own nL R) {x y : Int32} (d : decode cc pc = .ok (.iand, 1)) (kk : T G c R nL k n ws (pc + 1) lv (.int (x &&& y) :: st)) : T G c R nL k n ws pc lv (.int y :: .int x :: st) := by
  obtain ⟨p, l, e, s, m, args, below, meth, cd, Q, A, H0⟩ := c
  obtain ⟨hx, hb, hts, hown, hml, hK, hA⟩ := X
  intro H locs ls hP hD hS hl
  exact lv_iand hx hb d (kk H locs ls hP hD hS hl)
/-- the switch: to each case's place, or to the default's -/
theorem tw_table (X : Ok G cy c cc own nL R) {x : Int32} {dflt hi : Int} {offs : Array Int} {len tgt : Nat} (d : decode cc pc = .ok (.tableswitch dflt 0 hi offs, len)) (hsz : (offs.size : Int) = hi + 1) (ht : (pc : Int) + dflt = (tgt : Int)) (kk : ∀ (i : Nat) (off : Int), offs[i]? = some off → ∃ t : Nat, (pc : Int) + off = (t : Int) ∧ T G c R nL k n ws t lv st) (ko : T G c R nL k n ws tgt lv st) : T G c R nL k n ws pc lv (.int x :: st) := by
  by_cases h1 : x.toInt < 0 ∨ hi < x.toInt
  · obtain ⟨p, l, e, s, m, args, below, meth, cd, Q, A, H0⟩ := c
    obtain ⟨hx, hb, hts, hown, hml, hK, hA⟩ := X
    intro H locs ls hP hD hS hl
    exact lv_tableOut hx hb d h1 ht (ko H locs ls hP hD hS hl)
  · have hi2 : x.toInt.toNat < offs.size := by omega
    obtain ⟨t, g1, g2⟩ := kk x.toInt.toNat offs[x.toInt.toNat] (Array.getElem?_eq_getElem hi2)
    obtain ⟨p, l, e, s, m, args, below, meth, cd, Q, A, H0⟩ := c
    obtain ⟨hx, hb, hts, hown, hml, hK, hA⟩ := X
    intro H locs ls hP hD hS hl
    exact lv_tableIn (off := offs[x.toInt.toNat]) hx hb d (fun z => h1 (Or.inl z)) (fun z => h1 (Or.inr z)) (by rw [Int.sub_zero]; exact Array.getElem?_eq_getElem hi2) g1 (g2 H locs ls hP hD hS hl)
/-- a call of one of the law's small methods -/
theorem tl_callW (X : Ok G cy c cc own nL R) (B : LB G cyl c hh) {y : MethodName} {b9 : ByteArray} {mL idx np : Nat} {h9 : List (Nat × Nat × Nat × Nat)} {rm : Room} {mc ms : Nat} {post : Option Value → va_W → Prop} {As : List Value} {ws1 : va_W} (hown9 : own = RL) (hV : XW idx y b9 mL h9 np) (hM : CtLw G cy cyl y b9 mL h9 rm mc ms As ws1 post) {st0 : List Value} (Y Z : va_W) (hws : ws = Y ++ (ws1 ++ Z)) (hst : st0 = As.reverse ++ st)
    (hnp : As.length = np) (hR : rm.cells = mc ∧ rm.slots = ms ∧ rm.frames + 1 ≤ R.frames ∧ 8 + (mL + 11) + rm.locals ≤ R.locals) (hk : k + mc ≤ R.cells ∧ n + ms ≤ R.slots) (hcat : (st.map fun v => v.category).sum ≤ 8)
    (d : decode cc pc = .ok (.invokestatic idx, 3)) (kk : ∀ (v : Option Value) (w1 : va_W), post v w1 → T G c R nL (k + mc) (n + ms) (Y ++ (w1 ++ Z)) (pc + 3) lv (v.toList ++ st)) : T G c R nL k n ws pc lv st0 := by
  subst hws; subst hst; subst hnp; subst hown9
  obtain ⟨p, l, e, s, m, args, below, meth, cd, Q, A, H0⟩ := c
  obtain ⟨rfl, hl9, hXS, hXZ, hKL, -⟩ := B
  obtain ⟨hx, hb, hts, hown, hml, hK, hA⟩ := X
  obtain ⟨v1, v2, v3, v4, v5⟩ := hV
  intro H locs ls hP hD hS hl
  have hPc := segP hP
  have hDc := segD hD
  have hF := seg_free hD hS hA
  have hini : (Cond.initialized y.cls).before args s = true := by rw [v4]; exact hts _ wz_L
  have cw : vx_CSW R s args RL idx y b9 mL (some .int) h9 (wsH y b9 mL h9) rm mc ms As.length := by
    refine ⟨⟨hR.1, hR.2.1, hR.2.2.1, hR.2.2.2, pay_in hts (wsH_good v3), List.mem_cons_self⟩, hts _ v3, hini, ⟨v5.1, v5.2.1⟩, fun sig h => ?_, hts _ v1, hts _ v2⟩
    have h2 := v5.2.2
    rw [h] at h2
    exact (Option.some.inj h2).symm
  have run := vx_runSW (l := l) (e := e) (below := below) (meth := meth) (locs := locs) (g := F0 m pc ls (As.reverse ++ st)) (As := As) (rest := st) ⟨hx, hb, hml, hown, hts⟩ (hM l H.size hl9) cw ⟨CtBL.blind, fun U hU hW => ⟨rfl, ⟨⟨by rw [hU], by rw [hU]; exact hPc, va_K.moved hW.alike hK, hDc.weaken (fun _ _ _ _ => trivial)⟩, hXS.warm hW, by rw [hU]; exact hXZ.to hS hF hW.alike⟩, va_K.moved hW.alike hKL⟩⟩ rfl rfl hl.1 rfl (lv_room hcat) d hk
  intro T0 hT0 X0
  obtain ⟨v, st₀, t, T', L, h0, X', hL, e1, e2, ⟨⟨v', w1, hv, hp, hP1, hD1⟩, hz, hkp⟩, go⟩ := run T0 hT0 X0
  cases hv
  rw [h0] at hz hkp
  have hkp' : ∀ q : Nat, q < H.size → ¬ va_A ws1 H.size q → T'.heap[q]? = H[q]? := fun q h1 h2 => by rw [e1]; exact hkp q h1 h2
  have hz' : H.size ≤ T'.heap.size := by rw [e1]; exact hz
  rw [← e1] at hP1
  obtain ⟨hP2, hD2⟩ := seg_join hP hD hF hkp' hP1 hD1
  have hS2 : va_S A s.heap T'.heap (locs ++ L) := ⟨Nat.le_trans hS.1 hz', fun q h1 h2 => by
    rw [hkp' q (Nat.lt_of_lt_of_le h1 hS.1) (fun z => h2 (hF q z))]; exact hS.2.1 q h1 h2, fun q hq => by
    rcases List.mem_append.mp hq with h | h
    · exact hS.2.2 q h
    · exact hF _ (hL q h)⟩
  obtain ⟨t2, a1, b1⟩ := kk v w1 hp T'.heap (locs ++ L) ls hP2 hD2 hS2 hl T' rfl X'
  exact ⟨t2, go t2 a1, b1⟩
end LRW
