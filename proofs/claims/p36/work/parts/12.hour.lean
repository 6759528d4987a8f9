/-! AN HOUR, as numbers; the invariant WF M B, and that the hour keeps it -/
def BdB (M : MT) (B : Int) : Prop := ∀ (k : Nat) (j : Int), -B ≤ M k j ∧ M k j ≤ B
theorem BdB.up {M : MT} {B B' : Int} (h : BdB M B) (hB : B ≤ B') {k : Nat} {i v : Int} (hv : -B' ≤ v ∧ v ≤ B') : BdB (up M k i v) B' := by
  intro k' j
  have := h k' j
  rw [up_eq]
  split
  · exact hv
  · omega
theorem BdB.upc {M : MT} {B B' : Int} (h : BdB M B) (hB : B ≤ B') {k : Nat} {v : Int} (hv : -B' ≤ v ∧ v ≤ B') : BdB (upc M k v) B' := by
  intro k' j
  have := h k' j
  rw [upc_eq]
  split
  · exact hv
  · omega
theorem BdB.mono {M : MT} {B B' : Int} (h : BdB M B) (hB : B ≤ B') : BdB M B' := fun k j => by have := h k j; omega
theorem BdB.bd {M : MT} {B : Int} (h : BdB M B) (hB : B ≤ 2000000) : Bd M := fun k j => by have := h k j; omega
def cntIn (M : MT) : Nat → Int
  | 0 => 0
  | t + 1 => cntIn M t + (if 0 ≤ M 15 t then 1 else 0)
theorem cntIn_s (M : MT) (t : Nat) : cntIn M (t + 1) = cntIn M t + (if 0 ≤ M 15 t then 1 else 0) := rfl
theorem cntIn_congr {M N : MT} : ∀ (n : Nat), (∀ j : Nat, j < n → (0 ≤ M 15 j ↔ 0 ≤ N 15 j)) → cntIn M n = cntIn N n
  | 0, _ => rfl
  | n + 1, h => by
    rw [cntIn_s, cntIn_s, cntIn_congr n (fun j hj => h j (by omega))]
    have := h n (by omega)
    by_cases q : 0 ≤ M 15 n
    · rw [if_pos q, if_pos (this.mp q)]
    · rw [if_neg q, if_neg (fun z => q (this.mpr z))]
theorem cntIn_one {M N : MT} {t : Nat} (h1 : M 15 t < 0) (h2 : 0 ≤ N 15 t) (h : ∀ j : Nat, j ≠ t → N 15 j = M 15 j) : ∀ n : Nat, t < n → cntIn N n = cntIn M n + 1
  | 0, hn => absurd hn (Nat.not_lt_zero t)
  | n + 1, hn => by
    rw [cntIn_s, cntIn_s]
    by_cases e : t = n
    · subst e
      rw [cntIn_congr (M := N) (N := M) t (fun j hj => by rw [h j (by omega)]), if_pos h2, if_neg (by omega)]; omega
    · rw [cntIn_one h1 h2 h n (by omega), h n (fun q => e q.symm)]; omega
theorem cntIn_rng (M : MT) : ∀ n : Nat, 0 ≤ cntIn M n ∧ cntIn M n ≤ n
  | 0 => ⟨Int.le_refl _, Int.le_refl _⟩
  | n + 1 => by
    have := cntIn_rng M n
    rw [cntIn_s]
    split <;> omega
/-- what holds of a tourist -/
def TI (M : MT) (t : Int) : Prop := -1 ≤ M 7 t ∧ M 7 t < M 19 0 ∧ -1 ≤ M 8 t ∧ M 8 t < M 16 0 ∧ 0 ≤ M 11 t ∧ M 11 t < M 19 0 ∧ 0 ≤ M 12 t ∧ M 12 t ≤ 3 ∧ 0 ≤ M 13 t ∧ M 13 t ≤ M 20 0 ∧ 0 ≤ M 14 t ∧ M 14 t ≤ 108 ∧ -1 ≤ M 15 t ∧ (M 15 t < 0 → (0 ≤ M 8 t → 0 ≤ M 9 t ∧ M 9 t < M 19 0 ∧ 1 ≤ M 10 t ∧ M 7 t = -1) ∧ (M 8 t < 0 → 0 ≤ M 7 t ∧ M 7 t ≠ M 11 t)) ∧ (0 ≤ M 15 t → M 8 t = -1)
theorem TI.congr {M N : MT} {t : Int} (h : ∀ k : Nat, 7 ≤ k → k ≤ 15 → N k t = M k t) (h16 : N 16 0 = M 16 0) (h19 : N 19 0 = M 19 0) (h20 : N 20 0 = M 20 0) (q : TI M t) : TI N t := by
  unfold TI at q ⊢
  rw [h 7 (by decide) (by decide), h 8 (by decide) (by decide), h 9 (by decide) (by decide), h 10 (by decide) (by decide), h 11 (by decide) (by decide), h 12 (by decide) (by decide), h 13 (by decide) (by decide), h 14 (by decide) (by decide), h 15 (by decide) (by decide), h16, h19, h20]
  exact q
def WF (M : MT) (B : Int) : Prop := BdB M B ∧ 200 ≤ B ∧ WFR M ∧ (∀ r : Int, 0 ≤ M 4 r ∧ 0 ≤ M 6 r ∧ M 6 r ≤ 20 ∧ 0 ≤ M 5 r ∧ M 5 r ≤ 3) ∧ (∀ r : Int, 0 ≤ r → r < M 16 0 → 0 ≤ M 3 r ∧ M 3 r ≤ 3) ∧ 0 ≤ M 17 0 ∧ M 17 0 ≤ 12 ∧ 0 ≤ M 20 0 ∧ M 18 0 = cntIn M (M 17 0).toNat ∧ (∀ t : Int, 0 ≤ t → t < M 17 0 → TI M t) ∧ (∀ t : Int, M 17 0 ≤ t → M 12 t = 0)
theorem WF.mono {M : MT} {B B' : Int} (h : WF M B) (hB : B ≤ B') : WF M B' := ⟨h.1.mono hB, by have := h.2.1; omega, h.2.2⟩
theorem WF.bd {M : MT} {B : Int} (h : WF M B) (hB : B ≤ 2000000) : Bd M := h.1.bd hB
theorem WF.r {M : MT} {B : Int} (h : WF M B) : WFR M := h.2.2.1
/-- what the roads alone need, kept where their fixed fields are -/
theorem WFR.congr {M N : MT} (h0 : N 0 = M 0) (h1 : N 1 = M 1) (h2 : N 2 = M 2) (h16 : N 16 0 = M 16 0) (h19 : N 19 0 = M 19 0) (h5 : ∀ r : Int, 0 ≤ N 5 r ∧ N 5 r ≤ 3) (h : WFR M) : WFR N := by
  obtain ⟨a, b, c, d, e⟩ := h
  refine ⟨by rw [h16]; exact a, by rw [h16]; exact b, by rw [h19]; exact c, by rw [h19]; exact d, fun r r0 r1 => ?_⟩
  rw [h16] at r1
  have := e r r0 r1
  have := h5 r
  rw [h0, h1, h2, h19]
  omega
/-! step 1: mending goes on -/
def mend1 (M : MT) (r : Int) : MT := if 0 < M 6 r then (if M 6 r - 1 = 0 then reop (up M 6 r (M 6 r - 1)) r else up M 6 r (M 6 r - 1)) else M
def mendI (M : MT) : Nat → MT
  | 0 => M
  | i + 1 => mend1 (mendI M i) i
theorem mendI_s (M : MT) (i : Nat) : mendI M (i + 1) = mend1 (mendI M i) i := rfl
theorem reop_eq (M : MT) (r : Int) (k : Nat) (j : Int) : reop M r k j = if k = 4 ∧ j = r then 0 else if k = 5 ∧ j = r then (if M 5 r < 3 then M 5 r + 1 else M 5 r) else M k j := by
  unfold reop
  rw [up_eq, up_eq]
  by_cases e : k = 5 ∧ j = r
  · rw [if_pos e, if_neg (show ¬ (k = 4 ∧ j = r) by omega), if_pos e]
  · rw [if_neg e, if_neg e]
/-- what a mending step leaves as it is -/
theorem mend1_eq (M : MT) (r : Int) {k : Nat} (h : k ≠ 4 ∧ k ≠ 5 ∧ k ≠ 6) : mend1 M r k = M k := by
  funext j
  unfold mend1
  split
  · split
    · rw [reop_eq, if_neg (by omega), if_neg (by omega), up_eq, if_neg (by omega)]
    · rw [up_eq, if_neg (by omega)]
  · rfl
theorem mendI_eq (M : MT) {k : Nat} (h : k ≠ 4 ∧ k ≠ 5 ∧ k ≠ 6) : ∀ i : Nat, mendI M i k = M k
  | 0 => rfl
  | i + 1 => by rw [mendI_s, mend1_eq _ _ h, mendI_eq M h i]
theorem mend1_456 (M : MT) (r : Int) (h : ∀ r : Int, 0 ≤ M 4 r ∧ 0 ≤ M 6 r ∧ M 6 r ≤ 20 ∧ 0 ≤ M 5 r ∧ M 5 r ≤ 3) (r' : Int) : 0 ≤ mend1 M r 4 r' ∧ 0 ≤ mend1 M r 6 r' ∧ mend1 M r 6 r' ≤ 20 ∧ 0 ≤ mend1 M r 5 r' ∧ mend1 M r 5 r' ≤ 3 := by
  have h1 := h r
  have h2 := h r'
  unfold mend1
  split
  · split
    · simp only [reop_eq, up_eq]
      simp
      refine ⟨?_, ?_, ?_, ?_, ?_⟩ <;> (repeat' split) <;> omega
    · simp only [up_eq]
      simp
      refine ⟨?_, ?_, ?_, ?_, ?_⟩ <;> (repeat' split) <;> omega
  · exact h2
theorem mend1_bd {M : MT} {B : Int} (hB : 200 ≤ B) (h : BdB M B) (h4 : ∀ r : Int, 0 ≤ M 4 r ∧ 0 ≤ M 6 r ∧ M 6 r ≤ 20 ∧ 0 ≤ M 5 r ∧ M 5 r ≤ 3) (r : Int) : BdB (mend1 M r) B := by
  have h1 := h4 r
  have hu : BdB (up M 6 r (M 6 r - 1)) B := h.up (Int.le_refl B) (by omega)
  unfold mend1
  split
  · split
    · unfold reop
      exact (hu.up (Int.le_refl B) (by omega)).up (Int.le_refl B) (by rw [show up M 6 r (M 6 r - 1) 5 r = M 5 r from rfl]; split <;> omega)
    · exact hu
  · exact h
theorem WF.k_mend1 {M : MT} {B : Int} (h : WF M B) (r : Int) : WF (mend1 M r) B := by
  obtain ⟨a, b, c, d, e, f, g, i, j, k, l⟩ := h
  have q : ∀ k : Nat, k ≠ 4 ∧ k ≠ 5 ∧ k ≠ 6 → mend1 M r k = M k := fun k h => mend1_eq M r h
  refine ⟨mend1_bd b a d r, b, WFR.congr (q 0 (by omega)) (q 1 (by omega)) (q 2 (by omega)) (by rw [q 16 (by omega)]) (by rw [q 19 (by omega)]) (fun r' => ⟨(mend1_456 M r d r').2.2.2.1, (mend1_456 M r d r').2.2.2.2⟩) c, mend1_456 M r d, by rw [q 3 (by omega), q 16 (by omega)]; exact e, by rw [q 17 (by omega)]; exact f, by rw [q 17 (by omega)]; exact g, by rw [q 20 (by omega)]; exact i, ?_, ?_, by rw [q 17 (by omega), q 12 (by omega)]; exact l⟩
  · rw [q 18 (by omega), q 17 (by omega), j]
    exact cntIn_congr _ (fun t _ => by rw [q 15 (by omega)])
  · rw [q 17 (by omega)]
    exact fun t t0 t1 => (k t t0 t1).congr (fun x _ _ => by rw [q x (by omega)]) (by rw [q 16 (by omega)]) (by rw [q 19 (by omega)]) (by rw [q 20 (by omega)])
theorem WF.k_mendI {M : MT} {B : Int} (h : WF M B) : ∀ i : Nat, WF (mendI M i) B
  | 0 => h
  | i + 1 => (WF.k_mendI h i).k_mend1 i
/-! step 2: the tourists go -/
noncomputable def twd (M : MT) (p g : Int) : Nat → Int × Int
  | 0 => (-1, 1000000)
  | i + 1 => if M 6 i = 0 ∧ 0 ≤ endF M i p ∧ len M i + dst M true (endF M i p) g < (twd M p g i).2 then ((i : Int), len M i + dst M true (endF M i p) g) else twd M p g i
theorem twd_y {M : MT} {p g : Int} {i : Nat} (h1 : M 6 i = 0) (h2 : 0 ≤ endF M i p) (h3 : len M i + dst M true (endF M i p) g < (twd M p g i).2) : twd M p g (i + 1) = ((i : Int), len M i + dst M true (endF M i p) g) := if_pos ⟨h1, h2, h3⟩
theorem twd_n {M : MT} {p g : Int} {i : Nat} (h : ¬ (M 6 i = 0 ∧ 0 ≤ endF M i p ∧ len M i + dst M true (endF M i p) g < (twd M p g i).2)) : twd M p g (i + 1) = twd M p g i := if_neg h
noncomputable def toward (M : MT) (p g : Int) : Int := (twd M p g (M 16 0).toNat).1
theorem twd_ok {M : MT} (p g : Int) : ∀ n : Nat, ((twd M p g n).1 = -1 ∨ (0 ≤ (twd M p g n).1 ∧ (twd M p g n).1 < n ∧ M 6 (twd M p g n).1 = 0 ∧ 0 ≤ endF M (twd M p g n).1 p)) ∧ (twd M p g n).2 ≤ 1000000
  | 0 => ⟨Or.inl rfl, Int.le_refl _⟩
  | n + 1 => by
    have ih := twd_ok (M := M) p g n
    by_cases h : M 6 n = 0 ∧ 0 ≤ endF M n p ∧ len M n + dst M true (endF M n p) g < (twd M p g n).2
    · rw [twd_y h.1 h.2.1 h.2.2]
      refine ⟨Or.inr ⟨by show (0 : Int) ≤ n; omega, by show (n : Int) < (n + 1 : Nat); omega, h.1, h.2.1⟩, ?_⟩
      show len M n + dst M true (endF M n p) g ≤ 1000000
      omega
    · rw [twd_n h]
      exact ⟨ih.1.imp id (fun q => ⟨q.1, by omega, q.2.2⟩), ih.2⟩
theorem twd_lo {M : MT} (hW : WFR M) (p g : Int) : ∀ n : Nat, (n : Int) ≤ M 16 0 → 0 ≤ (twd M p g n).2
  | 0, _ => by show (0 : Int) ≤ 1000000; decide
  | n + 1, hn => by
    have ih := twd_lo hW p g n (by omega)
    by_cases h : M 6 n = 0 ∧ 0 ≤ endF M n p ∧ len M n + dst M true (endF M n p) g < (twd M p g n).2
    · rw [twd_y h.1 h.2.1 h.2.2]
      have := hW.ln (r := (n : Int)) (by omega) (by omega)
      have := (dst_ok (o := true) hW (endF M n p) g).1
      show 0 ≤ len M n + dst M true (endF M n p) g
      omega
    · rw [twd_n h]; exact ih
theorem toward_ok {M : MT} (hW : WFR M) (p g : Int) : toward M p g = -1 ∨ (0 ≤ toward M p g ∧ toward M p g < M 16 0 ∧ M 6 (toward M p g) = 0 ∧ 0 ≤ endF M (toward M p g) p) := by
  have := (twd_ok (M := M) p g (M 16 0).toNat).1
  have := hW.1
  unfold toward
  omega
def mixD (a b : Int) : Int := if a = 0 ∨ a = b then b else if b = 0 then a else 6 - a - b
theorem mixD_rng {a b : Int} (ha : 0 ≤ a ∧ a ≤ 3) (hb : 0 ≤ b ∧ b ≤ 3) : 0 ≤ mixD a b ∧ mixD a b ≤ 3 := by
  unfold mixD
  split
  · omega
  · split <;> omega
/-- the tourist t sets out on the road r -/
def goR (M : MT) (t r : Int) : MT := up (up (takeT M t r (endF M r (M 7 t)) (len M r)) 12 t (mixD (M 12 t) (M 3 r))) 4 r (M 4 r + 1)
noncomputable def outT (M : MT) (t : Int) : MT := if M 7 t < 0 then M else if toward M (M 7 t) (M 11 t) < 0 then M else goR M t (toward M (M 7 t) (M 11 t))
noncomputable def tour1 (M : MT) (t : Int) : MT := if 0 ≤ M 15 t then M else walkT (outT M t) t (M 20 0)
noncomputable def tourI (M : MT) : Nat → MT
  | 0 => M
  | t + 1 => tour1 (tourI M t) t
theorem tourI_s (M : MT) (t : Nat) : tourI M (t + 1) = tour1 (tourI M t) t := rfl
theorem goR_eq (M : MT) (t r : Int) (k : Nat) (j : Int) : goR M t r k j = if k = 4 ∧ j = r then M 4 r + 1 else if k = 12 ∧ j = t then mixD (M 12 t) (M 3 r) else if k = 10 ∧ j = t then len M r else if k = 9 ∧ j = t then endF M r (M 7 t) else if k = 8 ∧ j = t then r else if k = 7 ∧ j = t then -1 else M k j := by
  unfold goR takeT
  simp only [up_eq]
theorem goR_fix (M : MT) (t r : Int) {k : Nat} (h : k ≠ 4 ∧ k ≠ 12 ∧ k ≠ 10 ∧ k ≠ 9 ∧ k ≠ 8 ∧ k ≠ 7) : goR M t r k = M k := by
  funext j
  rw [goR_eq, if_neg (by omega), if_neg (by omega), if_neg (by omega), if_neg (by omega), if_neg (by omega), if_neg (by omega)]
theorem outT_fix (M : MT) (t : Int) {k : Nat} (h : k ≠ 4 ∧ k ≠ 12 ∧ k ≠ 10 ∧ k ≠ 9 ∧ k ≠ 8 ∧ k ≠ 7) : outT M t k = M k := by
  unfold outT
  split
  · rfl
  · split
    · rfl
    · exact goR_fix M t _ h
theorem WF.k_goR {M : MT} {B : Int} (h : WF M B) {t r : Int} (ht : 0 ≤ t ∧ t < M 17 0) (hd : M 15 t < 0) (hr : 0 ≤ r ∧ r < M 16 0) (he : 0 ≤ endF M r (M 7 t)) : WF (goR M t r) (B + 1) := by
  obtain ⟨a, b, c, d, e, f, g, i, j, k, l⟩ := h
  have hm := mixD_rng (a := M 12 t) (b := M 3 r) (by have := (k t ht.1 ht.2); unfold TI at this; omega) (e r hr.1 hr.2)
  have hl := c.ln hr.1 hr.2
  have hee := endF_rng c hr.1 hr.2 he
  have hc4 := c.2.2.2.1
  have hc2 := c.2.1
  have ha4 := a 4 r
  have hd4 := d r
  have q : ∀ k : Nat, (k ≠ 4 ∧ k ≠ 12 ∧ k ≠ 10 ∧ k ≠ 9 ∧ k ≠ 8 ∧ k ≠ 7) → goR M t r k = M k := fun k h => goR_fix M t r h
  have w4 : ∀ r' : Int, 0 ≤ goR M t r 4 r' := by
    intro r'
    rw [goR_eq]
    have := (d r').1
    split
    · omega
    · simp; exact this
  refine ⟨fun x y => ?_, by omega, WFR.congr (q 0 (by omega)) (q 1 (by omega)) (q 2 (by omega)) (by rw [q 16 (by omega)]) (by rw [q 19 (by omega)]) (fun r' => by rw [q 5 (by omega)]; exact (d r').2.2.2) c, fun r' => ⟨w4 r', by rw [q 5 (by omega), q 6 (by omega)]; exact (d r').2⟩, by rw [q 3 (by omega), q 16 (by omega)]; exact e, by rw [q 17 (by omega)]; exact f, by rw [q 17 (by omega)]; exact g, by rw [q 20 (by omega)]; exact i, ?_, ?_, ?_⟩
  · have := a x y
    have h7 := a 7 t
    rw [goR_eq]
    split
    · omega
    · split
      · omega
      · split
        · omega
        · split
          · omega
          · split
            · omega
            · split <;> omega
  · rw [q 18 (by omega), q 17 (by omega), j]
    exact cntIn_congr _ (fun t _ => by rw [q 15 (by omega)])
  · rw [q 17 (by omega)]
    intro t' t0 t1
    have hk := k t' t0 t1
    by_cases et : t' = t
    · subst et
      unfold TI at hk ⊢
      rw [q 16 (by omega), q 19 (by omega), q 20 (by omega), q 11 (by omega), q 13 (by omega), q 14 (by omega), q 15 (by omega)]
      simp only [goR_eq]
      simp
      omega
    · refine hk.congr (fun x x0 x1 => ?_) (by rw [q 16 (by omega)]) (by rw [q 19 (by omega)]) (by rw [q 20 (by omega)])
      rw [goR_eq, if_neg (by omega), if_neg (by omega), if_neg (by omega), if_neg (by omega), if_neg (by omega), if_neg (by omega)]
  · rw [q 17 (by omega)]
    intro t' ht'
    have := l t' ht'
    rw [goR_eq, if_neg (by omega), if_neg (by omega), if_neg (by omega), if_neg (by omega), if_neg (by omega), if_neg (by omega)]
    exact this
theorem WF.k_outT {M : MT} {B : Int} (h : WF M B) {t : Int} (ht : 0 ≤ t ∧ t < M 17 0) (hd : M 15 t < 0) : WF (outT M t) (B + 1) := by
  have hto := toward_ok h.r (M 7 t) (M 11 t)
  unfold outT
  split
  · exact h.mono (by omega)
  · split
    · exact h.mono (by omega)
    · exact h.k_goR ht hd (by omega) (by omega)
theorem walkT_fix (M : MT) (t h : Int) {k : Nat} (q : k ≠ 7 ∧ k ≠ 8 ∧ k ≠ 10 ∧ k ≠ 15 ∧ k ≠ 18) : walkT M t h k = M k := by
  funext j
  unfold walkT
  split
  · rfl
  · split
    · rw [up_eq, if_neg (by omega)]
    · split
      · rw [upc_eq, if_neg (by omega)]; simp only [up_eq]
        rw [if_neg (by omega), if_neg (by omega), if_neg (by omega), if_neg (by omega)]
      · simp only [up_eq]
        rw [if_neg (by omega), if_neg (by omega), if_neg (by omega)]
/-- the walk changes nothing of another tourist -/
theorem walkT_oth (M : MT) (t h : Int) {k : Nat} {j : Int} (q : j ≠ t) (hk : k ≠ 18) : walkT M t h k j = M k j := by
  unfold walkT
  split
  · rfl
  · split
    · rw [up_eq, if_neg (by omega)]
    · split
      · rw [upc_eq, if_neg (by omega)]; simp only [up_eq]
        rw [if_neg (by omega), if_neg (by omega), if_neg (by omega), if_neg (by omega)]
      · simp only [up_eq]
        rw [if_neg (by omega), if_neg (by omega), if_neg (by omega)]
theorem WF.k_walkT {M : MT} {B : Int} (h : WF M B) {t : Int} (ht : 0 ≤ t ∧ t < M 17 0) (hd : M 15 t < 0) : WF (walkT M t (M 20 0)) (B + 1) := by
  obtain ⟨a, b, c, d, e, f, g, i, j, k, l⟩ := h
  have q : ∀ k : Nat, (k ≠ 7 ∧ k ≠ 8 ∧ k ≠ 10 ∧ k ≠ 15 ∧ k ≠ 18) → walkT M t (M 20 0) k = M k := fun k h => walkT_fix M t _ h
  have hk := k t ht.1 ht.2
  have a9 := a 9 t
  have a10 := a 10 t
  have a13 := a 13 t
  have a20 := a 20 0
  have a18 := a 18 0
  refine ⟨?_, by omega, WFR.congr (q 0 (by omega)) (q 1 (by omega)) (q 2 (by omega)) (by rw [q 16 (by omega)]) (by rw [q 19 (by omega)]) (fun r' => by rw [q 5 (by omega)]; exact (d r').2.2.2) c, by rw [q 4 (by omega), q 5 (by omega), q 6 (by omega)]; exact d, by rw [q 3 (by omega), q 16 (by omega)]; exact e, by rw [q 17 (by omega)]; exact f, by rw [q 17 (by omega)]; exact g, by rw [q 20 (by omega)]; exact i, ?_, ?_, by rw [q 17 (by omega), q 12 (by omega)]; exact l⟩
  · unfold TI at hk
    unfold walkT
    split
    · exact a.mono (by omega)
    · have h1 : BdB (up M 10 t (M 10 t - 1)) (B + 1) := a.up (by omega) (by omega)
      split
      · exact h1
      · have h2 : BdB (up (up (up M 10 t (M 10 t - 1)) 7 t (M 9 t)) 8 t (-1)) (B + 1) := (h1.up (Int.le_refl _) (by omega)).up (Int.le_refl _) (by omega)
        split
        · exact (h2.up (Int.le_refl _) (by omega)).upc (Int.le_refl _) (by omega)
        · exact h2
  · rw [q 17 (by omega)]
    unfold walkT
    unfold TI at hk
    split
    · exact j
    · split
      · rw [up_eq, if_neg (by omega), j]
        exact cntIn_congr _ (fun t' _ => by rw [up_eq, if_neg (by omega)])
      · split
        · have en := cntIn_one (M := M) (N := upc (up (up (up (up M 10 t (M 10 t - 1)) 7 t (M 9 t)) 8 t (-1)) 15 t (M 20 0 + 1 - M 13 t)) 18 (M 18 0 + 1)) (t := t.toNat) (by rw [show ((t.toNat : Nat) : Int) = t by omega]; exact hd) (by rw [upc_eq, if_neg (by omega), up_eq, if_pos (by omega)]; omega) (fun t' ht' => by
            rw [upc_eq, if_neg (by omega)]
            simp only [up_eq]
            rw [if_neg (by omega), if_neg (by omega), if_neg (by omega), if_neg (by omega)]) (M 17 0).toNat (by omega)
          rw [en, upc_eq, if_pos rfl]
          omega
        · simp only [up_eq]
          rw [if_neg (by omega), if_neg (by omega), if_neg (by omega), j]
          exact cntIn_congr _ (fun t' _ => by
            simp only [up_eq]
            rw [if_neg (by omega), if_neg (by omega), if_neg (by omega)])
  · rw [q 17 (by omega)]
    intro t' t0 t1
    by_cases et : t' = t
    · subst et
      unfold TI at hk ⊢
      rw [q 16 (by omega), q 19 (by omega), q 20 (by omega), q 9 (by omega), q 11 (by omega), q 12 (by omega), q 13 (by omega), q 14 (by omega)]
      unfold walkT
      split
      · exact hk
      · split
        · simp only [up_eq]; simp; omega
        · split
          · simp only [up_eq, upc_eq]; simp; omega
          · simp only [up_eq]; simp; omega
    · exact (k t' t0 t1).congr (fun x x0 x1 => walkT_oth M t _ et (by omega)) (by rw [q 16 (by omega)]) (by rw [q 19 (by omega)]) (by rw [q 20 (by omega)])
theorem outT_15 (M : MT) (t : Int) : outT M t 15 = M 15 := outT_fix M t (by omega)
theorem WF.k_tour1 {M : MT} {B : Int} (h : WF M B) {t : Int} (ht : 0 ≤ t ∧ t < M 17 0) : WF (tour1 M t) (B + 2) := by
  unfold tour1
  split
  · exact h.mono (by omega)
  · have h1 := h.k_outT ht (by omega)
    have h2 := h1.k_walkT (t := t) (by rw [outT_fix M t (k := 17) (by omega)]; exact ht) (by rw [outT_15]; omega)
    rw [outT_fix M t (k := 20) (by omega), show B + 1 + 1 = B + 2 by omega] at h2
    exact h2
theorem tour1_fix (M : MT) (t : Int) {k : Nat} (q : k < 4 ∨ k = 5 ∨ k = 6 ∨ k = 11 ∨ k = 13 ∨ k = 14 ∨ k = 16 ∨ k = 17 ∨ k = 19 ∨ k = 20) : tour1 M t k = M k := by
  unfold tour1
  split
  · rfl
  · rw [walkT_fix _ _ _ (by omega), outT_fix M t (by omega)]
theorem tourI_fix (M : MT) {k : Nat} (q : k < 4 ∨ k = 5 ∨ k = 6 ∨ k = 11 ∨ k = 13 ∨ k = 14 ∨ k = 16 ∨ k = 17 ∨ k = 19 ∨ k = 20) : ∀ t : Nat, tourI M t k = M k
  | 0 => rfl
  | t + 1 => by rw [tourI_s, tour1_fix _ _ q, tourI_fix M q t]
theorem WF.k_tourI {M : MT} {B : Int} (h : WF M B) : ∀ t : Nat, (t : Int) ≤ M 17 0 → WF (tourI M t) (B + 2 * t)
  | 0, _ => by rw [show B + 2 * ((0 : Nat) : Int) = B by omega]; exact h
  | t + 1, ht => by
    have ih := WF.k_tourI h t (by omega)
    have := ih.k_tour1 (t := (t : Int)) (by rw [tourI_fix M (k := 17) (by omega)]; omega)
    rw [show B + 2 * ((t + 1 : Nat) : Int) = B + 2 * t + 2 by omega]
    exact this
/-! step 3: worn roads are closed -/
def close1 (M : MT) (r : Int) : MT := if M 6 r = 0 ∧ 5 ≤ M 4 r ∧ onR M r (M 17 0).toNat = 0 then up M 6 r 4 else M
def closeI (M : MT) : Nat → MT
  | 0 => M
  | i + 1 => close1 (closeI M i) i
theorem closeI_s (M : MT) (i : Nat) : closeI M (i + 1) = close1 (closeI M i) i := rfl
theorem close1_fix (M : MT) (r : Int) {k : Nat} (q : k ≠ 6) : close1 M r k = M k := by
  funext j
  unfold close1
  split
  · rw [up_eq, if_neg (by omega)]
  · rfl
theorem closeI_fix (M : MT) {k : Nat} (q : k ≠ 6) : ∀ i : Nat, closeI M i k = M k
  | 0 => rfl
  | i + 1 => by rw [closeI_s, close1_fix _ _ q, closeI_fix M q i]
/-- a road is closed for some hours -/
theorem WF.shut {M : MT} {B : Int} (h : WF M B) {r v : Int} (hv : 0 ≤ v ∧ v ≤ 20) : WF (up M 6 r v) B := by
  obtain ⟨a, b, c, d, e, f, g, i, j, k, l⟩ := h
  have q : ∀ k : Nat, k ≠ 6 → up M 6 r v k = M k := fun k h => by funext j; rw [up_eq, if_neg (by omega)]
  refine ⟨a.up (Int.le_refl _) (by omega), b, WFR.congr (q 0 (by omega)) (q 1 (by omega)) (q 2 (by omega)) (by rw [q 16 (by omega)]) (by rw [q 19 (by omega)]) (fun r' => by rw [q 5 (by omega)]; exact (d r').2.2.2) c, fun r' => ?_, by rw [q 3 (by omega), q 16 (by omega)]; exact e, by rw [q 17 (by omega)]; exact f, by rw [q 17 (by omega)]; exact g, by rw [q 20 (by omega)]; exact i, ?_, ?_, by rw [q 17 (by omega), q 12 (by omega)]; exact l⟩
  · have := d r'
    rw [q 4 (by omega), q 5 (by omega), up_eq]
    split <;> omega
  · rw [q 18 (by omega), q 17 (by omega), j]
    exact cntIn_congr _ (fun t _ => by rw [q 15 (by omega)])
  · rw [q 17 (by omega)]
    exact fun t t0 t1 => (k t t0 t1).congr (fun x _ _ => by rw [q x (by omega)]) (by rw [q 16 (by omega)]) (by rw [q 19 (by omega)]) (by rw [q 20 (by omega)])
theorem WF.k_close1 {M : MT} {B : Int} (h : WF M B) (r : Int) : WF (close1 M r) B := by
  unfold close1
  split
  · exact h.shut (by omega)
  · exact h
theorem WF.k_closeI {M : MT} {B : Int} (h : WF M B) : ∀ i : Nat, WF (closeI M i) B
  | 0 => h
  | i + 1 => (WF.k_closeI h i).k_close1 i
/-! the hour -/
theorem WF.later {M : MT} {B : Int} (h : WF M B) {v : Int} (hv : M 20 0 ≤ v ∧ v ≤ B) : WF (upc M 20 v) B := by
  obtain ⟨a, b, c, d, e, f, g, i, j, k, l⟩ := h
  have q : ∀ k : Nat, k ≠ 20 → upc M 20 v k = M k := fun k h => by funext j; rw [upc_eq, if_neg (by omega)]
  refine ⟨a.upc (Int.le_refl _) (by omega), b, WFR.congr (q 0 (by omega)) (q 1 (by omega)) (q 2 (by omega)) (by rw [q 16 (by omega)]) (by rw [q 19 (by omega)]) (fun r' => by rw [q 5 (by omega)]; exact (d r').2.2.2) c, by rw [q 4 (by omega), q 5 (by omega), q 6 (by omega)]; exact d, by rw [q 3 (by omega), q 16 (by omega)]; exact e, by rw [q 17 (by omega)]; exact f, by rw [q 17 (by omega)]; exact g, by rw [upc_eq, if_pos rfl]; omega, ?_, ?_, by rw [q 17 (by omega), q 12 (by omega)]; exact l⟩
  · rw [q 18 (by omega), q 17 (by omega), j]
    exact cntIn_congr _ (fun t _ => by rw [q 15 (by omega)])
  · rw [q 17 (by omega)]
    intro t t0 t1
    have := k t t0 t1
    unfold TI at this ⊢
    rw [q 7 (by omega), q 8 (by omega), q 9 (by omega), q 10 (by omega), q 11 (by omega), q 12 (by omega), q 13 (by omega), q 14 (by omega), q 15 (by omega), q 16 (by omega), q 19 (by omega), upc_eq, if_pos rfl]
    omega
noncomputable def hourM (M : MT) : MT := upc (closeI (tourI (mendI M (M 16 0).toNat) (M 17 0).toNat) (M 16 0).toNat) 20 (M 20 0 + 1)
theorem WF.hour {M : MT} {B : Int} (h : WF M B) : WF (hourM M) (B + 26) := by
  have h1 := h.k_mendI (M 16 0).toNat
  have e17 : mendI M (M 16 0).toNat 17 = M 17 := mendI_eq M (by omega) _
  have e20 : mendI M (M 16 0).toNat 20 = M 20 := mendI_eq M (by omega) _
  have h17 := h.2.2.2.2.2.1
  have h172 := h.2.2.2.2.2.2.1
  have h20 := h.1 20 0
  have h2 := h1.k_tourI (M 17 0).toNat (by rw [e17]; omega)
  have h3 := (h2.mono (B' := B + 26) (by omega)).k_closeI (M 16 0).toNat
  refine h3.later ?_
  rw [closeI_fix _ (by omega), tourI_fix _ (by omega), e20]
  omega
theorem hourM_20 (M : MT) : hourM M 20 0 = M 20 0 + 1 := by unfold hourM; rw [upc_eq, if_pos rfl]
theorem hourM_fix (M : MT) {k : Nat} (q : k < 4 ∨ k = 11 ∨ k = 13 ∨ k = 14 ∨ k = 16 ∨ k = 17 ∨ k = 19) : hourM M k = M k := by
  unfold hourM
  funext j
  rw [upc_eq, if_neg (by omega), closeI_fix _ (by omega), tourI_fix _ (by omega), mendI_eq _ (by omega)]
noncomputable def hoursM (M : MT) : Nat → MT
  | 0 => M
  | h + 1 => hourM (hoursM M h)
theorem hoursM_s (M : MT) (h : Nat) : hoursM M (h + 1) = hourM (hoursM M h) := rfl
theorem WF.hours {M : MT} {B : Int} (h : WF M B) : ∀ n : Nat, WF (hoursM M n) (B + 26 * n)
  | 0 => by rw [show B + 26 * ((0 : Nat) : Int) = B by omega]; exact h
  | n + 1 => by rw [show B + 26 * ((n + 1 : Nat) : Int) = B + 26 * n + 26 by omega]; exact (WF.hours h n).hour
