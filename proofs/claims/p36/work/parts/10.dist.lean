/-! DISTANCES: walks, the distance dst, and what a table of sums must hold to be it -/
theorem ilt (a b : Int) : a < b ∨ b ≤ a := by omega
def usable (M : MT) (o : Bool) (r : Int) : Prop := 0 ≤ r ∧ r < M 16 0 ∧ (o = true → M 6 r = 0)
def wk (M : MT) (o : Bool) : Nat → Int → Int → Int → Prop
  | 0, a, b, L => a = b ∧ L = 0
  | k + 1, a, b, L => ∃ r : Int, usable M o r ∧ 0 ≤ endF M r a ∧ wk M o k (endF M r a) b (L - len M r)
/-- the roads are well made -/
def WFR (M : MT) : Prop := 0 ≤ M 16 0 ∧ M 16 0 ≤ 20 ∧ 0 ≤ M 19 0 ∧ M 19 0 ≤ 10 ∧ (∀ r : Int, 0 ≤ r → r < M 16 0 → 0 ≤ M 0 r ∧ M 0 r < M 19 0 ∧ 0 ≤ M 1 r ∧ M 1 r < M 19 0 ∧ M 0 r ≠ M 1 r ∧ 1 ≤ M 2 r ∧ M 2 r ≤ 9 ∧ 0 ≤ M 5 r ∧ M 5 r ≤ 3)
theorem WFR.ln {M : MT} (h : WFR M) {r : Int} (h0 : 0 ≤ r) (h1 : r < M 16 0) : 1 ≤ len M r ∧ len M r ≤ 12 := by
  have := h.2.2.2.2 r h0 h1
  unfold len
  omega
theorem endF_ok {M : MT} (h : WFR M) {r a : Int} (h0 : 0 ≤ r) (h1 : r < M 16 0) (he : 0 ≤ endF M r a) : (a = M 0 r ∧ endF M r a = M 1 r) ∨ (a = M 1 r ∧ endF M r a = M 0 r) := by
  unfold endF at he ⊢
  split at he
  · rename_i q; rw [if_pos q]; exact Or.inl ⟨q.symm, rfl⟩
  · rename_i q
    split at he
    · rename_i q2; rw [if_neg q, if_pos q2]; exact Or.inr ⟨q2.symm, rfl⟩
    · omega
theorem endF_0 (M : MT) (r : Int) : endF M r (M 0 r) = M 1 r := by unfold endF; rw [if_pos rfl]
theorem endF_1 {M : MT} (h : WFR M) {r : Int} (h0 : 0 ≤ r) (h1 : r < M 16 0) : endF M r (M 1 r) = M 0 r := by
  have := h.2.2.2.2 r h0 h1
  unfold endF; rw [if_neg (by omega), if_pos rfl]
theorem endF_rng {M : MT} (h : WFR M) {r a : Int} (h0 : 0 ≤ r) (h1 : r < M 16 0) (he : 0 ≤ endF M r a) : 0 ≤ a ∧ a < M 19 0 ∧ endF M r a < M 19 0 ∧ endF M r (endF M r a) = a := by
  have g := h.2.2.2.2 r h0 h1
  rcases endF_ok h h0 h1 he with ⟨e1, e2⟩ | ⟨e1, e2⟩
  · rw [e2, endF_1 h h0 h1]; omega
  · rw [e2, endF_0]; omega
theorem wk_pos {M : MT} {o : Bool} (h : WFR M) : ∀ (k : Nat) (a b L : Int), wk M o k a b L → (k : Int) ≤ L
  | 0, a, b, L, q => by rw [q.2]; exact Int.le_refl _
  | k + 1, a, b, L, ⟨r, hu, he, q⟩ => by
    have := wk_pos h k _ b _ q
    have := h.ln hu.1 hu.2.1
    omega
theorem wk_app {M : MT} {o : Bool} : ∀ (k j : Nat) (a c b L L' : Int), wk M o k a c L → wk M o j c b L' → wk M o (k + j) a b (L + L')
  | 0, j, a, c, b, L, L', q, q' => by
    obtain ⟨rfl, rfl⟩ := q
    rw [Nat.zero_add, Int.zero_add]; exact q'
  | k + 1, j, a, c, b, L, L', ⟨r, hu, he, q⟩, q' => by
    rw [show k + 1 + j = (k + j) + 1 by omega]
    exact ⟨r, hu, he, by rw [show L + L' - len M r = (L - len M r) + L' by omega]; exact wk_app k j _ c b _ L' q q'⟩
theorem wk_1 {M : MT} {o : Bool} {r a : Int} (hu : usable M o r) (he : 0 ≤ endF M r a) : wk M o 1 a (endF M r a) (len M r) := ⟨r, hu, he, rfl, by omega⟩
theorem wk_rev {M : MT} {o : Bool} (h : WFR M) : ∀ (k : Nat) (a b L : Int), 0 ≤ a → wk M o k a b L → wk M o k b a L
  | 0, a, b, L, _, q => ⟨q.1.symm, q.2⟩
  | k + 1, a, b, L, ha, ⟨r, hu, he, q⟩ => by
    have h1 := wk_rev h k _ b _ he q
    have g := endF_rng h hu.1 hu.2.1 he
    have h2 := wk_1 (a := endF M r a) hu (by rw [g.2.2.2]; exact ha)
    rw [g.2.2.2] at h2
    have h3 := wk_app k 1 b _ a _ _ h1 h2
    rw [show L - len M r + len M r = L by omega] at h3
    exact h3
/-- d is the distance: 1000000 where there is no way that short -/
def IsD (M : MT) (o : Bool) (a b d : Int) : Prop := 0 ≤ d ∧ d ≤ 1000000 ∧ (∀ (k : Nat) (L : Int), wk M o k a b L → d ≤ L) ∧ (d < 1000000 → ∃ k : Nat, wk M o k a b d)
theorem IsD.uniq {M : MT} {o : Bool} {a b d e : Int} (h : IsD M o a b d) (h' : IsD M o a b e) : d = e := by
  obtain ⟨-, d1, d2, d3⟩ := h
  obtain ⟨-, e1, e2, e3⟩ := h'
  rcases ilt d 1000000 with hd | hd
  · obtain ⟨k, q⟩ := d3 hd
    have := e2 k d q
    obtain ⟨k', q'⟩ := e3 (by omega)
    have := d2 k' e q'
    omega
  · rcases ilt e 1000000 with he | he
    · obtain ⟨k', q'⟩ := e3 he
      have := d2 k' e q'
      omega
    · omega
theorem IsD.ex {M : MT} {o : Bool} (h : WFR M) (a b : Int) : ∃ d, IsD M o a b d := by
  by_cases q : ∃ x : Nat, x < 1000000 ∧ ∃ k : Nat, wk M o k a b x
  · obtain ⟨x, ⟨hx, k, hk⟩, hm⟩ := pk_least (fun x : Nat => x < 1000000 ∧ ∃ k : Nat, wk M o k a b x) q
    refine ⟨x, by omega, by omega, fun j L hj => ?_, fun _ => ⟨k, hk⟩⟩
    have hp := wk_pos h j a b L hj
    rcases ilt L x with hL | hL
    · have := hm L.toNat (by omega)
      exact absurd ⟨by omega, j, by rw [show ((L.toNat : Nat) : Int) = L by omega]; exact hj⟩ this
    · exact hL
  · refine ⟨1000000, by decide, by decide, fun j L hj => ?_, fun z => absurd z (by decide)⟩
    have hp := wk_pos h j a b L hj
    rcases ilt L 1000000 with hL | hL
    · exact absurd ⟨L.toNat, by omega, j, by rw [show ((L.toNat : Nat) : Int) = L by omega]; exact hj⟩ q
    · exact hL
noncomputable def dst (M : MT) (o : Bool) (a b : Int) : Int := Classical.epsilon (fun d => IsD M o a b d)
theorem dst_ok {M : MT} {o : Bool} (h : WFR M) (a b : Int) : IsD M o a b (dst M o a b) := Classical.epsilon_spec (IsD.ex h a b)
theorem dst_sym {M : MT} {o : Bool} (h : WFR M) {a b : Int} (ha : 0 ≤ a) (hb : 0 ≤ b) : dst M o a b = dst M o b a := by
  refine (dst_ok h a b).uniq ?_
  obtain ⟨d0, d1, d2, d3⟩ := dst_ok (o := o) h b a
  refine ⟨d0, d1, fun k L q => d2 k L (wk_rev h k a b L ha q), fun z => ?_⟩
  obtain ⟨k, q⟩ := d3 z
  exact ⟨k, wk_rev h k b a _ hb q⟩
theorem dst_self {M : MT} {o : Bool} (h : WFR M) (a : Int) : dst M o a a = 0 := by
  obtain ⟨d0, -, d2, -⟩ := dst_ok (o := o) h a a
  have := d2 0 0 ⟨rfl, rfl⟩
  omega
theorem wk_congr {M N : MT} {o : Bool} (h0 : M 0 = N 0) (h1 : M 1 = N 1) (h2 : M 2 = N 2) (h5 : M 5 = N 5) (h6 : ∀ r : Int, M 6 r = 0 ↔ N 6 r = 0) (h16 : M 16 0 = N 16 0) : ∀ (k : Nat) (a b L : Int), wk M o k a b L → wk N o k a b L
  | 0, a, b, L, q => q
  | k + 1, a, b, L, ⟨r, hu, he, q⟩ => by
    have e1 : endF N r a = endF M r a := by unfold endF; rw [h0, h1]
    have e2 : len N r = len M r := by unfold len; rw [h2, h5]
    refine ⟨r, ⟨hu.1, by rw [← h16]; exact hu.2.1, fun z => (h6 r).mp (hu.2.2 z)⟩, by rw [e1]; exact he, ?_⟩
    rw [e1, e2]
    exact wk_congr h0 h1 h2 h5 h6 h16 k _ b _ q
theorem dst_congr {M N : MT} {o : Bool} (h0 : M 0 = N 0) (h1 : M 1 = N 1) (h2 : M 2 = N 2) (h5 : M 5 = N 5) (h6 : ∀ r : Int, M 6 r = 0 ↔ N 6 r = 0) (h16 : M 16 0 = N 16 0) (a b : Int) : dst M o a b = dst N o a b := by
  unfold dst
  congr 1
  funext d
  have hw : ∀ (k : Nat) (L : Int), wk M o k a b L ↔ wk N o k a b L := fun k L => ⟨wk_congr h0 h1 h2 h5 h6 h16 k a b L, wk_congr h0.symm h1.symm h2.symm h5.symm (fun r => (h6 r).symm) h16.symm k a b L⟩
  unfold IsD
  simp only [hw]
theorem wk_congrA {M N : MT} (h0 : M 0 = N 0) (h1 : M 1 = N 1) (h2 : M 2 = N 2) (h5 : M 5 = N 5) (h16 : M 16 0 = N 16 0) : ∀ (k : Nat) (a b L : Int), wk M false k a b L → wk N false k a b L
  | 0, a, b, L, q => q
  | k + 1, a, b, L, ⟨r, hu, he, q⟩ => by
    have e1 : endF N r a = endF M r a := by unfold endF; rw [h0, h1]
    have e2 : len N r = len M r := by unfold len; rw [h2, h5]
    refine ⟨r, ⟨hu.1, by rw [← h16]; exact hu.2.1, fun z => by cases z⟩, by rw [e1]; exact he, ?_⟩
    rw [e1, e2]
    exact wk_congrA h0 h1 h2 h5 h16 k _ b _ q
/-! the bound: a distance below 1000000 is at most 108 -/
def cnt (p : Nat → Prop) [DecidablePred p] : Nat → Nat
  | 0 => 0
  | n + 1 => cnt p n + (if p n then 1 else 0)
theorem cnt_le (p : Nat → Prop) [DecidablePred p] : ∀ n, cnt p n ≤ n
  | 0 => Nat.le_refl 0
  | n + 1 => by
    have := cnt_le p n
    unfold cnt
    split <;> omega
theorem cnt_mono (p q : Nat → Prop) [DecidablePred p] [DecidablePred q] (h : ∀ i, p i → q i) : ∀ n, cnt p n ≤ cnt q n
  | 0 => Nat.le_refl 0
  | n + 1 => by
    have := cnt_mono p q h n
    unfold cnt
    by_cases hp : p n
    · rw [if_pos hp, if_pos (h n hp)]; omega
    · rw [if_neg hp]; split <;> omega
theorem cnt_lt (p q : Nat → Prop) [DecidablePred p] [DecidablePred q] (h : ∀ i, p i → q i) (v : Nat) (hv : q v) (hp : ¬ p v) : ∀ n, v < n → cnt p n + 1 ≤ cnt q n
  | 0, hn => absurd hn (Nat.not_lt_zero v)
  | n + 1, hn => by
    unfold cnt
    by_cases e : v = n
    · subst e
      rw [if_pos hv, if_neg hp]
      have := cnt_mono p q h v
      omega
    · have := cnt_lt p q h v hv hp n (by omega)
      by_cases hpn : p n
      · rw [if_pos hpn, if_pos (h n hpn)]; omega
      · rw [if_neg hpn]; split <;> omega
theorem cnt_pos (p : Nat → Prop) [DecidablePred p] (v : Nat) (hv : p v) : ∀ n, v < n → 1 ≤ cnt p n
  | 0, hn => absurd hn (Nat.not_lt_zero v)
  | n + 1, hn => by
    unfold cnt
    by_cases e : v = n
    · subst e; rw [if_pos hv]; omega
    · have := cnt_pos p v hv n (by omega); omega
theorem dst_step {M : MT} {o : Bool} (h : WFR M) {a b : Int} (ha : 0 ≤ a) (hd : dst M o a b < 1000000) (hne : 0 < dst M o a b) : ∃ u : Int, 0 ≤ u ∧ u < M 19 0 ∧ a < M 19 0 ∧ dst M o u b < dst M o a b ∧ dst M o a b ≤ dst M o u b + 12 := by
  obtain ⟨d0, d1, d2, d3⟩ := dst_ok (o := o) h a b
  obtain ⟨k, q⟩ := d3 hd
  cases k with
  | zero => have := q.2; omega
  | succ k =>
    obtain ⟨r, hu, he, q⟩ := q
    have g := endF_rng h hu.1 hu.2.1 he
    have hl := h.ln hu.1 hu.2.1
    obtain ⟨u0, u1, u2, u3⟩ := dst_ok (o := o) h (endF M r a) b
    have hlt := u2 k _ q
    obtain ⟨k', q'⟩ := u3 (by omega)
    have := d2 _ _ (wk_app 1 k' a _ b _ _ (wk_1 hu he) q')
    exact ⟨endF M r a, he, g.2.2.1, g.2.1, by omega, by omega⟩
theorem dst_cnt {M : MT} {o : Bool} (h : WFR M) (b : Int) : ∀ (j : Nat) (a : Int), 0 ≤ a → a < M 19 0 → dst M o a b < 1000000 → 12 * (j : Int) < dst M o a b → j + 2 ≤ cnt (fun i : Nat => dst M o (i : Int) b ≤ dst M o a b) 10
  | 0, a, ha, ha2, hd, hj => by
    obtain ⟨u, u0, u1, -, u3, u4⟩ := dst_step h ha hd (by omega)
    have hn := h.2.2.2.1
    have h1 := cnt_pos (fun i : Nat => dst M o (i : Int) b ≤ dst M o u b) u.toNat (by show dst M o ((u.toNat : Nat) : Int) b ≤ _; rw [show ((u.toNat : Nat) : Int) = u by omega]; exact Int.le_refl _) 10 (by omega)
    have h2 := cnt_lt (fun i : Nat => dst M o (i : Int) b ≤ dst M o u b) (fun i : Nat => dst M o (i : Int) b ≤ dst M o a b) (fun i q => by have : dst M o (i : Int) b ≤ dst M o u b := q; show dst M o (i : Int) b ≤ dst M o a b; omega) a.toNat (by show dst M o ((a.toNat : Nat) : Int) b ≤ _; rw [show ((a.toNat : Nat) : Int) = a by omega]; exact Int.le_refl _) (by show ¬ dst M o ((a.toNat : Nat) : Int) b ≤ _; rw [show ((a.toNat : Nat) : Int) = a by omega]; omega) 10 (by omega)
    omega
  | j + 1, a, ha, ha2, hd, hj => by
    obtain ⟨u, u0, u1, -, u3, u4⟩ := dst_step h ha hd (by omega)
    have hn := h.2.2.2.1
    have h1 := dst_cnt (o := o) h b j u u0 u1 (by omega) (by omega)
    have h2 := cnt_lt (fun i : Nat => dst M o (i : Int) b ≤ dst M o u b) (fun i : Nat => dst M o (i : Int) b ≤ dst M o a b) (fun i q => by have : dst M o (i : Int) b ≤ dst M o u b := q; show dst M o (i : Int) b ≤ dst M o a b; omega) a.toNat (by show dst M o ((a.toNat : Nat) : Int) b ≤ _; rw [show ((a.toNat : Nat) : Int) = a by omega]; exact Int.le_refl _) (by show ¬ dst M o ((a.toNat : Nat) : Int) b ≤ _; rw [show ((a.toNat : Nat) : Int) = a by omega]; omega) 10 (by omega)
    omega
theorem dst_108 {M : MT} {o : Bool} (h : WFR M) {a b : Int} (ha : 0 ≤ a) (ha2 : a < M 19 0) (hd : dst M o a b < 1000000) : dst M o a b ≤ 108 := by
  rcases ilt 108 (dst M o a b) with q | q
  · have h1 := dst_cnt h b 9 a ha ha2 hd (by omega)
    have h2 := cnt_le (fun i : Nat => dst M o (i : Int) b ≤ dst M o a b) 10
    omega
  · exact q
/-! a table of sums: s (a * 10 + b) -/
def mn (x y : Int) : Int := if y < x then y else x
theorem mn_le (x y : Int) : mn x y ≤ x ∧ mn x y ≤ y ∧ (mn x y = x ∨ mn x y = y) := by unfold mn; split <;> omega
/-- the table, at the stage at which crossings below k have been gone over -/
def Stg (M : MT) (o : Bool) (n k : Int) (s : Int → Int) : Prop :=
  (∀ a b : Int, 0 ≤ a → a < n → 0 ≤ b → b < n → 0 ≤ s (a * 10 + b) ∧ s (a * 10 + b) ≤ 1000000 ∧ s (a * 10 + b) = s (b * 10 + a) ∧ (s (a * 10 + b) < 1000000 → ∃ j : Nat, wk M o j a b (s (a * 10 + b)))) ∧
  (∀ a : Int, 0 ≤ a → a < n → s (a * 10 + a) = 0) ∧
  (∀ r : Int, usable M o r → s (M 0 r * 10 + M 1 r) ≤ len M r ∧ s (M 1 r * 10 + M 0 r) ≤ len M r) ∧
  (∀ a b c : Int, 0 ≤ a → a < n → 0 ≤ b → b < n → 0 ≤ c → c < k → c < n → s (a * 10 + b) ≤ s (a * 10 + c) + s (c * 10 + b))
theorem Stg.next {M : MT} {o : Bool} {n k : Int} {s s' : Int → Int} (hW : WFR M) (hn : n = M 19 0) (hk : 0 ≤ k ∧ k < n) (h : Stg M o n k s) (h' : ∀ a b : Int, 0 ≤ a → a < n → 0 ≤ b → b < n → s' (a * 10 + b) = mn (s (a * 10 + b)) (s (a * 10 + k) + s (k * 10 + b))) : Stg M o n (k + 1) s' := by
  obtain ⟨h1, h2, h3, h4⟩ := h
  refine ⟨fun a b a0 a1 b0 b1 => ?_, fun a a0 a1 => ?_, fun r hu => ?_, fun a b c a0 a1 b0 b1 c0 c1 c2 => ?_⟩
  · have g1 := h1 a b a0 a1 b0 b1
    have g2 := h1 a k a0 a1 hk.1 hk.2
    have g3 := h1 k b hk.1 hk.2 b0 b1
    have m1 := mn_le (s (a * 10 + b)) (s (a * 10 + k) + s (k * 10 + b))
    rw [h' a b a0 a1 b0 b1, h' b a b0 b1 a0 a1]
    refine ⟨?_, by omega, ?_, fun hf => ?_⟩
    · rcases m1.2.2 with e | e <;> rw [e] <;> omega
    · have g4 := h1 b k b0 b1 hk.1 hk.2
      have g5 := h1 k a hk.1 hk.2 a0 a1
      rw [g1.2.2.1, show s (a * 10 + k) + s (k * 10 + b) = s (b * 10 + k) + s (k * 10 + a) by omega]
    · rcases m1.2.2 with e | e
      · rw [e] at hf ⊢; exact g1.2.2.2 hf
      · rw [e] at hf ⊢
        obtain ⟨j1, q1⟩ := g2.2.2.2 (by omega)
        obtain ⟨j2, q2⟩ := g3.2.2.2 (by omega)
        exact ⟨j1 + j2, wk_app j1 j2 a k b _ _ q1 q2⟩
  · rw [h' a a a0 a1 a0 a1, h2 a a0 a1]
    have g2 := h1 a k a0 a1 hk.1 hk.2
    have g3 := h1 k a hk.1 hk.2 a0 a1
    unfold mn
    rw [if_neg (by omega)]
  · have g := hW.2.2.2.2 r hu.1 hu.2.1
    have g3 := h3 r hu
    rw [h' _ _ (by omega) (by omega) (by omega) (by omega), h' _ _ (by omega) (by omega) (by omega) (by omega)]
    have m1 := mn_le (s (M 0 r * 10 + M 1 r)) (s (M 0 r * 10 + k) + s (k * 10 + M 1 r))
    have m2 := mn_le (s (M 1 r * 10 + M 0 r)) (s (M 1 r * 10 + k) + s (k * 10 + M 0 r))
    omega
  · rw [h' a b a0 a1 b0 b1, h' a c a0 a1 c0 c2, h' c b c0 c2 b0 b1]
    have m0 := mn_le (s (a * 10 + b)) (s (a * 10 + k) + s (k * 10 + b))
    have m1 := mn_le (s (a * 10 + c)) (s (a * 10 + k) + s (k * 10 + c))
    have m2 := mn_le (s (c * 10 + b)) (s (c * 10 + k) + s (k * 10 + b))
    have z1 := h1 k c hk.1 hk.2 c0 c2
    have z2 := h1 c k c0 c2 hk.1 hk.2
    have z3 := h2 k hk.1 hk.2
    by_cases e : c = k
    · subst e
      rcases m1.2.2 with e1 | e1 <;> rcases m2.2.2 with e2 | e2 <;> rw [e1, e2] <;> omega
    · have t1 := h4 a b c a0 a1 b0 b1 c0 (by omega) c2
      have t2 := h4 k b c hk.1 hk.2 b0 b1 c0 (by omega) c2
      have t3 := h4 a k c a0 a1 hk.1 hk.2 c0 (by omega) c2
      rcases m1.2.2 with e1 | e1 <;> rcases m2.2.2 with e2 | e2 <;> rw [e1, e2] <;> omega
theorem Stg.dst {M : MT} {o : Bool} {s : Int → Int} (hW : WFR M) (h : Stg M o (M 19 0) (M 19 0) s) {a b : Int} (a0 : 0 ≤ a) (a1 : a < M 19 0) (b0 : 0 ≤ b) (b1 : b < M 19 0) : s (a * 10 + b) = dst M o a b := by
  obtain ⟨h1, h2, h3, h4⟩ := h
  refine IsD.uniq (M := M) (o := o) (a := a) (b := b) ?_ (dst_ok hW a b)
  have g := h1 a b a0 a1 b0 b1
  refine ⟨g.1, g.2.1, fun k => ?_, g.2.2.2⟩
  induction k generalizing a with
  | zero => intro L q; obtain ⟨rfl, rfl⟩ := q; rw [h2 a a0 a1]; exact Int.le_refl _
  | succ k ih =>
    intro L q
    obtain ⟨r, hu, he, q⟩ := q
    have gr := endF_rng hW hu.1 hu.2.1 he
    have i1 := ih he gr.2.2.1 (h1 _ b he gr.2.2.1 b0 b1) _ q
    have t := h4 a b (endF M r a) a0 a1 b0 b1 he gr.2.2.1 gr.2.2.1
    have g3 := h3 r hu
    rcases endF_ok hW hu.1 hu.2.1 he with ⟨e1, e2⟩ | ⟨e1, e2⟩
    · rw [e2] at t i1
      have : s (a * 10 + M 1 r) ≤ len M r := by rw [e1]; exact g3.1
      omega
    · rw [e2] at t i1
      have : s (a * 10 + M 0 r) ≤ len M r := by rw [e1]; exact g3.2
      omega
