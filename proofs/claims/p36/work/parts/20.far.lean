/-! FAR: one nearest crossing behind the other gives the distances; the first road that is as far as told is the road to take -/
def d9 (x : Int) : Int := if x < 1000000 then x else 999
def sd (f : Int → Int) : Nat → Int
  | 0 => 0
  | i + 1 => sd f i + f (i : Int)
theorem sd_s (f : Int → Int) (i : Nat) : sd f (i + 1) = sd f i + f (i : Int) := rfl
theorem sd_same {f g : Int → Int} : ∀ n : Nat, (∀ c : Int, 0 ≤ c → c < n → f c = g c) → sd f n = sd g n
  | 0, _ => rfl
  | n + 1, h => by rw [sd_s, sd_s, sd_same n (fun c c0 c1 => h c c0 (by omega)), h (n : Int) (by omega) (by omega)]
theorem sd_up (f : Int → Int) {c v : Int} : ∀ n : Nat, 0 ≤ c → c < n → sd (ups f c v) n = sd f n - f c + v
  | 0, h0, h1 => absurd h1 (by omega)
  | n + 1, h0, h1 => by
    rw [sd_s, sd_s]
    by_cases e : c = (n : Int)
    · rw [e, ups_same, sd_same (g := f) n (fun c c0 c1 => ups_ne v (by omega))]; omega
    · rw [ups_ne v (fun z => e z.symm), sd_up f n h0 (by omega)]; omega
theorem sd_le {f : Int → Int} : ∀ n : Nat, (∀ c : Int, 0 ≤ c → c < n → f c = 0 ∨ f c = 1) → 0 ≤ sd f n ∧ sd f n ≤ n
  | 0, _ => ⟨Int.le_refl _, Int.le_refl _⟩
  | n + 1, h => by
    have := sd_le n (fun c c0 c1 => h c c0 (by omega))
    have := h (n : Int) (by omega) (by omega)
    rw [sd_s]; omega
theorem sd_full {f : Int → Int} : ∀ n : Nat, (∀ c : Int, 0 ≤ c → c < n → f c = 0 ∨ f c = 1) → sd f n = n → ∀ c : Int, 0 ≤ c → c < n → f c = 1
  | 0, _, _, c, c0, c1 => absurd c1 (by omega)
  | n + 1, h, e, c, c0, c1 => by
    have l := sd_le n (fun c c0 c1 => h c c0 (by omega))
    have l2 := h (n : Int) (by omega) (by omega)
    rw [sd_s] at e
    by_cases q : c = (n : Int)
    · rw [q]; omega
    · exact sd_full n (fun c c0 c1 => h c c0 (by omega)) (by omega) c c0 (by omega)
theorem sd_all {f : Int → Int} : ∀ n : Nat, (∀ c : Int, 0 ≤ c → c < n → f c = 1) → sd f n = n
  | 0, _ => rfl
  | n + 1, h => by rw [sd_s, sd_all n (fun c c0 c1 => h c c0 (by omega)), h (n : Int) (by omega) (by omega)]; omega
/-- what the two rows hold -/
def JF (M : MT) (o : Bool) (src : Int) (far dn : Int → Int) : Prop :=
  (∀ c : Int, 0 ≤ c → c < M 19 0 → 0 ≤ far c ∧ far c ≤ 999 ∧ (far c < 999 → ∃ k : Nat, wk M o k src c (far c)) ∧ (dn c = 0 ∨ dn c = 1)) ∧ far src = 0 ∧ (∀ c : Int, 0 ≤ c → c < M 19 0 → dn c = 1 → far c = d9 (dst M o src c))
/-- the roads that have been laid: all of those done, but x, of which only those below i -/
def RX (M : MT) (o : Bool) (far dn : Int → Int) (x i : Int) : Prop := ∀ c : Int, 0 ≤ c → c < M 19 0 → dn c = 1 → ∀ r : Int, usable M o r → (c ≠ x ∨ r < i) → 0 ≤ endF M r c → far c < 999 → far (endF M r c) ≤ far c + len M r
theorem JF.reach {M : MT} {o : Bool} {src : Int} {far dn : Int → Int} {x : Int} (hW : WFR M) (hJ : JF M o src far dn) (hR : RX M o far dn x (M 16 0)) : ∀ (k : Nat) (a b L P : Int), wk M o k a b L → 0 ≤ a → a < M 19 0 → dn a = 1 → dn b = 0 → far a ≤ P → P + L < 999 → ∃ u : Int, 0 ≤ u ∧ u < M 19 0 ∧ dn u = 0 ∧ far u ≤ P + L
  | 0, a, b, L, P, hw, a0, a1, da, db, hP, hL => by
    obtain ⟨rfl, rfl⟩ := hw
    omega
  | k + 1, a, b, L, P, ⟨r, hu, he, hw⟩, a0, a1, da, db, hP, hL => by
    have gl := hW.ln hu.1 hu.2.1
    have gp := wk_pos hW k _ b _ hw
    have ge := endF_rng hW hu.1 hu.2.1 he
    have h1 := hR a a0 a1 da r hu (Or.inr hu.2.1) he (by omega)
    have h2 := hJ.1 (endF M r a) he ge.2.2.1
    rcases h2.2.2.2 with hd | hd
    · exact ⟨endF M r a, he, ge.2.2.1, hd, by omega⟩
    · obtain ⟨u, u0, u1, u2, u3⟩ := JF.reach hW hJ hR k (endF M r a) b (L - len M r) (P + len M r) hw he ge.2.2.1 hd db (by omega) (by omega)
      exact ⟨u, u0, u1, u2, by omega⟩
/-- the nearest of those that are not done is as far as it is -/
theorem JF.pick {M : MT} {o : Bool} {src : Int} {far dn : Int → Int} {x nx : Int} (hW : WFR M) (hs : 0 ≤ src ∧ src < M 19 0) (hJ : JF M o src far dn) (hR : RX M o far dn x (M 16 0)) (hn : 0 ≤ nx ∧ nx < M 19 0) (hd : dn nx = 0) (hm : ∀ c : Int, 0 ≤ c → c < M 19 0 → dn c = 0 → far nx ≤ far c) : far nx = d9 (dst M o src nx) := by
  obtain ⟨D0, D1, D2, D3⟩ := dst_ok (o := o) hW src nx
  obtain ⟨n0, n1, n2, -⟩ := hJ.1 nx hn.1 hn.2
  have key : dst M o src nx < 1000000 → far nx ≤ dst M o src nx := fun hfin => by
    rcases ilt (dst M o src nx) (far nx) with hlt | hle
    · obtain ⟨k, hw⟩ := D3 hfin
      rcases (hJ.1 src hs.1 hs.2).2.2.2 with h0 | h1
      · have := hm src hs.1 hs.2 h0
        have := hJ.2.1
        omega
      · obtain ⟨u, u0, u1, u2, u3⟩ := JF.reach hW hJ hR k src nx _ 0 hw hs.1 hs.2 h1 hd (by rw [hJ.2.1]; exact Int.le_refl _) (by omega)
        have := hm u u0 u1 u2
        omega
    · exact hle
  have low : far nx < 999 → dst M o src nx ≤ far nx := fun h => by
    obtain ⟨k, hw⟩ := n2 h
    exact D2 k _ hw
  unfold d9
  by_cases hfin : dst M o src nx < 1000000
  · rw [if_pos hfin]
    have := key hfin
    have := dst_108 hW hs.1 hs.2 hfin
    omega
  · rw [if_neg hfin]
    omega
theorem JF.mark {M : MT} {o : Bool} {src : Int} {far dn : Int → Int} {nx : Int} (hJ : JF M o src far dn) (hf : far nx = d9 (dst M o src nx)) : JF M o src far (ups dn nx 1) := by
  refine ⟨fun c c0 c1 => ?_, hJ.2.1, fun c c0 c1 h => ?_⟩
  · obtain ⟨a1, a2, a3, a4⟩ := hJ.1 c c0 c1
    refine ⟨a1, a2, a3, ?_⟩
    by_cases e : c = nx
    · rw [e, ups_same]; exact Or.inr rfl
    · rw [ups_ne _ e]; exact a4
  · by_cases e : c = nx
    · rw [e]; exact hf
    · rw [ups_ne _ e] at h; exact hJ.2.2 c c0 c1 h
theorem RX.mark {M : MT} {o : Bool} {far dn : Int → Int} {x nx : Int} (hR : RX M o far dn x (M 16 0)) : RX M o far (ups dn nx 1) nx 0 := by
  intro c c0 c1 h r hu hx he hf
  by_cases e : c = nx
  · have := hu.1
    rcases hx with z | z
    · exact absurd e z
    · omega
  · rw [ups_ne _ e] at h
    exact hR c c0 c1 h r hu (Or.inr hu.2.1) he hf
theorem RX.none {M : MT} {o : Bool} {far dn : Int → Int} {nx i : Int} (hR : RX M o far dn nx i) (h9 : far nx = 999) (x : Int) : RX M o far dn x (M 16 0) := by
  intro c c0 c1 h r hu hx he hf
  by_cases e : c = nx
  · rw [e] at hf; omega
  · exact hR c c0 c1 h r hu (Or.inl e) he hf
theorem RX.all {M : MT} {o : Bool} {far dn : Int → Int} {nx : Int} (hR : RX M o far dn nx (M 16 0)) (x : Int) : RX M o far dn x (M 16 0) := by
  intro c c0 c1 h r hu hx he hf
  exact hR c c0 c1 h r hu (Or.inr hu.2.1) he hf
/-- a road that isn't laid -/
theorem RX.skip {M : MT} {o : Bool} {far dn : Int → Int} {nx i : Int} (hR : RX M o far dn nx i) (hi : ¬ usable M o i ∨ endF M i nx < 0) : RX M o far dn nx (i + 1) := by
  intro c c0 c1 h r hu hx he hf
  by_cases e : c ≠ nx ∨ r < i
  · exact hR c c0 c1 h r hu e he hf
  · have e2 : r = i := by omega
    have e3 : c = nx := by omega
    subst e2; subst e3
    rcases hi with z | z
    · exact absurd hu z
    · omega
theorem lay_min {M : MT} {o : Bool} {src : Int} {far dn : Int → Int} {nx i c : Int} (hW : WFR M) (hJ : JF M o src far dn) (hn : 0 ≤ nx ∧ nx < M 19 0) (h9 : far nx < 999) (hu : usable M o i) (he : 0 ≤ endF M i nx) (hc : dn (endF M i nx) = 1) : far (endF M i nx) ≤ far nx + len M i := by
  have ge := endF_rng hW hu.1 hu.2.1 he
  obtain ⟨a1, a2, a3, -⟩ := hJ.1 nx hn.1 hn.2
  have gl := hW.ln hu.1 hu.2.1
  obtain ⟨k, hw⟩ := a3 h9
  have hw2 := wk_app k 1 src nx (endF M i nx) _ _ hw (wk_1 hu he)
  have hd := hJ.2.2 _ he ge.2.2.1 hc
  have D := dst_ok (o := o) hW src (endF M i nx)
  have := D.2.2.1 _ _ hw2
  rw [hd]
  unfold d9
  rw [if_pos (by omega)]
  exact this
theorem JF.lay {M : MT} {o : Bool} {src : Int} {far dn : Int → Int} {nx i : Int} (hW : WFR M) (hJ : JF M o src far dn) (hn : 0 ≤ nx ∧ nx < M 19 0) (h9 : far nx < 999) (hu : usable M o i) (he : 0 ≤ endF M i nx) : JF M o src (ups far (endF M i nx) (mn (far (endF M i nx)) (far nx + len M i))) dn := by
  have ge := endF_rng hW hu.1 hu.2.1 he
  obtain ⟨a1, a2, a3, -⟩ := hJ.1 nx hn.1 hn.2
  obtain ⟨e1, e2, e3, -⟩ := hJ.1 _ he ge.2.2.1
  have gl := hW.ln hu.1 hu.2.1
  have hm := mn_le (far (endF M i nx)) (far nx + len M i)
  refine ⟨fun c c0 c1 => ?_, ?_, fun c c0 c1 h => ?_⟩
  · by_cases e : c = endF M i nx
    · rw [e, ups_same]
      refine ⟨by omega, by omega, fun h => ?_, (hJ.1 _ he ge.2.2.1).2.2.2⟩
      rcases hm.2.2 with z | z
      · rw [z] at h ⊢; exact e3 h
      · rw [z]
        obtain ⟨k, hw⟩ := a3 h9
        exact ⟨k + 1, wk_app k 1 src nx (endF M i nx) _ _ hw (wk_1 hu he)⟩
    · rw [ups_ne _ e]; exact hJ.1 c c0 c1
  · by_cases e : src = endF M i nx
    · rw [← e, ups_same]
      have h0 := hJ.2.1
      rw [← e] at hm
      omega
    · rw [ups_ne _ e]; exact hJ.2.1
  · by_cases e : c = endF M i nx
    · rw [e] at h ⊢
      have := lay_min (c := c) hW hJ hn h9 hu he h
      rw [ups_same, show mn (far (endF M i nx)) (far nx + len M i) = far (endF M i nx) by omega]
      exact hJ.2.2 _ he ge.2.2.1 h
    · rw [ups_ne _ e]; exact hJ.2.2 c c0 c1 h
theorem endF_neq {M : MT} (hW : WFR M) {r a : Int} (h0 : 0 ≤ r) (h1 : r < M 16 0) (he : 0 ≤ endF M r a) : endF M r a ≠ a := by
  have g := hW.2.2.2.2 r h0 h1
  rcases endF_ok hW h0 h1 he with ⟨e1, e2⟩ | ⟨e1, e2⟩ <;> omega
theorem RX.lay {M : MT} {o : Bool} {src : Int} {far dn : Int → Int} {nx i : Int} (hW : WFR M) (hJ : JF M o src far dn) (hR : RX M o far dn nx i) (hn : 0 ≤ nx ∧ nx < M 19 0) (hd : dn nx = 1) (h9 : far nx < 999) (hu : usable M o i) (he : 0 ≤ endF M i nx) : RX M o (ups far (endF M i nx) (mn (far (endF M i nx)) (far nx + len M i))) dn nx (i + 1) := by
  have hm := mn_le (far (endF M i nx)) (far nx + len M i)
  have hne := endF_neq hW hu.1 hu.2.1 he
  have same : ∀ c : Int, dn c = 1 → ups far (endF M i nx) (mn (far (endF M i nx)) (far nx + len M i)) c = far c := fun c h => by
    by_cases e : c = endF M i nx
    · rw [e] at h ⊢
      have := lay_min (c := c) hW hJ hn h9 hu he h
      rw [ups_same]; omega
    · rw [ups_ne _ e]
  have le : ∀ c : Int, ups far (endF M i nx) (mn (far (endF M i nx)) (far nx + len M i)) c ≤ far c := fun c => by
    by_cases e : c = endF M i nx
    · rw [e, ups_same]; exact hm.1
    · rw [ups_ne _ e]; exact Int.le_refl _
  intro c c0 c1 h r hu2 hx he2 hf
  rw [same c h] at hf ⊢
  have hl := le (endF M r c)
  by_cases e : c ≠ nx ∨ r < i
  · have := hR c c0 c1 h r hu2 e he2 hf
    omega
  · have e2 : r = i := by omega
    have e3 : c = nx := by omega
    subst e2; subst e3
    rw [ups_same]; omega
theorem JF.init {M : MT} {o : Bool} (hW : WFR M) {src : Int} {far : Int → Int} (hf : ∀ c : Int, 0 ≤ c → c < M 19 0 → far c = if c = src then 0 else 999) (hs : 0 ≤ src ∧ src < M 19 0) : JF M o src far (fun _ => 0) := by
  refine ⟨fun c c0 c1 => ?_, by rw [hf src hs.1 hs.2, if_pos rfl], fun c c0 c1 h => absurd h (by show ¬ (0 : Int) = 1; decide)⟩
  rw [hf c c0 c1]
  by_cases e : c = src
  · rw [if_pos e]; exact ⟨by decide, by decide, fun _ => ⟨0, e.symm, rfl⟩, Or.inl rfl⟩
  · rw [if_neg e]; exact ⟨by decide, by decide, fun h => absurd h (by decide), Or.inl rfl⟩
theorem RX.init {M : MT} {o : Bool} {far : Int → Int} {x i : Int} : RX M o far (fun _ => 0) x i := fun c c0 c1 h => absurd h (by show ¬ (0 : Int) = 1; decide)
/-! the road to take -/
def cand (M : MT) (p g r : Int) : Prop := M 6 r = 0 ∧ 0 ≤ endF M r p ∧ len M r + dst M true (endF M r p) g = dst M true p g
theorem dst_tri {M : MT} (hW : WFR M) {o : Bool} {r p g : Int} (hu : usable M o r) (he : 0 ≤ endF M r p) (hd : dst M o (endF M r p) g < 1000000) : dst M o p g ≤ len M r + dst M o (endF M r p) g := by
  obtain ⟨k, hw⟩ := (dst_ok (o := o) hW (endF M r p) g).2.2.2 hd
  exact (dst_ok (o := o) hW p g).2.2.1 _ _ (wk_app 1 k p _ g _ _ (wk_1 hu he) hw)
theorem twd_none {M : MT} (hW : WFR M) {p g : Int} (hd : ¬ dst M true p g < 1000000) : ∀ n : Nat, (n : Int) ≤ M 16 0 → twd M p g n = (-1, 1000000)
  | 0, _ => rfl
  | n + 1, hn => by
    have ih := twd_none hW hd n (by omega)
    have hl := hW.ln (r := (n : Int)) (by omega) (by omega)
    have hp := (dst_ok (o := true) hW p g).2.1
    rw [twd_n (fun z => ?_), ih]
    rw [ih] at z
    have z3 : len M (n : Int) + dst M true (endF M (n : Int) p) g < 1000000 := z.2.2
    have := dst_tri hW (o := true) (r := (n : Int)) (p := p) (g := g) ⟨by omega, by omega, fun _ => z.1⟩ z.2.1 (by omega)
    omega
theorem toward_none {M : MT} (hW : WFR M) {p g : Int} (hd : ¬ dst M true p g < 1000000) : toward M p g = -1 := by
  have := hW.1
  unfold toward
  rw [twd_none hW hd _ (by omega)]
theorem twd_above {M : MT} (hW : WFR M) {p g : Int} (hd : dst M true p g < 1000000) : ∀ n : Nat, (n : Int) ≤ M 16 0 → (∀ j : Nat, j < n → ¬ cand M p g (j : Int)) → dst M true p g < (twd M p g n).2
  | 0, _, _ => hd
  | n + 1, hn, hc => by
    have ih := twd_above hW hd n (by omega) (fun j hj => hc j (by omega))
    have hl := hW.ln (r := (n : Int)) (by omega) (by omega)
    by_cases h : M 6 n = 0 ∧ 0 ≤ endF M n p ∧ len M n + dst M true (endF M n p) g < (twd M p g n).2
    · rw [twd_y h.1 h.2.1 h.2.2]
      have hb := (twd_ok (M := M) p g n).2
      have := dst_tri hW (o := true) (r := (n : Int)) (p := p) (g := g) ⟨by omega, by omega, fun _ => h.1⟩ h.2.1 (by omega)
      have hne : ¬ len M (n : Int) + dst M true (endF M (n : Int) p) g = dst M true p g := fun z => hc n (by omega) ⟨h.1, h.2.1, z⟩
      show dst M true p g < len M (n : Int) + dst M true (endF M (n : Int) p) g
      omega
    · rw [twd_n h]; exact ih
theorem twd_first {M : MT} (hW : WFR M) {p g : Int} (hd : dst M true p g < 1000000) {r : Nat} (hr : (r : Int) < M 16 0) (hc : cand M p g (r : Int)) (hb : ∀ j : Nat, j < r → ¬ cand M p g (j : Int)) : ∀ n : Nat, r < n → (n : Int) ≤ M 16 0 → twd M p g n = ((r : Int), dst M true p g)
  | 0, h, _ => absurd h (by omega)
  | n + 1, h, hn => by
    by_cases e : r = n
    · subst e
      have := twd_above hW hd r (by omega) hb
      rw [twd_y hc.1 hc.2.1 (by rw [hc.2.2]; exact this), hc.2.2]
    · have ih := twd_first hW hd hr hc hb n (by omega) (by omega)
      rw [twd_n (fun z => ?_), ih]
      rw [ih] at z
      have z3 : len M (n : Int) + dst M true (endF M (n : Int) p) g < dst M true p g := z.2.2
      have hl := hW.ln (r := (n : Int)) (by omega) (by omega)
      have := dst_tri hW (o := true) (r := (n : Int)) (p := p) (g := g) ⟨by omega, by omega, fun _ => z.1⟩ z.2.1 (by omega)
      omega
theorem toward_first {M : MT} (hW : WFR M) {p g : Int} (hd : dst M true p g < 1000000) {r : Nat} (hr : (r : Int) < M 16 0) (hc : cand M p g (r : Int)) (hb : ∀ j : Nat, j < r → ¬ cand M p g (j : Int)) : toward M p g = (r : Int) := by
  unfold toward
  rw [twd_first hW hd hr hc hb _ (by omega) (by omega)]
theorem cand_ex {M : MT} (hW : WFR M) {p g : Int} (hp : 0 ≤ p) (hpg : p ≠ g) (hd : dst M true p g < 1000000) : ∃ r : Nat, (r : Int) < M 16 0 ∧ cand M p g (r : Int) := by
  obtain ⟨D0, D1, D2, D3⟩ := dst_ok (o := true) hW p g
  obtain ⟨k, hw⟩ := D3 hd
  cases k with
  | zero => exact absurd hw.1 hpg
  | succ k =>
    obtain ⟨r, hu, he, hw⟩ := hw
    have hl := hW.ln hu.1 hu.2.1
    obtain ⟨E0, E1, E2, E3⟩ := dst_ok (o := true) hW (endF M r p) g
    have h1 := E2 k _ hw
    have h2 := dst_tri hW hu he (g := g) (by omega)
    exact ⟨r.toNat, by have := hu.1; have := hu.2.1; omega, by rw [show ((r.toNat : Nat) : Int) = r by have := hu.1; omega]; exact ⟨hu.2.2 rfl, he, by omega⟩⟩
theorem toward_cand {M : MT} (hW : WFR M) {p g : Int} (hp : 0 ≤ p) (hpg : p ≠ g) (hd : dst M true p g < 1000000) : 0 ≤ toward M p g ∧ toward M p g < M 16 0 ∧ cand M p g (toward M p g) := by
  obtain ⟨r, ⟨h1, h2⟩, h3⟩ := pk_least (fun r : Nat => (r : Int) < M 16 0 ∧ cand M p g (r : Int)) (cand_ex hW hp hpg hd)
  have := toward_first hW hd h1 h2 (fun j hj hc => h3 j hj ⟨by omega, hc⟩)
  rw [this]
  exact ⟨by omega, h1, h2⟩
theorem dst_0 {M : MT} (hW : WFR M) {o : Bool} {a b : Int} (h : dst M o a b = 0) : a = b := by
  obtain ⟨k, hw⟩ := (dst_ok (o := o) hW a b).2.2.2 (by omega)
  rw [h] at hw
  have := wk_pos hW k a b 0 hw
  cases k with
  | zero => exact hw.1
  | succ k => omega
theorem wk_open {M : MT} : ∀ (k : Nat) (a b L : Int), wk M true k a b L → wk M false k a b L
  | 0, a, b, L, h => h
  | k + 1, a, b, L, ⟨r, hu, he, hw⟩ => ⟨r, ⟨hu.1, hu.2.1, fun z => absurd z (by decide)⟩, he, wk_open k _ b _ hw⟩
theorem dst_open {M : MT} (hW : WFR M) (a b : Int) : dst M false a b ≤ dst M true a b := by
  have h1 := dst_ok (o := true) hW a b
  have h2 := dst_ok (o := false) hW a b
  by_cases h : dst M true a b < 1000000
  · obtain ⟨k, hw⟩ := h1.2.2.2 h
    exact h2.2.2.1 k _ (wk_open k a b _ hw)
  · have := h2.2.1; omega
theorem dst_tri3 {M : MT} (hW : WFR M) {o : Bool} {a b c : Int} (h1 : dst M o a b < 1000000) (h2 : dst M o b c < 1000000) : dst M o a c ≤ dst M o a b + dst M o b c := by
  obtain ⟨k, hw⟩ := (dst_ok (o := o) hW a b).2.2.2 h1
  obtain ⟨j, hv⟩ := (dst_ok (o := o) hW b c).2.2.2 h2
  exact (dst_ok (o := o) hW a c).2.2.1 _ _ (wk_app k j a b c _ _ hw hv)
