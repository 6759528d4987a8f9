/-! WHAT CHANGES THE LOOM KEEPS WF -/
def TIb (c16 c19 c20 a7 a8 a9 a10 a11 a12 a13 a14 a15 : Int) : Prop := -1 ≤ a7 ∧ a7 < c19 ∧ -1 ≤ a8 ∧ a8 < c16 ∧ 0 ≤ a11 ∧ a11 < c19 ∧ 0 ≤ a12 ∧ a12 ≤ 3 ∧ 0 ≤ a13 ∧ a13 ≤ c20 ∧ 0 ≤ a14 ∧ a14 ≤ 108 ∧ -1 ≤ a15 ∧ (a15 < 0 → (0 ≤ a8 → 0 ≤ a9 ∧ a9 < c19 ∧ 1 ≤ a10 ∧ a7 = -1) ∧ (a8 < 0 → 0 ≤ a7 ∧ a7 ≠ a11)) ∧ (0 ≤ a15 → a8 = -1)
theorem TI_b {M : MT} {t : Int} : TI M t ↔ TIb (M 16 0) (M 19 0) (M 20 0) (M 7 t) (M 8 t) (M 9 t) (M 10 t) (M 11 t) (M 12 t) (M 13 t) (M 14 t) (M 15 t) := Iff.rfl
theorem TIb.mono {c16 c19 c20 a7 a8 a9 a10 a11 a12 a13 a14 a15 d16 d19 : Int} (h : TIb c16 c19 c20 a7 a8 a9 a10 a11 a12 a13 a14 a15) (h16 : c16 ≤ d16) (h19 : c19 ≤ d19) : TIb d16 d19 c20 a7 a8 a9 a10 a11 a12 a13 a14 a15 := by
  obtain ⟨p1, p2, p3, p4, p5, p6, p7, p8, p9, p10, p11, p12, p13, p14, p15⟩ := h
  refine ⟨p1, by omega, p3, by omega, p5, by omega, p7, p8, p9, p10, p11, p12, p13, fun z => ⟨fun z2 => ?_, (p14 z).2⟩, p15⟩
  have := (p14 z).1 z2
  exact ⟨this.1, by omega, this.2.2.1, this.2.2.2⟩
theorem WF.kAC {N : MT} {B : Int} (h : WF N B) (h10 : N 19 0 < 10) : WF (upc N 19 (N 19 0 + 1)) B := by
  obtain ⟨a, b, ⟨w0, w1, w2, w3, w4⟩, d, e, f, g, i, j, k, l⟩ := h
  refine ⟨a.upc (Int.le_refl _) (by omega), b, ⟨w0, w1, ?_, ?_, fun r r0 r1 => ?_⟩, d, e, f, g, i, ?_, fun t t0 t1 => (TI_b.mp (k t t0 t1)).mono (Int.le_refl _) (show N 19 0 ≤ N 19 0 + 1 by omega), l⟩
  · show 0 ≤ N 19 0 + 1; omega
  · show N 19 0 + 1 ≤ 10; omega
  · have := w4 r r0 r1
    show 0 ≤ N 0 r ∧ N 0 r < N 19 0 + 1 ∧ 0 ≤ N 1 r ∧ N 1 r < N 19 0 + 1 ∧ N 0 r ≠ N 1 r ∧ 1 ≤ N 2 r ∧ N 2 r ≤ 9 ∧ 0 ≤ N 5 r ∧ N 5 r ≤ 3
    omega
  · exact j.trans (cntIn_congr _ (fun _ _ => Iff.rfl))
theorem WF.kAR {N : MT} {B x y z u : Int} (h : WF N B) (hx : 0 ≤ x ∧ x < N 19 0) (hy : 0 ≤ y ∧ y < N 19 0) (hxy : x ≠ y) (hz : 1 ≤ z ∧ z ≤ 9) (hu : 0 ≤ u ∧ u ≤ 3) (h16 : N 16 0 < 20) : WF (putR N x y z u) B := by
  obtain ⟨a, b, ⟨w0, w1, w2, w3, w4⟩, d, e, f, g, i, j, k, l⟩ := h
  refine ⟨((((a.up (Int.le_refl _) (by omega)).up (Int.le_refl _) (by omega)).up (Int.le_refl _) (by omega)).up (Int.le_refl _) (by omega)).upc (Int.le_refl _) (by omega), b, ⟨?_, ?_, w2, w3, fun r r0 r1 => ?_⟩, d, fun r r0 r1 => ?_, f, g, i, ?_, fun t t0 t1 => (TI_b.mp (k t t0 t1)).mono (show N 16 0 ≤ N 16 0 + 1 by omega) (Int.le_refl _), l⟩
  · show 0 ≤ N 16 0 + 1; omega
  · show N 16 0 + 1 ≤ 20; omega
  · have r2 : r < N 16 0 + 1 := r1
    show 0 ≤ ups (N 0) (N 16 0) x r ∧ ups (N 0) (N 16 0) x r < N 19 0 ∧ 0 ≤ ups (N 1) (N 16 0) y r ∧ ups (N 1) (N 16 0) y r < N 19 0 ∧ ups (N 0) (N 16 0) x r ≠ ups (N 1) (N 16 0) y r ∧ 1 ≤ ups (N 2) (N 16 0) z r ∧ ups (N 2) (N 16 0) z r ≤ 9 ∧ 0 ≤ N 5 r ∧ N 5 r ≤ 3
    have d5 := d r
    by_cases q : r = N 16 0
    · rw [q, ups_same, ups_same, ups_same]
      rw [q] at d5
      omega
    · have := w4 r r0 (by omega)
      rw [ups_ne _ q, ups_ne _ q, ups_ne _ q]
      omega
  · have r2 : r < N 16 0 + 1 := r1
    show 0 ≤ ups (N 3) (N 16 0) u r ∧ ups (N 3) (N 16 0) u r ≤ 3
    by_cases q : r = N 16 0
    · rw [q, ups_same]; exact hu
    · rw [ups_ne _ q]; exact e r r0 (by omega)
  · exact j.trans (cntIn_congr _ (fun _ _ => Iff.rfl))
theorem WF.kAT {N : MT} {B x y s : Int} (h : WF N B) (hx : 0 ≤ x ∧ x < N 19 0) (hy : 0 ≤ y ∧ y < N 19 0) (hxy : x ≠ y) (hs : 0 ≤ s ∧ s ≤ 108) (h17 : N 17 0 < 12) : WF (putT N x y s (N 20 0)) B := by
  obtain ⟨a, b, ⟨w0, w1, w2, w3, w4⟩, d, e, f, g, i, j, k, l⟩ := h
  have a20 := a 20 0
  refine ⟨(((((((a.up (Int.le_refl _) (by omega)).up (Int.le_refl _) (by omega)).up (Int.le_refl _) (by omega)).up (Int.le_refl _) (by omega)).up (Int.le_refl _) (by omega)).up (Int.le_refl _) (by omega)).up (Int.le_refl _) (by omega)).upc (Int.le_refl _) (by omega), b, ⟨w0, w1, w2, w3, w4⟩, d, e, ?_, ?_, i, ?_, fun t t0 t1 => ?_, fun t t0 => ?_⟩
  · show 0 ≤ N 17 0 + 1; omega
  · show N 17 0 + 1 ≤ 12; omega
  · show N 18 0 = cntIn (putT N x y s (N 20 0)) (N 17 0 + 1).toNat
    rw [show (N 17 0 + 1).toNat = (N 17 0).toNat + 1 by omega, cntIn_s, j, cntIn_congr (M := putT N x y s (N 20 0)) (N := N) (N 17 0).toNat (fun t ht => by
      show 0 ≤ ups (N 15) (N 17 0) (-1) t ↔ _
      rw [ups_ne _ (by omega)])]
    rw [if_neg]
    · omega
    · show ¬ 0 ≤ ups (N 15) (N 17 0) (-1) ((N 17 0).toNat : Int)
      rw [show (((N 17 0).toNat : Nat) : Int) = N 17 0 by omega, ups_same]
      decide
  · have t2 : t < N 17 0 + 1 := t1
    show TIb (N 16 0) (N 19 0) (N 20 0) (ups (N 7) (N 17 0) x t) (ups (N 8) (N 17 0) (-1) t) (N 9 t) (N 10 t) (ups (N 11) (N 17 0) y t) (ups (N 12) (N 17 0) 0 t) (ups (N 13) (N 17 0) (N 20 0) t) (ups (N 14) (N 17 0) s t) (ups (N 15) (N 17 0) (-1) t)
    by_cases q : t = N 17 0
    · rw [q, ups_same, ups_same, ups_same, ups_same, ups_same, ups_same, ups_same]
      exact ⟨by omega, by omega, by omega, by omega, by omega, by omega, by omega, by omega, by omega, by omega, by omega, by omega, by omega, fun _ => ⟨fun z => absurd z (by decide), fun _ => ⟨by omega, hxy⟩⟩, fun _ => rfl⟩
    · rw [ups_ne _ q, ups_ne _ q, ups_ne _ q, ups_ne _ q, ups_ne _ q, ups_ne _ q, ups_ne _ q]
      exact k t t0 (by omega)
  · have t2 : N 17 0 + 1 ≤ t := t0
    show ups (N 12) (N 17 0) 0 t = 0
    rw [ups_ne _ (by omega)]
    exact l t (by omega)
theorem WF.kM {N : MT} {B x y : Int} (h : WF N B) (hy : 1 ≤ y ∧ y ≤ 20) : WF (up N 6 x y) B := by
  obtain ⟨a, b, w, d, e, f, g, i, j, k, l⟩ := h
  refine ⟨a.up (Int.le_refl _) (by omega), b, w, fun r => ?_, e, f, g, i, j.trans (cntIn_congr _ (fun _ _ => Iff.rfl)), k, l⟩
  have dr := d r
  show 0 ≤ N 4 r ∧ 0 ≤ ups (N 6) x y r ∧ ups (N 6) x y r ≤ 20 ∧ 0 ≤ N 5 r ∧ N 5 r ≤ 3
  by_cases q : r = x
  · rw [q, ups_same]; rw [q] at dr; omega
  · rw [ups_ne _ q]; exact dr
theorem WF.kX {N : MT} {B x : Int} (h : WF N B) : WF (up N 5 x 0) B := by
  obtain ⟨a, b, ⟨w0, w1, w2, w3, w4⟩, d, e, f, g, i, j, k, l⟩ := h
  have key : ∀ r : Int, 0 ≤ ups (N 5) x 0 r ∧ ups (N 5) x 0 r ≤ 3 := fun r => by
    by_cases q : r = x
    · rw [q, ups_same]; decide
    · rw [ups_ne _ q]; exact (d r).2.2.2
  refine ⟨a.up (Int.le_refl _) (by omega), b, ⟨w0, w1, w2, w3, fun r r0 r1 => ?_⟩, fun r => ⟨(d r).1, (d r).2.1, (d r).2.2.1, key r⟩, e, f, g, i, j.trans (cntIn_congr _ (fun _ _ => Iff.rfl)), k, l⟩
  have := w4 r r0 r1
  exact ⟨this.1, this.2.1, this.2.2.1, this.2.2.2.1, this.2.2.2.2.1, this.2.2.2.2.2.1, this.2.2.2.2.2.2.1, key r⟩
/-- who has arrived is somewhere -/
def XI (M : MT) : Prop := ∀ t : Int, 0 ≤ t → t < M 17 0 → 0 ≤ M 15 t → 0 ≤ M 7 t
/-- all that is kept -/
def INV (N : MT) (g : Int → Int) (B : Int) : Prop := WF N B ∧ FI N ∧ XI N ∧ GE N g
theorem INV.mono {N : MT} {g : Int → Int} {B B' : Int} (h : INV N g B) (hB : B ≤ B') : INV N g B' := ⟨h.1.mono hB, h.2⟩
theorem INV0 : INV M0 z0 200 := by
  refine ⟨WF0, ⟨fun r _ => ⟨rfl, rfl, rfl⟩, fun t _ => rfl⟩, fun t t0 t1 => absurd t1 ?_, fun t t0 t1 => absurd t1 ?_⟩
  · show ¬ t < 0; omega
  · show ¬ t < 0; omega
theorem INV.kAC {N : MT} {g : Int → Int} {B : Int} (h : INV N g B) (h10 : N 19 0 < 10) : INV (upc N 19 (N 19 0 + 1)) g B := ⟨h.1.kAC h10, h.2.1, h.2.2.1, h.2.2.2⟩
theorem INV.kM {N : MT} {g : Int → Int} {B x y : Int} (h : INV N g B) (hx : 0 ≤ x ∧ x < N 16 0) (hy : 1 ≤ y ∧ y ≤ 20) : INV (up N 6 x y) g B := by
  refine ⟨h.1.kM hy, ⟨fun r hr => ?_, h.2.1.2⟩, h.2.2.1, h.2.2.2⟩
  have h0 : N 16 0 ≤ r := hr
  have := h.2.1.1 r h0
  refine ⟨this.1, this.2.1, ?_⟩
  show ups (N 6) x y r = 0
  rw [ups_ne _ (by omega)]
  exact this.2.2
theorem INV.kX {N : MT} {g : Int → Int} {B x : Int} (h : INV N g B) (hx : 0 ≤ x ∧ x < N 16 0) : INV (up N 5 x 0) g B := by
  refine ⟨h.1.kX, ⟨fun r hr => ?_, h.2.1.2⟩, h.2.2.1, h.2.2.2⟩
  have h0 : N 16 0 ≤ r := hr
  have := h.2.1.1 r h0
  refine ⟨this.1, ?_, this.2.2⟩
  show ups (N 5) x 0 r = 0
  rw [ups_ne _ (by omega)]
  exact this.2.1
theorem INV.kAR {N : MT} {g : Int → Int} {B x y z u : Int} (h : INV N g B) (hx : 0 ≤ x ∧ x < N 19 0) (hy : 0 ≤ y ∧ y < N 19 0) (hxy : x ≠ y) (hz : 1 ≤ z ∧ z ≤ 9) (hu : 0 ≤ u ∧ u ≤ 3) (h16 : N 16 0 < 20) : INV (putR N x y z u) g B := by
  refine ⟨h.1.kAR hx hy hxy hz hu h16, ⟨fun r hr => ?_, h.2.1.2⟩, h.2.2.1, h.2.2.2⟩
  have h0 : N 16 0 + 1 ≤ r := hr
  exact h.2.1.1 r (by omega)
theorem INV.kAT {N : MT} {g : Int → Int} {B x y s : Int} (h : INV N g B) (hx : 0 ≤ x ∧ x < N 19 0) (hy : 0 ≤ y ∧ y < N 19 0) (hxy : x ≠ y) (hs : 0 ≤ s ∧ s ≤ 108) (h17 : N 17 0 < 12) : INV (putT N x y s (N 20 0)) (ups g (N 17 0) (-1)) B := by
  have e17 : putT N x y s (N 20 0) 17 0 = N 17 0 + 1 := rfl
  refine ⟨h.1.kAT hx hy hxy hs h17, ⟨fun r hr => ?_, fun t ht => ?_⟩, fun t t0 t1 t2 => ?_, fun t t0 t1 t2 => ?_⟩
  · exact h.2.1.1 r hr
  · rw [e17] at ht
    rw [putT_n (by omega)]
    exact h.2.1.2 t (by omega)
  · rw [e17] at t1
    by_cases q : t = N 17 0
    · exact absurd t2 (by rw [q]; show ¬ 0 ≤ ups (N 15) (N 17 0) (-1) (N 17 0); rw [ups_same]; decide)
    · rw [putT_ne (by decide) q] at t2 ⊢
      exact h.2.2.1 t t0 (by omega) t2
  · rw [e17] at t1
    by_cases q : t = N 17 0
    · exact absurd t2 (by rw [q]; show ¬ 0 ≤ ups (N 8) (N 17 0) (-1) (N 17 0); rw [ups_same]; decide)
    · rw [putT_ne (by decide) q] at t2
      rw [putT_ne (by decide) q, ups_ne _ q]
      exact h.2.2.2 t t0 (by omega) t2
theorem tour1_4hi {M : MT} {B : Int} (h : WF M B) (t : Int) {r : Int} (hr : M 16 0 ≤ r) : tour1 M t 4 r = M 4 r := by
  unfold tour1
  split
  · rfl
  · rw [walkT_fix (k := 4) _ _ _ (by omega)]
    unfold outT
    split
    · rfl
    · split
      · rfl
      · rename_i q
        have ht := toward_ok h.r (M 7 t) (M 11 t)
        rw [goR_eq, if_neg (fun z => by have := z.2; omega), if_neg (by omega), if_neg (by omega), if_neg (by omega), if_neg (by omega), if_neg (by omega)]
theorem tourI_4hi {M : MT} {B : Int} (h : WF M B) {r : Int} (hr : M 16 0 ≤ r) : ∀ n : Nat, (n : Int) ≤ M 17 0 → tourI M n 4 r = M 4 r
  | 0, _ => rfl
  | n + 1, hn => by
    rw [tourI_s, tour1_4hi (h.k_tourI n (by omega)) _ (by rw [tourI_fix M (by omega)]; exact hr), tourI_4hi h hr n (by omega)]
theorem FI.hour {N : MT} {B : Int} (hF : WF N B) (h : FI N) : FI (hourM N) := by
  have h17 := hF.2.2.2.2.2.1
  refine ⟨fun r hr => ?_, fun t ht => ?_⟩
  · rw [hour_fix' (k := 16) (by omega)] at hr
    have h0 := h.1 r hr
    have h16 := hF.r.1
    refine ⟨?_, ?_, ?_⟩
    · unfold hourM
      rw [upc_n _ (by omega), closeI_fix _ (by omega), tourI_4hi (hF.k_mendI _) (by rw [mendI_eq N (by omega)]; exact hr) _ (by rw [mendI_eq N (by omega)]; omega), mendI_4, if_neg (by omega)]
      exact h0.1
    · unfold hourM
      rw [upc_n _ (by omega), closeI_fix _ (by omega), tourI_fix _ (by omega), mendI_5, if_neg (by omega)]
      exact h0.2.1
    · unfold hourM
      rw [upc_n _ (by omega), closeI_6, if_neg (by omega), tourI_fix _ (by omega), mendI_6, if_neg (by omega)]
      exact h0.2.2
  · rw [hour_fix' (k := 17) (by omega)] at ht
    unfold hourM
    rw [upc_n _ (by omega), closeI_fix _ (by omega), tourI_lo _ (by omega) (by omega) _ (by omega), mendI_eq N (by omega)]
    exact h.2 t ht
theorem XI.hour {N : MT} {B : Int} (hF : WF N B) (h : XI N) : XI (hourM N) := by
  intro t t0 t1 t2
  rw [hour_fix' (k := 17) (by omega)] at t1
  by_cases q : 0 ≤ N 15 t
  · rw [hour_in hF ⟨t0, t1⟩ q (by decide) (by decide)]
    exact h t t0 t1 q
  · rcases hour_15 hF ⟨t0, t1⟩ (by omega) with w | w
    · omega
    · have hTI := hF.2.2.2.2.2.2.2.2.2.1 t t0 t1
      unfold TI at hTI
      rw [w.2]; omega
theorem INV.hours {N : MT} {g g' : Int → Int} {B : Int} (h : INV N g B) (n : Nat) (hg : GE (hoursM N n) g') : INV (hoursM N n) g' (B + 26 * n) := by
  have key : ∀ n : Nat, FI (hoursM N n) ∧ XI (hoursM N n) := fun n => by
    induction n with
    | zero => exact ⟨h.2.1, h.2.2.1⟩
    | succ n ih => exact ⟨FI.hour (h.1.hours n) ih.1, XI.hour (h.1.hours n) ih.2⟩
  exact ⟨h.1.hours n, (key n).1, (key n).2, hg⟩
theorem INV.hour {N : MT} {g g' : Int → Int} {B : Int} (h : INV N g B) (hg : GE (hourM N) g') : INV (hourM N) g' (B + 26) := ⟨h.1.hour, FI.hour h.1 h.2.1, XI.hour h.1 h.2.2.1, hg⟩
