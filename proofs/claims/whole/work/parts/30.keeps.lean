/-! WHAT CHANGES THE LOOM KEEPS WF -/
def TIb (c16 c19 c20 a7 a8 a9 a10 a11 a12 a13 a14 a15 : Int) : Prop := -1 ≤ a7 ∧ a7 < c19 ∧ -1 ≤ a8 ∧ a8 < c16 ∧ 0 ≤ a11 ∧ a11 < c19 ∧ 0 ≤ a12 ∧ a12 ≤ 3 ∧ 0 ≤ a13 ∧ a13 ≤ c20 ∧ 0 ≤ a14 ∧ a14 ≤ 108 ∧ -1 ≤ a15 ∧ (a15 < 0 → (0 ≤ a8 → 0 ≤ a9 ∧ a9 < c19 ∧ 1 ≤ a10 ∧ a7 = -1) ∧ (a8 < 0 → 0 ≤ a7 ∧ a7 ≠ a11)) ∧ (0 ≤ a15 → a8 = -1)
theorem TI_b {M : MT} {t : Int} : TI M t ↔ TIb (M 16 0) (M 19 0) (M 20 0) (M 7 t) (M 8 t) (M 9 t) (M 10 t) (M 11 t) (M 12 t) (M 13 t) (M 14 t) (M 15 t) := Iff.rfl
theorem TIb.mono {c16 c19 c20 a7 a8 a9 a10 a11 a12 a13 a14 a15 d16 d19 : Int} (h : TIb c16 c19 c20 a7 a8 a9 a10 a11 a12 a13 a14 a15) (h16 : c16 ≤ d16) (h19 : c19 ≤ d19) : TIb d16 d19 c20 a7 a8 a9 a10 a11 a12 a13 a14 a15 := by
  obtain ⟨p1, p2, p3, p4, p5, p6, p7, p8, p9, p10, p11, p12, p13, p14, p15⟩ := h
  refine ⟨p1, by omega, p3, by omega, p5, by omega, p7, p8, p9, p10, p11, p12, p13, fun z => ⟨fun z2 => ?_, (p14 z).2⟩, p15⟩
  have := (p14 z).1 z2
  exact ⟨this.1, by omega, this.2.2.1, this.2.2.2⟩
theorem WF.kAC {N : MT} {B : Int} (h : WF N B) (hk : kAC N = 0) : WF (upc N 19 (N 19 0 + 1)) B := by
  have h10 : N 19 0 ≠ 10 := fun z => by have q9 : (if N 19 0 = 10 then (1 : Int) else 0) = 0 := hk; rw [if_pos z] at q9; exact absurd q9 (by decide)
  obtain ⟨a, b, ⟨w0, w1, w2, w3, w4⟩, d, e, f, g, i, j, k, l⟩ := h
  refine ⟨a.upc (Int.le_refl _) (by omega), b, ⟨w0, w1, ?_, ?_, fun r r0 r1 => ?_⟩, d, e, f, g, i, ?_, fun t t0 t1 => (TI_b.mp (k t t0 t1)).mono (Int.le_refl _) (show N 19 0 ≤ N 19 0 + 1 by omega), l⟩
  · show 0 ≤ N 19 0 + 1; omega
  · show N 19 0 + 1 ≤ 10; omega
  · have := w4 r r0 r1
    show 0 ≤ N 0 r ∧ N 0 r < N 19 0 + 1 ∧ 0 ≤ N 1 r ∧ N 1 r < N 19 0 + 1 ∧ N 0 r ≠ N 1 r ∧ 1 ≤ N 2 r ∧ N 2 r ≤ 9 ∧ 0 ≤ N 5 r ∧ N 5 r ≤ 3
    omega
  · exact j.trans (cntIn_congr _ (fun _ _ => Iff.rfl))
theorem WF.kAR {N : MT} {B x y z u : Int} (h : WF N B) (hx : 0 ≤ x ∧ x < N 19 0) (hy : 0 ≤ y ∧ y < N 19 0) (hxy : x ≠ y) (hz : 1 ≤ z ∧ z ≤ 9) (hu : 0 ≤ u ∧ u ≤ 3) (h16 : N 16 0 < 20) : WF (putR N x y z u) B := by
  obtain ⟨a, b, ⟨w0, w1, w2, w3, w4⟩, d, e, f, g, i, j, k, l⟩ := h
  refine ⟨((((a.up (Int.le_refl _) (by omega)).up (Int.le_refl _) (by omega)).up (Int.le_refl _) (by omega)).up (Int.le_refl _) (by omega)).upc (Int.le_refl _) (by omega), b, ⟨?_, ?_, w2, w3, fun r r0 r1 => ?_⟩, d, fun r r0 r1 => ?_, f, g, i, ?_, fun t t0 t1 => (TI_b.mp (k t t0 t1)).mono (show N 16 0 ≤ N 16 0 + 1 by omega) (Int.le_refl _), l⟩
  · show 0 ≤ N 16 0 + 1; omega
  · show N 16 0 + 1 ≤ 20; omega
  · have r2 : r < N 16 0 + 1 := r1
    show 0 ≤ ups (N 0) (N 16 0) x r ∧ ups (N 0) (N 16 0) x r < N 19 0 ∧ 0 ≤ ups (N 1) (N 16 0) y r ∧ ups (N 1) (N 16 0) y r < N 19 0 ∧ ups (N 0) (N 16 0) x r ≠ ups (N 1) (N 16 0) y r ∧ 1 ≤ ups (N 2) (N 16 0) z r ∧ ups (N 2) (N 16 0) z r ≤ 9 ∧ 0 ≤ N 5 r ∧ N 5 r ≤ 3
    have d5 := d r
    by_cases q : r = N 16 0
    · rw [q, ups_same, ups_same, ups_same]
      rw [q] at d5
      omega
    · have := w4 r r0 (by omega)
      rw [ups_ne _ q, ups_ne _ q, ups_ne _ q]
      omega
  · have r2 : r < N 16 0 + 1 := r1
    show 0 ≤ ups (N 3) (N 16 0) u r ∧ ups (N 3) (N 16 0) u r ≤ 3
    by_cases q : r = N 16 0
    · rw [q, ups_same]; exact hu
    · rw [ups_ne _ q]; exact e r r0 (by omega)
  · exact j.trans (cntIn_congr _ (fun _ _ => Iff.rfl))
theorem WF.kAT {N : MT} {B x y s : Int} (h : WF N B) (hx : 0 ≤ x ∧ x < N 19 0) (hy : 0 ≤ y ∧ y < N 19 0) (hxy : x ≠ y) (hs : 0 ≤ s ∧ s ≤ 108) (h17 : N 17 0 < 12) : WF (putT N x y s (N 20 0)) B := by
  obtain ⟨a, b, ⟨w0, w1, w2, w3, w4⟩, d, e, f, g, i, j, k, l⟩ := h
  have a20 := a 20 0
  refine ⟨(((((((a.up (Int.le_refl _) (by omega)).up (Int.le_refl _) (by omega)).up (Int.le_refl _) (by omega)).up (Int.le_refl _) (by omega)).up (Int.le_refl _) (by omega)).up (Int.le_refl _) (by omega)).up (Int.le_refl _) (by omega)).upc (Int.le_refl _) (by omega), b, ⟨w0, w1, w2, w3, w4⟩, d, e, ?_, ?_, i, ?_, fun t t0 t1 => ?_, fun t t0 => ?_⟩
  · show 0 ≤ N 17 0 + 1; omega
  · show N 17 0 + 1 ≤ 12; omega
  · show N 18 0 = cntIn (putT N x y s (N 20 0)) (N 17 0 + 1).toNat
    rw [show (N 17 0 + 1).toNat = (N 17 0).toNat + 1 by omega, cntIn_s, j, cntIn_congr (M := putT N x y s (N 20 0)) (N := N) (N 17 0).toNat (fun t ht => by
      show 0 ≤ ups (N 15) (N 17 0) (-1) t ↔ _
      rw [ups_ne _ (by omega)])]
    rw [if_neg]
    · omega
    · show ¬ 0 ≤ ups (N 15) (N 17 0) (-1) ((N 17 0).toNat : Int)
      rw [show (((N 17 0).toNat : Nat) : Int) = N 17 0 by omega, ups_same]
      decide
  · have t2 : t < N 17 0 + 1 := t1
    show TIb (N 16 0) (N 19 0) (N 20 0) (ups (N 7) (N 17 0) x t) (ups (N 8) (N 17 0) (-1) t) (N 9 t) (N 10 t) (ups (N 11) (N 17 0) y t) (ups (N 12) (N 17 0) 0 t) (ups (N 13) (N 17 0) (N 20 0) t) (ups (N 14) (N 17 0) s t) (ups (N 15) (N 17 0) (-1) t)
    by_cases q : t = N 17 0
    · rw [q, ups_same, ups_same, ups_same, ups_same, ups_same, ups_same, ups_same]
      exact ⟨by omega, by omega, by omega, by omega, by omega, by omega, by omega, by omega, by omega, by omega, by omega, by omega, by omega, fun _ => ⟨fun z => absurd z (by decide), fun _ => ⟨by omega, hxy⟩⟩, fun _ => rfl⟩
    · rw [ups_ne _ q, ups_ne _ q, ups_ne _ q, ups_ne _ q, ups_ne _ q, ups_ne _ q, ups_ne _ q]
      exact k t t0 (by omega)
  · have t2 : N 17 0 + 1 ≤ t := t0
    show ups (N 12) (N 17 0) 0 t = 0
    rw [ups_ne _ (by omega)]
    exact l t (by omega)
theorem WF.kM {N : MT} {B x y : Int} (h : WF N B) (hy : 1 ≤ y ∧ y ≤ 20) : WF (up N 6 x y) B := by
  obtain ⟨a, b, w, d, e, f, g, i, j, k, l⟩ := h
  refine ⟨a.up (Int.le_refl _) (by omega), b, w, fun r => ?_, e, f, g, i, j.trans (cntIn_congr _ (fun _ _ => Iff.rfl)), k, l⟩
  have dr := d r
  show 0 ≤ N 4 r ∧ 0 ≤ ups (N 6) x y r ∧ ups (N 6) x y r ≤ 20 ∧ 0 ≤ N 5 r ∧ N 5 r ≤ 3
  by_cases q : r = x
  · rw [q, ups_same]; rw [q] at dr; omega
  · rw [ups_ne _ q]; exact dr
theorem WF.kX {N : MT} {B x : Int} (h : WF N B) : WF (up N 5 x 0) B := by
  obtain ⟨a, b, ⟨w0, w1, w2, w3, w4⟩, d, e, f, g, i, j, k, l⟩ := h
  have key : ∀ r : Int, 0 ≤ ups (N 5) x 0 r ∧ ups (N 5) x 0 r ≤ 3 := fun r => by
    by_cases q : r = x
    · rw [q, ups_same]; decide
    · rw [ups_ne _ q]; exact (d r).2.2.2
  refine ⟨a.up (Int.le_refl _) (by omega), b, ⟨w0, w1, w2, w3, fun r r0 r1 => ?_⟩, fun r => ⟨(d r).1, (d r).2.1, (d r).2.2.1, key r⟩, e, f, g, i, j.trans (cntIn_congr _ (fun _ _ => Iff.rfl)), k, l⟩
  have := w4 r r0 r1
  exact ⟨this.1, this.2.1, this.2.2.1, this.2.2.2.1, this.2.2.2.2.1, this.2.2.2.2.2.1, this.2.2.2.2.2.2.1, key r⟩
/-! the same, said by the codes -/
theorem kR_0 {M : MT} {r : Int} (h : kR M r = 0) : 0 ≤ r ∧ r ≤ M 16 0 - 1 := by
  unfold kR at h
  by_cases q : 0 ≤ r ∧ r ≤ M 16 0 - 1
  · exact q
  · rw [if_neg q] at h; exact absurd h (by decide)
theorem kC_0 {M : MT} {a b : Int} (h : kC M a b = 0) : (0 ≤ a ∧ a ≤ M 19 0 - 1) ∧ 0 ≤ b ∧ b ≤ M 19 0 - 1 := by
  unfold kC at h
  by_cases q : (0 ≤ a ∧ a ≤ M 19 0 - 1) ∧ 0 ≤ b ∧ b ≤ M 19 0 - 1
  · exact q
  · rw [if_neg q] at h; exact absurd h (by decide)
theorem kC_1 {M : MT} {a b : Int} (h : kC M a b ≠ 1) : kC M a b = 0 := by
  unfold kC at h ⊢
  split
  · rfl
  · rename_i q; rw [if_neg q] at h; exact absurd rfl h
theorem kR_1 {M : MT} {r : Int} (h : kR M r ≠ 1) : kR M r = 0 := by
  unfold kR at h ⊢
  split
  · rfl
  · rename_i q; rw [if_neg q] at h; exact absurd rfl h
theorem wf_AC {N : MT} {B : Int} (h : WF N B) : WF (if kAC N = 0 then upc N 19 (N 19 0 + 1) else N) (B + 1300) := by
  split
  · rename_i q; exact (h.kAC q).mono (by omega)
  · exact h.mono (by omega)
theorem wf_AR {N : MT} {B x y z u : Int} (h : WF N B) : WF (if kAR N x y z u = 0 then putR N x y z u else N) (B + 1300) := by
  split
  · rename_i q
    have w := h.r
    by_cases c : kC N x y = 1
    · rw [kAR_1 c] at q; exact absurd q (by decide)
    · have c0 := kC_1 c
      have c1 := kC_0 c0
      by_cases e : x = y ∨ ¬ (1 ≤ z ∧ z ≤ 9) ∨ ¬ (0 ≤ u ∧ u ≤ 3)
      · rw [kAR_2 c0 e] at q; exact absurd q (by decide)
      · rw [kAR_3 c0 e] at q
        have e16 : N 16 0 ≠ 20 := fun z => by rw [if_pos z] at q; exact absurd q (by decide)
        have := w.2.1
        exact (h.kAR (by omega) (by omega) (by omega) (by omega) (by omega) (by omega)).mono (by omega)
  · exact h.mono (by omega)
theorem wf_AT {N : MT} {B x y : Int} (h : WF N B) : WF (if kAT N x y = 0 then putT N x y (dO N false x y) (N 20 0) else N) (B + 1300) := by
  split
  · rename_i q
    have w := h.r
    by_cases c : kC N x y = 1
    · rw [kAT_1 c] at q; exact absurd q (by decide)
    · have c0 := kC_1 c
      have c1 := kC_0 c0
      by_cases e : x = y
      · rw [kAT_2 c0 e] at q; exact absurd q (by decide)
      · by_cases e2 : N 17 0 = 12 ∨ dO N false x y = -1
        · rw [kAT_3 c0 e e2] at q; exact absurd q (by decide)
        · have hd := dO_rng w (o := false) (a := x) (b := y) (by omega)
          have h12 := h.2.2.2.2.2.2.1
          exact (h.kAT (by omega) (by omega) e (by omega) (by omega)).mono (by omega)
  · exact h.mono (by omega)
theorem wf_M {N : MT} {B x y : Int} (h : WF N B) : WF (if kM N x y = 0 then up N 6 x y else N) (B + 1300) := by
  split
  · rename_i q
    by_cases c : kR N x = 1
    · rw [kM_1 c] at q; exact absurd q (by decide)
    · by_cases e : 1 ≤ y ∧ y ≤ 20
      · exact (h.kM e).mono (by omega)
      · rw [kM_2 (kR_1 c) e] at q; exact absurd q (by decide)
  · exact h.mono (by omega)
theorem wf_X {N : MT} {B x : Int} (h : WF N B) : WF (if kX N x = 0 then up N 5 x 0 else N) (B + 1300) := by
  split
  · exact h.kX.mono (by omega)
  · exact h.mono (by omega)
theorem wf_P {N : MT} {B x : Int} (h : WF N B) : WF (if kP x = 0 then hoursM N x.toNat else N) (B + 1300) := by
  split
  · rename_i q
    have hx : 1 ≤ x ∧ x ≤ 50 := by
      unfold kP at q
      by_cases c : 1 ≤ x ∧ x ≤ 50
      · exact c
      · rw [if_neg c] at q; exact absurd q (by decide)
    exact (h.hours x.toNat).mono (by omega)
  · exact h.mono (by omega)
/-! the codes are small -/
theorem In_kR (M : MT) (r : Int) : In (kR M r) := by unfold kR; split <;> exact In_of (by decide) (by decide)
theorem In_kT (M : MT) (r : Int) : In (kT M r) := by unfold kT; split <;> exact In_of (by decide) (by decide)
theorem In_kC (M : MT) (a b : Int) : In (kC M a b) := by unfold kC; split <;> exact In_of (by decide) (by decide)
theorem In_kP (r : Int) : In (kP r) := by unfold kP; split <;> exact In_of (by decide) (by decide)
theorem In_kAC (M : MT) : In (kAC M) := by unfold kAC; split <;> exact In_of (by decide) (by decide)
theorem In_kAR (M : MT) (x y z u : Int) : In (kAR M x y z u) := by unfold kAR; (repeat' split) <;> exact In_of (by decide) (by decide)
theorem In_kAT (M : MT) (x y : Int) : In (kAT M x y) := by unfold kAT; (repeat' split) <;> exact In_of (by decide) (by decide)
theorem In_kM (M : MT) (x y : Int) : In (kM M x y) := by unfold kM; (repeat' split) <;> exact In_of (by decide) (by decide)
theorem In_kX (M : MT) (x : Int) : In (kX M x) := by unfold kX; (repeat' split) <;> exact In_of (by decide) (by decide)
