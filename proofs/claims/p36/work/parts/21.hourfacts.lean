/-! WHAT AN HOUR DOES, number by number -/
def kn1 (x : Int) : Int := if x < 3 then x + 1 else x
theorem mend1_6 (M : MT) (r j : Int) : mend1 M r 6 j = if j = r ∧ 0 < M 6 j then M 6 j - 1 else M 6 j := by
  by_cases h : 0 < M 6 r
  · by_cases h2 : M 6 r - 1 = 0
    · rw [mend1_open h h2, reop_eq, if_neg (by omega), if_neg (by omega), up_eq]
      by_cases e : j = r
      · subst e; rw [if_pos ⟨rfl, rfl⟩, if_pos ⟨rfl, h⟩]
      · rw [if_neg (fun z => e z.2), if_neg (fun z => e z.1)]
    · rw [mend1_dec h h2, up_eq]
      by_cases e : j = r
      · subst e; rw [if_pos ⟨rfl, rfl⟩, if_pos ⟨rfl, h⟩]
      · rw [if_neg (fun z => e z.2), if_neg (fun z => e z.1)]
  · rw [mend1_no (by omega), if_neg (fun z => h (by rw [← z.1]; exact z.2))]
theorem mend1_5 (M : MT) (r j : Int) : mend1 M r 5 j = if j = r ∧ M 6 j = 1 then kn1 (M 5 j) else M 5 j := by
  by_cases h : 0 < M 6 r
  · by_cases h2 : M 6 r - 1 = 0
    · rw [mend1_open h h2, reop_eq, if_neg (by omega)]
      by_cases e : j = r
      · subst e
        rw [if_pos ⟨rfl, rfl⟩, show (if j = j ∧ M 6 j = 1 then kn1 (M 5 j) else M 5 j) = kn1 (M 5 j) from if_pos ⟨rfl, by omega⟩]
        rfl
      · rw [if_neg (fun z => e z.2), if_neg (fun z => e z.1)]; rfl
    · rw [mend1_dec h h2, if_neg (fun z => by rw [← z.1] at h2; omega)]; rfl
  · rw [mend1_no (by omega), if_neg (fun z => by rw [← z.1] at h; omega)]
theorem mend1_4 (M : MT) (r j : Int) : mend1 M r 4 j = if j = r ∧ M 6 j = 1 then 0 else M 4 j := by
  by_cases h : 0 < M 6 r
  · by_cases h2 : M 6 r - 1 = 0
    · rw [mend1_open h h2, reop_eq]
      by_cases e : j = r
      · subst e; rw [if_pos ⟨rfl, rfl⟩, if_pos ⟨rfl, by omega⟩]
      · rw [if_neg (fun z => e z.2), if_neg (by omega), if_neg (fun z => e z.1)]; rfl
    · rw [mend1_dec h h2, if_neg (fun z => by rw [← z.1] at h2; omega)]; rfl
  · rw [mend1_no (by omega), if_neg (fun z => by rw [← z.1] at h; omega)]
theorem mendI_6 (M : MT) (j : Int) : ∀ n : Nat, mendI M n 6 j = if (0 ≤ j ∧ j < n) ∧ 0 < M 6 j then M 6 j - 1 else M 6 j
  | 0 => by rw [if_neg (by omega)]; rfl
  | n + 1 => by
    rw [mendI_s, mend1_6, mendI_6 M j n]
    by_cases e : j = (n : Int)
    · rw [if_neg (show ¬ ((0 ≤ j ∧ j < (n : Int)) ∧ 0 < M 6 j) by omega)]
      by_cases q : 0 < M 6 j
      · rw [if_pos ⟨e, q⟩, if_pos (by omega)]
      · rw [if_neg (fun z => q z.2), if_neg (fun z => q z.2)]
    · rw [if_neg (fun z => e z.1)]
      by_cases q : (0 ≤ j ∧ j < (n : Int)) ∧ 0 < M 6 j
      · rw [if_pos q, if_pos (by omega)]
      · rw [if_neg q, if_neg (by omega)]
theorem mendI_5 (M : MT) (j : Int) : ∀ n : Nat, mendI M n 5 j = if (0 ≤ j ∧ j < n) ∧ M 6 j = 1 then kn1 (M 5 j) else M 5 j
  | 0 => by rw [if_neg (by omega)]; rfl
  | n + 1 => by
    rw [mendI_s, mend1_5, mendI_5 M j n, mendI_6 M j n]
    by_cases e : j = (n : Int)
    · rw [if_neg (show ¬ ((0 ≤ j ∧ j < (n : Int)) ∧ 0 < M 6 j) by omega), if_neg (show ¬ ((0 ≤ j ∧ j < (n : Int)) ∧ M 6 j = 1) by omega)]
      by_cases q : M 6 j = 1
      · rw [if_pos ⟨e, q⟩, if_pos (by omega)]
      · rw [if_neg (fun z => q z.2), if_neg (fun z => q z.2)]
    · rw [if_neg (fun z => e z.1)]
      by_cases q : (0 ≤ j ∧ j < (n : Int)) ∧ M 6 j = 1
      · rw [if_pos q, if_pos (by omega)]
      · rw [if_neg q, if_neg (by omega)]
theorem mendI_4 (M : MT) (j : Int) : ∀ n : Nat, mendI M n 4 j = if (0 ≤ j ∧ j < n) ∧ M 6 j = 1 then 0 else M 4 j
  | 0 => by rw [if_neg (by omega)]; rfl
  | n + 1 => by
    rw [mendI_s, mend1_4, mendI_4 M j n, mendI_6 M j n]
    by_cases e : j = (n : Int)
    · rw [if_neg (show ¬ ((0 ≤ j ∧ j < (n : Int)) ∧ 0 < M 6 j) by omega), if_neg (show ¬ ((0 ≤ j ∧ j < (n : Int)) ∧ M 6 j = 1) by omega)]
      by_cases q : M 6 j = 1
      · rw [if_pos ⟨e, q⟩, if_pos (by omega)]
      · rw [if_neg (fun z => q z.2), if_neg (fun z => q z.2)]
    · rw [if_neg (fun z => e z.1)]
      by_cases q : (0 ≤ j ∧ j < (n : Int)) ∧ M 6 j = 1
      · rw [if_pos q, if_pos (by omega)]
      · rw [if_neg q, if_neg (by omega)]
theorem onR_congr {M N : MT} (h : N 8 = M 8) (r : Int) : ∀ n : Nat, onR N r n = onR M r n
  | 0 => rfl
  | n + 1 => by rw [onR_s, onR_s, onR_congr h r n, h]
theorem close1_6 (M : MT) (r j : Int) : close1 M r 6 j = if j = r ∧ (M 6 j = 0 ∧ 5 ≤ M 4 j ∧ onR M j (M 17 0).toNat = 0) then 4 else M 6 j := by
  by_cases h : M 6 r = 0 ∧ 5 ≤ M 4 r ∧ onR M r (M 17 0).toNat = 0
  · rw [close1_y h, up_eq]
    by_cases e : j = r
    · subst e; rw [if_pos ⟨rfl, rfl⟩, if_pos ⟨rfl, h⟩]
    · rw [if_neg (fun z => e z.2), if_neg (fun z => e z.1)]
  · rw [close1_no h, if_neg (fun z => h (by rw [← z.1]; exact z.2))]
theorem closeI_6 (M : MT) (j : Int) : ∀ n : Nat, closeI M n 6 j = if (0 ≤ j ∧ j < n) ∧ (M 6 j = 0 ∧ 5 ≤ M 4 j ∧ onR M j (M 17 0).toNat = 0) then 4 else M 6 j
  | 0 => by rw [if_neg (by omega)]; rfl
  | n + 1 => by
    rw [closeI_s, close1_6, closeI_6 M j n, closeI_fix M (k := 4) (by omega), closeI_fix M (k := 17) (by omega), onR_congr (closeI_fix M (k := 8) (by omega) n)]
    by_cases e : j = (n : Int)
    · rw [if_neg (show ¬ ((0 ≤ j ∧ j < (n : Int)) ∧ (M 6 j = 0 ∧ 5 ≤ M 4 j ∧ onR M j (M 17 0).toNat = 0)) by omega)]
      by_cases q : M 6 j = 0 ∧ 5 ≤ M 4 j ∧ onR M j (M 17 0).toNat = 0
      · rw [if_pos ⟨e, q⟩, if_pos (by omega)]
      · rw [if_neg (fun z => q z.2), if_neg (fun z => q z.2)]
    · rw [if_neg (fun z => e z.1)]
      by_cases q : (0 ≤ j ∧ j < (n : Int)) ∧ (M 6 j = 0 ∧ 5 ≤ M 4 j ∧ onR M j (M 17 0).toNat = 0)
      · rw [if_pos q, if_pos (by omega)]
      · rw [if_neg q, if_neg (by omega)]
/-! the tourists' hour -/
theorem outT_oth (M : MT) (t : Int) {k : Nat} {j : Int} (hk : k ≠ 4) (hj : j ≠ t) : outT M t k j = M k j := by
  unfold outT
  split
  · rfl
  · split
    · rfl
    · rw [goR_eq, if_neg (fun z => hk z.1), if_neg (fun z => hj z.2), if_neg (fun z => hj z.2), if_neg (fun z => hj z.2), if_neg (fun z => hj z.2), if_neg (fun z => hj z.2)]
theorem tour1_oth (M : MT) (t : Int) {k : Nat} {j : Int} (hk : k ≠ 4) (hk2 : k ≠ 18) (hj : j ≠ t) : tour1 M t k j = M k j := by
  unfold tour1
  split
  · rfl
  · rw [walkT_oth _ _ _ hj hk2, outT_oth M t hk hj]
theorem tourI_lo (M : MT) {t : Int} {k : Nat} (hk : k ≠ 4) (hk2 : k ≠ 18) : ∀ n : Nat, (n : Int) ≤ t → tourI M n k t = M k t
  | 0, _ => rfl
  | n + 1, h => by rw [tourI_s, tour1_oth _ _ hk hk2 (by omega), tourI_lo M hk hk2 n (by omega)]
theorem tourI_hi (M : MT) {t : Int} {k : Nat} (hk : k ≠ 4) (hk2 : k ≠ 18) (h0 : 0 ≤ t) : ∀ n : Nat, t < n → tourI M n k t = tour1 (tourI M t.toNat) t k t
  | 0, h => absurd h (by omega)
  | n + 1, h => by
    by_cases e : t = (n : Int)
    · rw [tourI_s, show t.toNat = n by omega, ← e]
    · rw [tourI_s, tour1_oth _ _ hk hk2 e, tourI_hi M hk hk2 h0 n (by omega)]
theorem tour1_4 {M : MT} {B : Int} (h : WF M B) (t r : Int) : M 4 r ≤ tour1 M t 4 r ∧ (0 < M 6 r → tour1 M t 4 r = M 4 r) := by
  unfold tour1
  split
  · exact ⟨Int.le_refl _, fun _ => rfl⟩
  · rw [walkT_fix (k := 4) _ _ _ (by omega)]
    unfold outT
    split
    · exact ⟨Int.le_refl _, fun _ => rfl⟩
    · split
      · exact ⟨Int.le_refl _, fun _ => rfl⟩
      · rename_i q
        have ht := toward_ok h.r (M 7 t) (M 11 t)
        rw [goR_eq]
        by_cases e : r = toward M (M 7 t) (M 11 t)
        · rw [if_pos ⟨rfl, e⟩, ← e]
          rw [← e] at ht q
          exact ⟨by omega, fun z => by omega⟩
        · rw [if_neg (fun z => e z.2), if_neg (by omega), if_neg (by omega), if_neg (by omega), if_neg (by omega), if_neg (by omega)]
          exact ⟨Int.le_refl _, fun _ => rfl⟩
theorem tourI_4 {M : MT} {B : Int} (h : WF M B) (r : Int) : ∀ n : Nat, (n : Int) ≤ M 17 0 → M 4 r ≤ tourI M n 4 r ∧ (0 < M 6 r → tourI M n 4 r = M 4 r)
  | 0, _ => ⟨Int.le_refl _, fun _ => rfl⟩
  | n + 1, hn => by
    have ih := tourI_4 h r n (by omega)
    have h1 := tour1_4 (h.k_tourI n (by omega)) (n : Int) r
    rw [tourI_fix M (k := 6) (by omega)] at h1
    rw [tourI_s]
    exact ⟨by omega, fun z => by rw [h1.2 z, ih.2 z]⟩
theorem walkT_at (M : MT) (t h : Int) : (walkT M t h 15 t = M 15 t ∨ (walkT M t h 15 t = h + 1 - M 13 t ∧ walkT M t h 7 t = M 11 t)) ∧ (walkT M t h 8 t = M 8 t ∨ walkT M t h 8 t = -1) := by
  unfold walkT
  split
  · exact ⟨Or.inl rfl, Or.inl rfl⟩
  · split
    · exact ⟨Or.inl rfl, Or.inl rfl⟩
    · split
      · rename_i e
        refine ⟨Or.inr ⟨?_, ?_⟩, Or.inr ?_⟩
        · rw [upc_eq, if_neg (by decide), up_eq, if_pos ⟨rfl, rfl⟩]
        · rw [upc_eq, if_neg (by decide), up_eq, if_neg (by omega), up_eq, if_neg (by omega), up_eq, if_pos ⟨rfl, rfl⟩, e]
        · rw [upc_eq, if_neg (by decide), up_eq, if_neg (by omega), up_eq, if_pos ⟨rfl, rfl⟩]
      · exact ⟨Or.inl rfl, Or.inr (up_same _ _ _ _)⟩
/-- one tourist's hour -/
theorem hour_t {N : MT} {B : Int} (hF : WF N B) {t : Int} (ht : 0 ≤ t ∧ t < N 17 0) : ∃ P : MT, (∀ k : Nat, 7 ≤ k → k ≤ 15 → P k t = N k t) ∧ P 20 0 = N 20 0 ∧ (∀ k : Nat, 7 ≤ k → k ≤ 15 → hourM N k t = tour1 P t k t) := by
  refine ⟨tourI (mendI N (N 16 0).toNat) t.toNat, fun k h1 h2 => ?_, ?_, fun k h1 h2 => ?_⟩
  · rw [tourI_lo _ (by omega) (by omega) _ (by omega), mendI_eq N (by omega)]
  · rw [tourI_fix _ (by omega), mendI_eq N (by omega)]
  · unfold hourM
    rw [upc_n _ (by omega), closeI_fix _ (by omega), tourI_hi _ (by omega) (by omega) ht.1 _ (by omega)]
theorem hour_in {N : MT} {B : Int} (hF : WF N B) {t : Int} (ht : 0 ≤ t ∧ t < N 17 0) (h : 0 ≤ N 15 t) {k : Nat} (h1 : 7 ≤ k) (h2 : k ≤ 15) : hourM N k t = N k t := by
  obtain ⟨P, p1, p2, p3⟩ := hour_t hF ht
  rw [p3 k h1 h2, tour1_in (by rw [p1 15 (by decide) (by decide)]; exact h), p1 k h1 h2]
theorem hour_15 {N : MT} {B : Int} (hF : WF N B) {t : Int} (ht : 0 ≤ t ∧ t < N 17 0) (h : N 15 t < 0) : hourM N 15 t < 0 ∨ (hourM N 15 t = N 20 0 + 1 - N 13 t ∧ hourM N 7 t = N 11 t) := by
  obtain ⟨P, p1, p2, p3⟩ := hour_t hF ht
  have hw := (walkT_at (outT P t) t (P 20 0)).1
  have e15 := p1 15 (by decide) (by decide)
  rw [outT_15, outT_fix (k := 13) P t (by omega), outT_fix (k := 11) P t (by omega), p2, e15, p1 13 (by decide) (by decide), p1 11 (by decide) (by decide)] at hw
  rw [p3 15 (by decide) (by decide), p3 7 (by decide) (by decide), tour1_go (by rw [e15]; omega), p2]
  rcases hw with w | w
  · exact Or.inl (by rw [w]; exact h)
  · exact Or.inr w
theorem hour_8 {N : MT} {B : Int} (hF : WF N B) {t : Int} (ht : 0 ≤ t ∧ t < N 17 0) (h : 0 ≤ N 8 t) : hourM N 8 t = N 8 t ∨ hourM N 8 t = -1 := by
  obtain ⟨P, p1, p2, p3⟩ := hour_t hF ht
  have hTI := hF.2.2.2.2.2.2.2.2.2.1 t ht.1 ht.2
  unfold TI at hTI
  rw [p3 8 (by decide) (by decide)]
  by_cases q : 0 ≤ N 15 t
  · omega
  · have e7 : N 7 t = -1 := by omega
    have hw := (walkT_at (outT P t) t (P 20 0)).2
    have eo : outT P t = P := if_pos (by rw [p1 7 (by decide) (by decide)]; omega)
    rw [tour1_go (by rw [p1 15 (by decide) (by decide)]; exact q), ← p1 8 (by decide) (by decide)]
    rw [eo] at hw ⊢
    exact hw
theorem hour_fix' {N : MT} {k : Nat} (h : k = 13 ∨ k = 14 ∨ k = 11 ∨ k = 16 ∨ k = 17 ∨ k = 19 ∨ k < 4) : hourM N k = N k := hourM_fix N (by omega)
theorem fray_in {N : MT} {B : Int} (hF : WF N B) {t h h' : Int} (ht : 0 ≤ t ∧ t < N 17 0) (q : 0 ≤ N 15 t) : frayAt (hourM N) t h' = frayAt N t h := by
  unfold frayAt
  rw [hour_in hF ht q (k := 15) (by decide) (by decide), hour_in hF ht q (k := 13) (by decide) (by decide), hour_in hF ht q (k := 14) (by decide) (by decide), if_pos q, if_pos q]
theorem fray_hour {N : MT} {B : Int} (hF : WF N B) {t : Int} (ht : 0 ≤ t ∧ t < N 17 0) : frayAt N t (N 20 0) ≤ frayAt (hourM N) t (N 20 0 + 1) ∧ frayAt (hourM N) t (N 20 0 + 1) ≤ frayAt N t (N 20 0) + 1 := by
  by_cases q : 0 ≤ N 15 t
  · rw [fray_in hF (h := N 20 0) ht q]; omega
  · have h15 := hour_15 hF ht (by omega)
    unfold frayAt mx0
    rw [hour_fix' (k := 13) (by omega), hour_fix' (k := 14) (by omega), if_neg q]
    rcases h15 with w | w
    · rw [if_neg (show ¬ 0 ≤ hourM N 15 t by omega)]
      split <;> split <;> omega
    · have hTI := hF.2.2.2.2.2.2.2.2.2.1 t ht.1 ht.2
      unfold TI at hTI
      rw [if_pos (show 0 ≤ hourM N 15 t by omega), w.1]
      split <;> split <;> omega
/-- who has come -/
def nwc (N M : MT) : Nat → Int
  | 0 => 0
  | t + 1 => nwc N M t + (if N 15 t < 0 ∧ 0 ≤ M 15 t then 1 else 0)
theorem nwc_s (N M : MT) (t : Nat) : nwc N M (t + 1) = nwc N M t + (if N 15 t < 0 ∧ 0 ≤ M 15 t then 1 else 0) := rfl
theorem nwc_rng (N M : MT) : ∀ n : Nat, 0 ≤ nwc N M n ∧ nwc N M n ≤ n
  | 0 => ⟨Int.le_refl _, Int.le_refl _⟩
  | n + 1 => by
    have := nwc_rng N M n
    rw [nwc_s]
    split <;> omega
theorem nwc_cnt {N M : MT} : ∀ n : Nat, (∀ t : Nat, t < n → 0 ≤ N 15 t → 0 ≤ M 15 t) → cntIn M n = cntIn N n + nwc N M n
  | 0, _ => rfl
  | n + 1, h => by
    have ih := nwc_cnt n (fun t ht => h t (by omega))
    have := h n (by omega)
    rw [cntIn_s, cntIn_s, nwc_s, ih]
    by_cases q : 0 ≤ N 15 n
    · rw [if_pos q, if_pos (this q), if_neg (by omega)]; omega
    · rw [if_neg q]
      by_cases q2 : 0 ≤ M 15 n
      · rw [if_pos q2, if_pos ⟨by omega, q2⟩]; omega
      · rw [if_neg q2, if_neg (by omega)]; omega
theorem came_ok {N : MT} {B : Int} (hF : WF N B) : hourM N 18 0 - N 18 0 = nwc N (hourM N) (N 17 0).toNat := by
  have h1 := hF.hour.2.2.2.2.2.2.2.2.1
  have h2 := hF.2.2.2.2.2.2.2.2.1
  rw [hour_fix' (k := 17) (by omega)] at h1
  rw [h1, h2, nwc_cnt (N := N) (M := hourM N) (N 17 0).toNat (fun t ht q => by rw [hour_in hF (by have := hF.2.2.2.2.2.1; omega) q (by decide) (by decide)]; exact q)]
  omega
/-! the roads' hour -/
theorem hour_5 {N : MT} {r : Int} (hr : 0 ≤ r ∧ r < N 16 0) : hourM N 5 r = if N 6 r = 1 then kn1 (N 5 r) else N 5 r := by
  unfold hourM
  rw [upc_n _ (by omega), closeI_fix _ (by omega), tourI_fix _ (by omega), mendI_5]
  by_cases q : N 6 r = 1
  · rw [if_pos ⟨by omega, q⟩, if_pos q]
  · rw [if_neg (fun z => q z.2), if_neg q]
theorem hour_4 {N : MT} {B : Int} (hF : WF N B) {r : Int} (hr : 0 ≤ r ∧ r < N 16 0) : (if N 6 r = 1 then 0 else N 4 r) ≤ hourM N 4 r ∧ (2 ≤ N 6 r → hourM N 4 r = N 4 r) := by
  have h17 := hF.2.2.2.2.2.1
  have a17 : mendI N (N 16 0).toNat 17 0 = N 17 0 := by rw [mendI_eq N (by omega)]
  have h := tourI_4 (hF.k_mendI (N 16 0).toNat) r (N 17 0).toNat (by omega)
  have e : hourM N 4 r = tourI (mendI N (N 16 0).toNat) (N 17 0).toNat 4 r := by
    unfold hourM
    rw [upc_n _ (by omega), closeI_fix _ (by omega)]
  rw [mendI_4, mendI_6] at h
  rw [e]
  by_cases q : N 6 r = 1
  · rw [if_pos ⟨by omega, q⟩] at h
    rw [if_pos q]
    exact ⟨h.1, fun z => by omega⟩
  · rw [if_neg (fun z => q z.2)] at h
    rw [if_neg q]
    refine ⟨h.1, fun z => h.2 ?_⟩
    rw [if_pos (by omega)]
    omega
theorem hour_6 {N : MT} {B : Int} (hF : WF N B) {r : Int} (hr : 0 ≤ r ∧ r < N 16 0) : hourM N 6 r = if N 6 r < 2 ∧ 5 ≤ hourM N 4 r ∧ onR (hourM N) r (N 17 0).toNat = 0 then 4 else if N 6 r < 2 then 0 else N 6 r - 1 := by
  have h6 := hF.2.2.2.1 r
  have a6 : tourI (mendI N (N 16 0).toNat) (N 17 0).toNat 6 r = if 0 < N 6 r then N 6 r - 1 else N 6 r := by
    rw [tourI_fix _ (by omega), mendI_6]
    by_cases q : 0 < N 6 r
    · rw [if_pos ⟨by omega, q⟩, if_pos q]
    · rw [if_neg (fun z => q z.2), if_neg q]
  have a17 : tourI (mendI N (N 16 0).toNat) (N 17 0).toNat 17 0 = N 17 0 := by rw [tourI_fix _ (by omega), mendI_eq N (by omega)]
  have e4 : hourM N 4 = tourI (mendI N (N 16 0).toNat) (N 17 0).toNat 4 := by
    unfold hourM
    rw [upc_n _ (by omega), closeI_fix _ (by omega)]
  have e8 : hourM N 8 = tourI (mendI N (N 16 0).toNat) (N 17 0).toNat 8 := by
    unfold hourM
    rw [upc_n _ (by omega), closeI_fix _ (by omega)]
  rw [onR_congr e8, e4]
  conv => lhs; unfold hourM
  rw [upc_n _ (by omega), closeI_6, a6, a17]
  generalize tourI (mendI N (N 16 0).toNat) (N 17 0).toNat = T9
  by_cases q : N 6 r < 2
  · have e0 : (if 0 < N 6 r then N 6 r - 1 else N 6 r) = 0 := by split <;> omega
    rw [e0, if_pos (show N 6 r < 2 from q)]
    by_cases w : 5 ≤ T9 4 r ∧ onR T9 r (N 17 0).toNat = 0
    · rw [if_pos ⟨by omega, rfl, w⟩, if_pos ⟨q, w⟩]
    · rw [if_neg (fun z => w z.2.2), if_neg (fun z => w z.2)]
  · rw [if_pos (show 0 < N 6 r by omega), if_neg (fun z => by omega), if_neg (fun z => q z.1), if_neg q]
/-! the most worn road, and how many are closed -/
theorem mostW_val {N : MT} (h4 : ∀ r : Int, 0 ≤ N 4 r) : ∀ n : Nat, ((mostW N n).1 < 0 → (mostW N n).2 = -1) ∧ (0 ≤ (mostW N n).1 → (mostW N n).1 < n ∧ N 6 (mostW N n).1 = 0 ∧ (mostW N n).2 = N 4 (mostW N n).1) ∧ (∀ r : Int, 0 ≤ r → r < n → N 6 r = 0 → N 4 r ≤ (mostW N n).2)
  | 0 => ⟨fun _ => rfl, fun z => absurd z (by show ¬ (0 : Int) ≤ -1; decide), fun r r0 r1 => absurd r1 (by omega)⟩
  | n + 1 => by
    have ih := mostW_val h4 n
    by_cases q : N 6 n = 0 ∧ (mostW N n).2 < N 4 n
    · rw [mostW_y q.1 q.2]
      refine ⟨fun z => absurd z (by show ¬ (n : Int) < 0; omega), fun _ => ⟨by show (n : Int) < (n + 1 : Nat); omega, q.1, rfl⟩, fun r r0 r1 h6 => ?_⟩
      show N 4 r ≤ N 4 n
      by_cases e : r = (n : Int)
      · rw [e]; exact Int.le_refl _
      · have := ih.2.2 r r0 (by omega) h6
        omega
    · rw [mostW_n (by omega)]
      refine ⟨ih.1, fun z => ?_, fun r r0 r1 h6 => ?_⟩
      · have := ih.2.1 z
        exact ⟨by omega, this.2⟩
      · by_cases e : r = (n : Int)
        · rw [e] at h6 ⊢
          omega
        · exact ih.2.2 r r0 (by omega) h6
theorem mostW_none {N : MT} (h4 : ∀ r : Int, 0 ≤ N 4 r) (h6 : ∀ r : Int, 0 ≤ N 6 r) : ∀ n : Nat, (mostW N n).1 < 0 ↔ cntC N n = n
  | 0 => ⟨fun _ => rfl, fun _ => by show (-1 : Int) < 0; decide⟩
  | n + 1 => by
    have ih := mostW_none h4 h6 n
    have hc := cntC_rng N n
    have hv := mostW_val h4 n
    have g4 := h4 (n : Int)
    have g6 := h6 (n : Int)
    rw [cntC_s]
    by_cases q : 0 < N 6 n
    · rw [if_pos q, mostW_n (by omega), ih]
      omega
    · rw [if_neg q]
      constructor
      · intro z
        by_cases w : (mostW N n).2 < N 4 n
        · rw [mostW_y (by omega) w] at z
          exact absurd z (by show ¬ (n : Int) < 0; omega)
        · rw [mostW_n (by omega)] at z
          have := hv.1 z
          omega
      · intro z
        omega
theorem cntIn_full {N : MT} {B : Int} (hF : WF N B) : N 18 0 = cntIn N (N 17 0).toNat := hF.2.2.2.2.2.2.2.2.1
