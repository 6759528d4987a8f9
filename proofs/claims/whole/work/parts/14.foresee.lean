/-! LOOKING AHEAD: who has arrived stays so; when one arrives; the hours that the trial leaves out change nothing that is read from it -/
theorem hoursM_fix (M : MT) {k : Nat} (q : k < 4 ∨ k = 11 ∨ k = 13 ∨ k = 14 ∨ k = 16 ∨ k = 17 ∨ k = 19) : ∀ n : Nat, hoursM M n k = M k
  | 0 => rfl
  | n + 1 => by rw [hoursM_s, hourM_fix _ q, hoursM_fix M q n]
theorem hoursM_20 (M : MT) : ∀ n : Nat, hoursM M n 20 0 = M 20 0 + n
  | 0 => by show M 20 0 = M 20 0 + ((0 : Nat) : Int); omega
  | n + 1 => by rw [hoursM_s, hourM_20, hoursM_20 M n]; omega
theorem tour1_15 (M : MT) (t' : Int) {t : Int} (h : 0 ≤ M 15 t ∨ t ≠ t') : tour1 M t' 15 t = M 15 t := by
  by_cases q : 0 ≤ M 15 t'
  · rw [tour1_in q]
  · have ne : t ≠ t' := h.elim (fun h z => q (by rw [← z]; exact h)) id
    rw [tour1_go q, walkT_oth _ _ _ ne (by omega), outT_15]
theorem tourI_in (M : MT) {t : Int} (h : 0 ≤ M 15 t) : ∀ n : Nat, tourI M n 15 t = M 15 t
  | 0 => rfl
  | n + 1 => by
    have ih := tourI_in M h n
    rw [tourI_s, tour1_15 _ _ (Or.inl (by rw [ih]; exact h)), ih]
theorem hourM_15 (M : MT) (t : Int) : hourM M 15 t = tourI (mendI M (M 16 0).toNat) (M 17 0).toNat 15 t := by
  unfold hourM
  rw [upc_eq, if_neg (by omega), closeI_fix _ (by omega)]
theorem hour_in {M : MT} {t : Int} (h : 0 ≤ M 15 t) : hourM M 15 t = M 15 t := by
  have e : mendI M (M 16 0).toNat 15 = M 15 := mendI_eq M (by omega) _
  rw [hourM_15, tourI_in _ (by rw [e]; exact h), e]
theorem hours_in {M : MT} {t : Int} {a : Nat} (h : 0 ≤ hoursM M a 15 t) : ∀ b : Nat, hoursM M (a + b) 15 t = hoursM M a 15 t
  | 0 => rfl
  | b + 1 => by
    have ih := hours_in h b
    rw [show a + (b + 1) = (a + b) + 1 by omega, hoursM_s, hour_in (by rw [ih]; exact h), ih]
theorem walkT_15 (M : MT) (t h : Int) : walkT M t h 15 t = M 15 t ∨ walkT M t h 15 t = h + 1 - M 13 t := by
  unfold walkT
  split
  · exact Or.inl rfl
  · split
    · exact Or.inl rfl
    · split
      · right
        rw [upc_eq, if_neg (by omega), up_eq, if_pos ⟨rfl, rfl⟩]
      · exact Or.inl rfl
theorem tourI_arr {M : MT} {t : Int} (h13 : M 13 t ≤ M 20 0) : ∀ n : Nat, tourI M n 15 t = M 15 t ∨ tourI M n 15 t = M 20 0 + 1 - M 13 t
  | 0 => Or.inl rfl
  | n + 1 => by
    have ih := tourI_arr h13 n
    rw [tourI_s]
    by_cases q : 0 ≤ tourI M n 15 t ∨ t ≠ (n : Int)
    · rw [tour1_15 _ _ q]; exact ih
    · have e : t = (n : Int) := by omega
      have w := walkT_15 (outT (tourI M n) t) t (tourI M n 20 0)
      rw [outT_15, outT_fix _ _ (k := 13) (by omega), tourI_fix M (k := 13) (by omega), tourI_fix M (k := 20) (by omega)] at w
      rw [← e, tour1_go (by omega), tourI_fix M (k := 20) (by omega)]
      rcases w with w | w
      · rw [w]; exact ih
      · exact Or.inr w
theorem hour_arr {M : MT} {t : Int} (h13 : M 13 t ≤ M 20 0) : hourM M 15 t = M 15 t ∨ hourM M 15 t = M 20 0 + 1 - M 13 t := by
  have e15 : mendI M (M 16 0).toNat 15 = M 15 := mendI_eq M (by omega) _
  have e13 : mendI M (M 16 0).toNat 13 = M 13 := mendI_eq M (by omega) _
  have e20 : mendI M (M 16 0).toNat 20 = M 20 := mendI_eq M (by omega) _
  have := tourI_arr (M := mendI M (M 16 0).toNat) (t := t) (by rw [e13, e20]; exact h13) (M 17 0).toNat
  rw [hourM_15]
  rw [e15, e13, e20] at this
  exact this
/-- the first hour at which one has arrived, and the number that says so -/
theorem hours_first {M : MT} {t : Int} (h13 : M 13 t ≤ M 20 0) {j : Nat} (h0 : ∀ i : Nat, i < j → hoursM M i 15 t < 0) (hj : 0 ≤ hoursM M j 15 t) (hpos : 0 < j) : hoursM M j 15 t = M 20 0 + j - M 13 t := by
  obtain ⟨i, rfl⟩ : ∃ i, j = i + 1 := ⟨j - 1, by omega⟩
  have a := h0 i (by omega)
  rw [hoursM_s] at hj ⊢
  have := hour_arr (M := hoursM M i) (t := t) (by rw [hoursM_fix M (by omega), hoursM_20]; omega)
  rw [hoursM_fix M (k := 13) (by omega), hoursM_20] at this
  omega
noncomputable def untilM (N : MT) (t : Int) : Int := if 0 ≤ N 15 t then 0 else if hoursM N 100 15 t < 0 then -1 else N 13 t + hoursM N 100 15 t - N 20 0
theorem until_yes {M : MT} {t : Int} (h13 : M 13 t ≤ M 20 0) {j : Nat} (h0 : ∀ i : Nat, i < j → hoursM M i 15 t < 0) (hj : 0 ≤ hoursM M j 15 t) (hle : j ≤ 100) : untilM M t = j := by
  unfold untilM
  by_cases z : j = 0
  · subst z
    have hj0 : 0 ≤ M 15 t := hj
    rw [if_pos hj0]; rfl
  · have a0 : M 15 t < 0 := h0 0 (by omega)
    have e := hours_in hj (100 - j)
    rw [show j + (100 - j) = 100 by omega] at e
    have f := hours_first h13 h0 hj (by omega)
    rw [if_neg (by omega), e, if_neg (by omega), f]
    omega
theorem until_no {M : MT} {t : Int} (h0 : ∀ i : Nat, i < 101 → hoursM M i 15 t < 0) : untilM M t = -1 := by
  have a0 : M 15 t < 0 := h0 0 (by omega)
  unfold untilM
  rw [if_neg (by omega), if_pos (h0 100 (by omega))]
theorem cntIn_all {M : MT} : ∀ n : Nat, (n : Int) ≤ cntIn M n → ∀ j : Nat, j < n → 0 ≤ M 15 j
  | 0, _, j, hj => absurd hj (Nat.not_lt_zero j)
  | n + 1, h, j, hj => by
    have r := cntIn_rng M n
    rw [cntIn_s] at h
    by_cases q : 0 ≤ M 15 n
    · rw [if_pos q] at h
      by_cases e : j = n
      · rw [e]; exact q
      · exact cntIn_all n (by omega) j (by omega)
    · rw [if_neg q] at h; omega
/-- where the trial begins: a road mended, or none (m below 0) -/
def startF (N : MT) (m : Int) : MT := if m < 0 then N else up N 6 m 4
/-- what is read from the trial U, h hours on -/
def FS (N : MT) (m : Int) (h : Nat) (U : MT) : Prop := Bd U ∧ U 17 0 = N 17 0 ∧ ∀ t : Int, 0 ≤ t → t < N 17 0 → U 13 t = N 13 t ∧ U 14 t = N 14 t ∧ U 15 t = hoursM (startF N m) h 15 t
theorem startF_fix (N : MT) (m : Int) {k : Nat} (q : k ≠ 6) : startF N m k = N k := by
  unfold startF
  split
  · rfl
  · exact up_n N q m 4
theorem WF.start {N : MT} {B : Int} (h : WF N B) (m : Int) : WF (startF N m) B := by
  unfold startF
  split
  · exact h
  · exact h.shut (by omega)
theorem FS.of {N : MT} {B m : Int} (hF : WF N B) {h k : Nat} (hB : B + 26 * k ≤ 2000000) (hk : k ≤ h) (he : k = h ∨ hoursM (startF N m) k 17 0 ≤ hoursM (startF N m) k 18 0) : FS N m h (hoursM (startF N m) k) := by
  have w := (hF.start m).hours k
  refine ⟨w.bd hB, by rw [hoursM_fix _ (by omega), startF_fix _ _ (by omega)], fun t t0 t1 => ⟨by rw [hoursM_fix _ (by omega), startF_fix _ _ (by omega)], by rw [hoursM_fix _ (by omega), startF_fix _ _ (by omega)], ?_⟩⟩
  rcases he with e | e
  · rw [e]
  · have e17 : hoursM (startF N m) k 17 0 = N 17 0 := by rw [hoursM_fix _ (by omega), startF_fix _ _ (by omega)]
    have c := w.2.2.2.2.2.2.2.2.1
    have a := cntIn_all (M := hoursM (startF N m) k) (hoursM (startF N m) k 17 0).toNat (by rw [← c]; omega) t.toNat (by omega)
    rw [show ((t.toNat : Nat) : Int) = t by omega] at a
    have := hours_in a (h - k)
    rw [show k + (h - k) = h by omega] at this
    exact this.symm
theorem frayAt_congr {M N : MT} {t h : Int} (h13 : M 13 t = N 13 t) (h14 : M 14 t = N 14 t) (h15 : M 15 t = N 15 t) : frayAt M t h = frayAt N t h := by
  unfold frayAt
  rw [h13, h14, h15]
theorem frA_congr {M N : MT} {h : Int} : ∀ n : Nat, (∀ t : Int, 0 ≤ t → t < n → M 13 t = N 13 t ∧ M 14 t = N 14 t ∧ M 15 t = N 15 t) → frA M h n = frA N h n
  | 0, _ => rfl
  | n + 1, q => by
    have e := q n (by omega) (by omega)
    rw [frA_s, frA_s, frA_congr n (fun t t0 t1 => q t t0 (by omega)), frayAt_congr e.1 e.2.1 e.2.2]
theorem frI_congr {M N : MT} : ∀ n : Nat, (∀ t : Int, 0 ≤ t → t < n → M 14 t = N 14 t ∧ M 15 t = N 15 t) → frI M n = frI N n
  | 0, _ => rfl
  | n + 1, q => by
    have e := q n (by omega) (by omega)
    rw [frI_s, frI_s, frI_congr n (fun t t0 t1 => q t t0 (by omega)), e.1, e.2]
/-- by how much all are frayed at the hour x behind h hours -/
noncomputable def foreA (N : MT) (m : Int) (h : Nat) (x : Int) : Int := frA (hoursM (startF N m) h) x (N 17 0).toNat
noncomputable def foreI (N : MT) (h : Nat) : Int := frI (hoursM N h) (N 17 0).toNat
theorem FS.fA {N U : MT} {m : Int} {h : Nat} (f : FS N m h U) (hn : 0 ≤ N 17 0) (x : Int) : frA U x (U 17 0).toNat = foreA N m h x := by
  unfold foreA
  rw [f.2.1]
  refine frA_congr _ (fun t t0 t1 => ?_)
  have e := f.2.2 t t0 (by omega)
  exact ⟨by rw [e.1, hoursM_fix _ (by omega), startF_fix _ _ (by omega)], by rw [e.2.1, hoursM_fix _ (by omega), startF_fix _ _ (by omega)], e.2.2⟩
theorem FS.fI {N U : MT} {h : Nat} (f : FS N (-1) h U) (hn : 0 ≤ N 17 0) : frI U (U 17 0).toNat = foreI N h := by
  unfold foreI
  rw [f.2.1]
  refine frI_congr _ (fun t t0 t1 => ?_)
  have e := f.2.2 t t0 (by omega)
  exact ⟨by rw [e.2.1, hoursM_fix _ (by omega)], e.2.2⟩
/-- the road that had best be mended, and the fraying with it -/
noncomputable def bestI (N : MT) : Nat → Int × Int
  | 0 => (-1, foreA N (-1) 24 (N 20 0 + 24))
  | r + 1 => if N 6 r = 0 ∧ foreA N r 24 (N 20 0 + 24) < (bestI N r).2 then ((r : Int), foreA N r 24 (N 20 0 + 24)) else bestI N r
theorem bestI_y {N : MT} {r : Nat} (h : N 6 r = 0) (h2 : foreA N r 24 (N 20 0 + 24) < (bestI N r).2) : bestI N (r + 1) = ((r : Int), foreA N r 24 (N 20 0 + 24)) := if_pos ⟨h, h2⟩
theorem bestI_n {N : MT} {r : Nat} (h : ¬ (N 6 r = 0 ∧ foreA N r 24 (N 20 0 + 24) < (bestI N r).2)) : bestI N (r + 1) = bestI N r := if_neg h
noncomputable def bestM (N : MT) : Int := (bestI N (N 16 0).toNat).1
theorem mx0_rng (z : Int) : 0 ≤ mx0 z ∧ (mx0 z = z ∨ mx0 z = 0) := by
  unfold mx0
  split <;> omega
theorem frayAt_rng {M : MT} {t h : Int} (hB : Bd M) (hh : 0 ≤ h ∧ h ≤ 2000000) : 0 ≤ frayAt M t h ∧ frayAt M t h ≤ 6000000 := by
  have a := hB 13 t
  have b := hB 14 t
  have c := hB 15 t
  unfold frayAt
  have m := mx0_rng ((if 0 ≤ M 15 t then M 15 t else h - M 13 t) - M 14 t)
  split at m <;> split <;> omega
theorem frA_rng {M : MT} {h : Int} (hB : Bd M) (hh : 0 ≤ h ∧ h ≤ 2000000) : ∀ n : Nat, 0 ≤ frA M h n ∧ frA M h n ≤ 6000000 * (n : Int)
  | 0 => ⟨Int.le_refl _, Int.le_refl _⟩
  | n + 1 => by
    have := frA_rng hB hh n
    have := frayAt_rng (t := (n : Int)) hB hh
    rw [frA_s]
    omega
theorem frI_rng {M : MT} (hB : Bd M) : ∀ n : Nat, 0 ≤ frI M n ∧ frI M n ≤ 6000000 * (n : Int)
  | 0 => ⟨Int.le_refl _, Int.le_refl _⟩
  | n + 1 => by
    have := frI_rng hB n
    have m := mx0_rng (M 15 n - M 14 n)
    have b := hB 14 n
    have c := hB 15 n
    rw [frI_s]
    split <;> omega
theorem foreA_rng {N : MT} {B m : Int} (hF : WF N B) (hB : B ≤ 800000) {h : Nat} (hh : h ≤ 100) {x : Int} (hx : 0 ≤ x ∧ x ≤ 2000000) : 0 ≤ foreA N m h x ∧ foreA N m h x ≤ 100000000 := by
  have h1 := hF.2.2.2.2.2.1
  have h2 := hF.2.2.2.2.2.2.1
  have := frA_rng (((hF.start m).hours h).bd (by omega)) hx (N 17 0).toNat
  unfold foreA
  omega
theorem bestI_rng {N : MT} {B : Int} (hF : WF N B) (hB : B ≤ 800000) : ∀ r : Nat, 0 ≤ (bestI N r).2 ∧ (bestI N r).2 ≤ 100000000
  | 0 => foreA_rng hF hB (by omega) (by have := hF.2.2.2.2.2.2.2.1; have := hF.1 20 0; omega)
  | r + 1 => by
    by_cases q : N 6 r = 0 ∧ foreA N r 24 (N 20 0 + 24) < (bestI N r).2
    · rw [bestI_y q.1 q.2]
      exact foreA_rng hF hB (by omega) (by have := hF.2.2.2.2.2.2.2.1; have := hF.1 20 0; omega)
    · rw [bestI_n q]; exact bestI_rng hF hB r
