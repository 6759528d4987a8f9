/-! WAYS: the table of sums is made: cleared, the roads laid in, each crossing gone over -/
def nx (s : Int → Int) (k a b : Int) : Int := mn (s (a * 10 + b)) (s (a * 10 + k) + s (k * 10 + b))
def dn (i j a b : Int) : Prop := (b < a ∧ (a < i ∨ (a = i ∧ b < j))) ∨ (a < b ∧ (b < i ∨ (b = i ∧ a < j)))
def SymT (n : Int) (s : Int → Int) : Prop := (∀ a b : Int, 0 ≤ a → a < n → 0 ≤ b → b < n → 0 ≤ s (a * 10 + b) ∧ s (a * 10 + b) ≤ 1000000 ∧ s (a * 10 + b) = s (b * 10 + a)) ∧ ∀ a : Int, 0 ≤ a → a < n → s (a * 10 + a) = 0
def GI (n k : Int) (s s1 : Int → Int) (i j : Int) : Prop := ∀ a b : Int, 0 ≤ a → a < n → 0 ≤ b → b < n → (dn i j a b → s1 (a * 10 + b) = nx s k a b) ∧ (¬ dn i j a b → s1 (a * 10 + b) = s (a * 10 + b))
theorem nx_k {n k : Int} {s : Int → Int} (hs : SymT n s) (hk : 0 ≤ k ∧ k < n) {b : Int} (b0 : 0 ≤ b) (b1 : b < n) : nx s k k b = s (k * 10 + b) ∧ nx s k b k = s (b * 10 + k) := by
  have := hs.2 k hk.1 hk.2
  have := (hs.1 k b hk.1 hk.2 b0 b1).1
  have := (hs.1 b k b0 b1 hk.1 hk.2).1
  unfold nx mn
  exact ⟨by rw [if_neg (by omega)], by rw [if_neg (by omega)]⟩
theorem nx_sym {n k : Int} {s : Int → Int} (hs : SymT n s) (hk : 0 ≤ k ∧ k < n) {a b : Int} (a0 : 0 ≤ a) (a1 : a < n) (b0 : 0 ≤ b) (b1 : b < n) : nx s k a b = nx s k b a := by
  have h1 := (hs.1 a b a0 a1 b0 b1).2.2
  have h2 := (hs.1 a k a0 a1 hk.1 hk.2).2.2
  have h3 := (hs.1 k b hk.1 hk.2 b0 b1).2.2
  unfold nx
  rw [h1, h2, h3, Int.add_comm (s (k * 10 + a))]
theorem GI.zero (n k : Int) (s : Int → Int) : GI n k s s 1 0 := fun a b a0 a1 b0 b1 => ⟨fun h => by unfold dn at h; omega, fun _ => rfl⟩
theorem GI.kj {n k : Int} {s s1 : Int → Int} {i j : Int} (h : GI n k s s1 i j) (hs : SymT n s) (hk : 0 ≤ k ∧ k < n) {b : Int} (b0 : 0 ≤ b) (b1 : b < n) : s1 (k * 10 + b) = s (k * 10 + b) ∧ s1 (b * 10 + k) = s (b * 10 + k) := by
  have g1 := h k b hk.1 hk.2 b0 b1
  have g2 := h b k b0 b1 hk.1 hk.2
  have g3 := nx_k hs hk b0 b1
  constructor
  · by_cases q : dn i j k b
    · rw [g1.1 q]; exact g3.1
    · exact g1.2 q
  · by_cases q : dn i j b k
    · rw [g2.1 q]; exact g3.2
    · exact g2.2 q
theorem GI.ij {n k : Int} {s s1 : Int → Int} {i j : Int} (h : GI n k s s1 i j) (i0 : 0 ≤ i) (i1 : i < n) (j0 : 0 ≤ j) (j1 : j < i) : s1 (i * 10 + j) = s (i * 10 + j) := (h i j i0 i1 j0 (by omega)).2 (by unfold dn; omega)
/-- the pair is made shorter -/
theorem GI.set {n k : Int} {s s1 : Int → Int} {i j v : Int} (h : GI n k s s1 i j) (hs : SymT n s) (hn : n ≤ 10) (hk : 0 ≤ k ∧ k < n) (i0 : 0 ≤ i) (i1 : i < n) (j0 : 0 ≤ j) (j1 : j < i) (hv : v = nx s k i j) : GI n k s (ups (ups s1 (i * 10 + j) v) (j * 10 + i) v) i (j + 1) := by
  intro a b a0 a1 b0 b1
  have g := h a b a0 a1 b0 b1
  have hv2 := nx_sym hs hk i0 i1 j0 (by omega)
  unfold ups
  by_cases e1 : a * 10 + b = j * 10 + i
  · have ea : a = j := by omega
    have eb : b = i := by omega
    subst ea; subst eb
    rw [if_pos rfl]
    exact ⟨fun _ => by rw [hv, hv2], fun q => absurd (by unfold dn; omega) q⟩
  · rw [if_neg e1]
    by_cases e2 : a * 10 + b = i * 10 + j
    · have ea : a = i := by omega
      have eb : b = j := by omega
      subst ea; subst eb
      rw [if_pos rfl]
      exact ⟨fun _ => hv, fun q => absurd (by unfold dn; omega) q⟩
    · rw [if_neg e2]
      have n1 : ¬ (a = j ∧ b = i) := fun q => e1 (by rw [q.1, q.2])
      have n2 : ¬ (a = i ∧ b = j) := fun q => e2 (by rw [q.1, q.2])
      exact ⟨fun q => g.1 (by unfold dn at q ⊢; omega), fun q => g.2 (by unfold dn at q ⊢; omega)⟩
theorem GI.keep {n k : Int} {s s1 : Int → Int} {i j : Int} (h : GI n k s s1 i j) (hs : SymT n s) (hk : 0 ≤ k ∧ k < n) (i0 : 0 ≤ i) (i1 : i < n) (j0 : 0 ≤ j) (j1 : j < i) (hv : s (i * 10 + j) = nx s k i j) : GI n k s s1 i (j + 1) := by
  intro a b a0 a1 b0 b1
  have g := h a b a0 a1 b0 b1
  have hv2 := nx_sym hs hk i0 i1 j0 (by omega)
  have hs2 := (hs.1 i j i0 i1 j0 (by omega)).2.2
  refine ⟨fun q => ?_, fun q => g.2 (by unfold dn at q ⊢; omega)⟩
  by_cases q2 : dn i j a b
  · exact g.1 q2
  · rw [g.2 q2]
    rcases (show (a = i ∧ b = j) ∨ (a = j ∧ b = i) by unfold dn at q q2; omega) with ⟨rfl, rfl⟩ | ⟨rfl, rfl⟩
    · exact hv
    · rw [← hs2, hv, hv2]
theorem GI.next {n k : Int} {s s1 : Int → Int} {i j : Int} (h : GI n k s s1 i j) (hj : i ≤ j) : GI n k s s1 (i + 1) 0 := by
  intro a b a0 a1 b0 b1
  have g := h a b a0 a1 b0 b1
  exact ⟨fun q => g.1 (by unfold dn at q ⊢; omega), fun q => g.2 (by unfold dn at q ⊢; omega)⟩
theorem GI.skip {n k : Int} {s s1 : Int → Int} {i j : Int} (h : GI n k s s1 i j) (hs : SymT n s) (hk : 0 ≤ k ∧ k < n) (i0 : 0 ≤ i) (i1 : i < n) (hf : 1000000 ≤ s (i * 10 + k)) : GI n k s s1 (i + 1) 0 := by
  intro a b a0 a1 b0 b1
  have g := h a b a0 a1 b0 b1
  have h1 := hs.1 a b a0 a1 b0 b1
  have h2 := hs.1 i k i0 i1 hk.1 hk.2
  have h3 := hs.1 k b hk.1 hk.2 b0 b1
  have h4 := hs.1 a k a0 a1 hk.1 hk.2
  refine ⟨fun q => ?_, fun q => g.2 (by unfold dn at q ⊢; omega)⟩
  by_cases q2 : dn i j a b
  · exact g.1 q2
  · rw [g.2 q2]
    unfold nx mn
    rw [if_neg]
    rcases (show a = i ∨ b = i by unfold dn at q q2; omega) with rfl | rfl
    · omega
    · omega
theorem GI.done {n k : Int} {s s1 : Int → Int} {i : Int} (h : GI n k s s1 i 0) (hs : SymT n s) (hk : 0 ≤ k ∧ k < n) (hi : n ≤ i) : ∀ a b : Int, 0 ≤ a → a < n → 0 ≤ b → b < n → s1 (a * 10 + b) = mn (s (a * 10 + b)) (s (a * 10 + k) + s (k * 10 + b)) := by
  intro a b a0 a1 b0 b1
  have g := h a b a0 a1 b0 b1
  by_cases e : a = b
  · subst e
    rw [g.2 (by unfold dn; omega), hs.2 a a0 a1]
    have := (hs.1 a k a0 a1 hk.1 hk.2).1
    have := (hs.1 k a hk.1 hk.2 a0 a1).1
    unfold mn
    rw [if_neg (by omega)]
  · exact g.1 (by unfold dn; omega)
theorem Stg.symT {M : MT} {o : Bool} {n k : Int} {s : Int → Int} (h : Stg M o n k s) : SymT n s := ⟨fun a b a0 a1 b0 b1 => ⟨(h.1 a b a0 a1 b0 b1).1, (h.1 a b a0 a1 b0 b1).2.1, (h.1 a b a0 a1 b0 b1).2.2.1⟩, h.2.1⟩
/-- the roads below r are laid in -/
def RI (M : MT) (o : Bool) (n r : Int) (s : Int → Int) : Prop :=
  (∀ a b : Int, 0 ≤ a → a < n → 0 ≤ b → b < n → 0 ≤ s (a * 10 + b) ∧ s (a * 10 + b) ≤ 1000000 ∧ s (a * 10 + b) = s (b * 10 + a) ∧ (s (a * 10 + b) < 1000000 → ∃ j : Nat, wk M o j a b (s (a * 10 + b)))) ∧
  (∀ a : Int, 0 ≤ a → a < n → s (a * 10 + a) = 0) ∧
  (∀ r' : Int, usable M o r' → r' < r → s (M 0 r' * 10 + M 1 r') ≤ len M r' ∧ s (M 1 r' * 10 + M 0 r') ≤ len M r')
theorem RI.zero {M : MT} {o : Bool} {n : Int} {s : Int → Int} (hn : n ≤ 10) (h : ∀ a b : Int, 0 ≤ a → a < 10 → 0 ≤ b → b < 10 → s (a * 10 + b) = if a = b then 0 else 1000000) : RI M o n 0 s := by
  refine ⟨fun a b a0 a1 b0 b1 => ?_, fun a a0 a1 => ?_, fun r hu h0 => absurd hu.1 (by omega)⟩
  · rw [h a b a0 (by omega) b0 (by omega), h b a b0 (by omega) a0 (by omega)]
    by_cases e : a = b
    · subst e; rw [if_pos rfl]; exact ⟨by decide, by decide, rfl, fun _ => ⟨0, rfl, rfl⟩⟩
    · rw [if_neg e, if_neg (Ne.symm e)]; exact ⟨by decide, by decide, rfl, fun q => absurd q (by decide)⟩
  · rw [h a a a0 (by omega) a0 (by omega), if_pos rfl]
theorem RI.set {M : MT} {o : Bool} {n r : Int} {s : Int → Int} (hW : WFR M) (hn : n = M 19 0) (h : RI M o n r s) (hu : usable M o r) (hl : len M r < s (M 0 r * 10 + M 1 r)) : RI M o n (r + 1) (ups (ups s (M 0 r * 10 + M 1 r) (len M r)) (M 1 r * 10 + M 0 r) (len M r)) := by
  obtain ⟨h1, h2, h3⟩ := h
  have g := hW.2.2.2.2 r hu.1 hu.2.1
  have gl := hW.ln hu.1 hu.2.1
  have hn10 := hW.2.2.2.1
  have w0 : wk M o 1 (M 0 r) (M 1 r) (len M r) := by have := wk_1 (a := M 0 r) hu (by rw [endF_0]; omega); rw [endF_0] at this; exact this
  have w1 : wk M o 1 (M 1 r) (M 0 r) (len M r) := by have := wk_1 (a := M 1 r) hu (by rw [endF_1 hW hu.1 hu.2.1]; omega); rw [endF_1 hW hu.1 hu.2.1] at this; exact this
  have ev : ∀ a b : Int, 0 ≤ a → a < n → 0 ≤ b → b < n → ups (ups s (M 0 r * 10 + M 1 r) (len M r)) (M 1 r * 10 + M 0 r) (len M r) (a * 10 + b) = if (a = M 0 r ∧ b = M 1 r) ∨ (a = M 1 r ∧ b = M 0 r) then len M r else s (a * 10 + b) := by
    intro a b a0 a1 b0 b1
    unfold ups
    by_cases e1 : a = M 1 r ∧ b = M 0 r
    · rw [if_pos (by rw [e1.1, e1.2]), if_pos (Or.inr e1)]
    · rw [if_neg (fun q => e1 (by omega))]
      by_cases e2 : a = M 0 r ∧ b = M 1 r
      · rw [if_pos (by rw [e2.1, e2.2]), if_pos (Or.inl e2)]
      · rw [if_neg (fun q => e2 (by omega)), if_neg (fun q => q.elim e2 e1)]
  have hsym := h1 (M 0 r) (M 1 r) (by omega) (by omega) (by omega) (by omega)
  refine ⟨fun a b a0 a1 b0 b1 => ?_, fun a a0 a1 => ?_, fun r' hu' hr' => ?_⟩
  · rw [ev a b a0 a1 b0 b1, ev b a b0 b1 a0 a1]
    by_cases e : (a = M 0 r ∧ b = M 1 r) ∨ (a = M 1 r ∧ b = M 0 r)
    · rw [if_pos e, if_pos (by omega)]
      refine ⟨by omega, by omega, rfl, fun _ => ⟨1, ?_⟩⟩
      rcases e with ⟨rfl, rfl⟩ | ⟨rfl, rfl⟩
      · exact w0
      · exact w1
    · rw [if_neg e, if_neg (by omega)]
      exact h1 a b a0 a1 b0 b1
  · rw [ev a a a0 a1 a0 a1, if_neg (by omega)]
    exact h2 a a0 a1
  · have g' := hW.2.2.2.2 r' hu'.1 hu'.2.1
    rw [ev _ _ (by omega) (by omega) (by omega) (by omega), ev _ _ (by omega) (by omega) (by omega) (by omega)]
    have hs' := (h1 (M 0 r') (M 1 r') (by omega) (by omega) (by omega) (by omega)).2.2.1
    by_cases er : r' = r
    · subst er
      rw [if_pos (Or.inl ⟨rfl, rfl⟩), if_pos (Or.inr ⟨rfl, rfl⟩)]
      exact ⟨Int.le_refl _, Int.le_refl _⟩
    · have g3 := h3 r' hu' (by omega)
      constructor
      · split
        · rename_i q
          rcases q with ⟨q1, q2⟩ | ⟨q1, q2⟩
          · rw [q1, q2] at g3; omega
          · rw [q1, q2] at g3; omega
        · exact g3.1
      · split
        · rename_i q
          rcases q with ⟨q1, q2⟩ | ⟨q1, q2⟩
          · rw [q1, q2] at g3; omega
          · rw [q1, q2] at g3; omega
        · exact g3.2
theorem RI.keep {M : MT} {o : Bool} {n r : Int} {s : Int → Int} (hW : WFR M) (hn : n = M 19 0) (h : RI M o n r s) (hu : usable M o r → s (M 0 r * 10 + M 1 r) ≤ len M r) : RI M o n (r + 1) s := by
  obtain ⟨h1, h2, h3⟩ := h
  refine ⟨h1, h2, fun r' hu' hr' => ?_⟩
  by_cases er : r' = r
  · subst er
    have g' := hW.2.2.2.2 r' hu'.1 hu'.2.1
    have := (h1 (M 0 r') (M 1 r') (by omega) (by omega) (by omega) (by omega)).2.2.1
    have := hu hu'
    omega
  · exact h3 r' hu' (by omega)
theorem RI.stg {M : MT} {o : Bool} {n : Int} {s : Int → Int} (h : RI M o n (M 16 0) s) : Stg M o n 0 s := ⟨h.1, h.2.1, fun r hu => h.2.2 r hu hu.2.1, fun a b c _ _ _ _ c0 c1 _ => absurd c0 (by omega)⟩
/-- the table is the distances' -/
def WV (M : MT) (o : Bool) (s : Int → Int) : Prop := ∀ a b : Int, 0 ≤ a → a < M 19 0 → 0 ≤ b → b < M 19 0 → s (a * 10 + b) = dst M o a b
def parF (s : Int → Int) (i : Int) : Nat → Int
  | 0 => 0
  | j + 1 => parF s i j + (if 1000000 ≤ s (i * 10 + j) then 1 else 0)
theorem parF_s (s : Int → Int) (i : Int) (j : Nat) : parF s i (j + 1) = parF s i j + (if 1000000 ≤ s (i * 10 + j) then 1 else 0) := rfl
def parP (s : Int → Int) : Nat → Int
  | 0 => 0
  | i + 1 => parP s i + parF s i i
theorem parP_s (s : Int → Int) (i : Nat) : parP s (i + 1) = parP s i + parF s i i := rfl
set_option maxRecDepth 100000 in
set_option maxHeartbeats 4000000 in
theorem m_X2_clear {G : va_G} {cy : ClassId} {q : Nat → Nat} (s : Int → Int) : Ct G cy yX2_clear cX2_clear 3 none ({ frames := 0, cells := 0, slots := 0, locals := 0 } : Room) 0 0 [.ref (q 0)] (wY cy q s) (fun v w1 => v = none ∧ ∃ s', (∀ a b : Int, 0 ≤ a → a < 10 → 0 ≤ b → b < 10 → s' (a * 10 + b) = if a = b then 0 else 1000000) ∧ w1 = wY cy q s') := by
  refine Ct.ofV (by decide) (Nat.le_of_ble_eq_true rfl) rfl rfl ?_
  intro c X ret
  refine Tlv (lv' := [(0, .ref (q 0))]) rfl ?_
  refine tw_iconst X dX2_clear_0 ?_
  refine tw_istore_n (lv' := [(1, .int (enc (0))), (0, .ref (q 0))]) X dX2_clear_1 rfl (by decide) rfl ?_
  have L2 : ∀ (fu i : Nat) (s1 : Int → Int), (i : Int) ≤ (10 : Int) → (10 : Int) + 1 ≤ (i : Int) + fu → (∀ a b : Int, 0 ≤ a → a < (i : Int) → 0 ≤ b → b < 10 → s1 (a * 10 + b) = if a = b then 0 else 1000000) → T G c ({ frames := 0, cells := 0, slots := 0, locals := 0 } : Room) 3 0 0 (wY cy q s1) 2 [(0, .ref (q 0)), (1, .int (enc ((i : Int))))] [] := by
    intro fu
    induction fu with
    | zero =>
      intro i s1 hi0 hi1
      exact absurd hi1 (by omega)
    | succ fu ih2 =>
      intro i s1 hi0_2 hi1_2 hI
      refine tw_iload_n X dX2_clear_2 1 rfl rfl ?_
      refine tw_bipush X dX2_clear_3 (by decide) ?_
      refine tw_icmp_ge (tgt := 50) X (In_of (by omega) (by omega)) (In_of (by omega) (by omega)) dX2_clear_5 (by decide) (fun c5 => ?_) (fun c5 => ?_)
      · skip
        exact ret _ _ _ dX2_clear_50 ⟨rfl, s1, fun a b a0 a1 b0 b1 => hI a b a0 (by omega) b0 b1, rfl⟩
      · skip
        refine tw_iconst X dX2_clear_8 ?_
        refine tw_istore_n (lv' := [(2, .int (enc (0))), (0, .ref (q 0)), (1, .int (enc ((i : Int))))]) X dX2_clear_9 rfl (by decide) rfl ?_
        have L10 : ∀ (fu j : Nat) (s2 : Int → Int), (j : Int) ≤ (10 : Int) → (10 : Int) + 1 ≤ (j : Int) + fu → (∀ a b : Int, 0 ≤ a → 0 ≤ b → b < 10 → (a < (i : Int) ∨ (a = (i : Int) ∧ b < (j : Int))) → s2 (a * 10 + b) = if a = b then 0 else 1000000) → T G c ({ frames := 0, cells := 0, slots := 0, locals := 0 } : Room) 3 0 0 (wY cy q s2) 10 [(0, .ref (q 0)), (1, .int (enc ((i : Int)))), (2, .int (enc ((j : Int))))] [] := by
          intro fu
          induction fu with
          | zero =>
            intro j s2 hi0 hi1
            exact absurd hi1 (by omega)
          | succ fu ih10 =>
            intro j s2 hi0_10 hi1_10 hJ
            refine tw_iload_n X dX2_clear_10 2 rfl rfl ?_
            refine tw_bipush X dX2_clear_11 (by decide) ?_
            refine tw_icmp_ge (tgt := 44) X (In_of (by omega) (by omega)) (In_of (by omega) (by omega)) dX2_clear_13 (by decide) (fun c13 => ?_) (fun c13 => ?_)
            · skip
              refine tw_iinc (q := 1) (x := (i : Int)) (y := (i : Int) + 1) (lv' := [(1, .int (enc ((i : Int) + 1))), (0, .ref (q 0)), (2, .int (enc ((j : Int))))]) X dX2_clear_44 rfl rfl (by decide) rfl ?_
              refine tw_goto (tgt := 2) X dX2_clear_47 (by decide) ?_
              refine Tsub (lv' := [(0, .ref (q 0)), (1, .int (enc ((i : Int) + 1)))]) [1, 0] rfl ?_
              refine Teq (ws' := wY cy q (s2)) (lv' := [(0, .ref (q 0)), (1, .int (enc (((i + 1 : Nat) : Int))))]) (st' := []) (rfl) (lvk (lvc (i_succ i) (rfl))) rfl (ih2 (i + 1) (s2) (by omega) (by omega) (fun a b a0 a1 b0 b1 => hJ a b a0 b0 b1 (by omega)))
            · skip
              refine tw_aload_n X dX2_clear_16 0 rfl rfl ?_
              refine gf_X2_9 X (v := .ref (q 1)) 0 rfl rfl dX2_clear_17 ?_
              refine tw_iload_n X dX2_clear_20 1 rfl rfl ?_
              refine tw_bipush X dX2_clear_21 (by decide) ?_
              refine tw_imul (z := (i : Int) * 10) X dX2_clear_23 rfl ?_
              refine tw_iload_n X dX2_clear_24 2 rfl rfl ?_
              refine tw_iadd (z := ((i : Int) * 10) + (j : Int)) X dX2_clear_25 rfl ?_
              refine tw_iload_n X dX2_clear_26 1 rfl rfl ?_
              refine tw_iload_n X dX2_clear_27 2 rfl rfl ?_
              refine tw_icmp_ne (tgt := 35) X (In_of (by omega) (by omega)) (In_of (by omega) (by omega)) dX2_clear_28 (by decide) (fun c28 => ?_) (fun c28 => ?_)
              · skip
                refine tw_ldc X (z := 1000000) wk_X2_47 (by decide) dX2_clear_35 ?_
                refine tw_iast X (N := 100) (f := s2) (ws' := wY cy q (ups s2 (((i : Int) * 10) + (j : Int)) (1000000))) 1 rfl (by decide) (by omega) dX2_clear_37 rfl ?_
                refine tw_iinc (q := 2) (x := (j : Int)) (y := (j : Int) + 1) (lv' := [(2, .int (enc ((j : Int) + 1))), (0, .ref (q 0)), (1, .int (enc ((i : Int))))]) X dX2_clear_38 rfl rfl (by decide) rfl ?_
                refine tw_goto (tgt := 10) X dX2_clear_41 (by decide) ?_
                refine Tsub (lv' := [(0, .ref (q 0)), (1, .int (enc ((i : Int)))), (2, .int (enc ((j : Int) + 1)))]) [1, 2, 0] rfl ?_
                refine Teq (ws' := wY cy q ((ups s2 (((i : Int) * 10) + (j : Int)) (1000000)))) (lv' := [(0, .ref (q 0)), (1, .int (enc ((i : Int)))), (2, .int (enc (((j + 1 : Nat) : Int))))]) (st' := []) (rfl) (lvk (lvk (lvc (i_succ j) (rfl)))) rfl (ih10 (j + 1) ((ups s2 (((i : Int) * 10) + (j : Int)) (1000000))) (by omega) (by omega) (fun a b a0 b0 b1 h => by unfold ups; by_cases e : a * 10 + b = (i : Int) * 10 + (j : Int); (rw [if_pos e]; first | rw [if_pos (by omega)] | rw [if_neg (by omega)]); (rw [if_neg e]; exact hJ a b a0 b0 b1 (by omega))))
              · skip
                refine tw_iconst X dX2_clear_31 ?_
                refine tw_goto (tgt := 37) X dX2_clear_32 (by decide) ?_
                refine tw_iast X (N := 100) (f := s2) (ws' := wY cy q (ups s2 (((i : Int) * 10) + (j : Int)) (0))) 1 rfl (by decide) (by omega) dX2_clear_37 rfl ?_
                refine tw_iinc (q := 2) (x := (j : Int)) (y := (j : Int) + 1) (lv' := [(2, .int (enc ((j : Int) + 1))), (0, .ref (q 0)), (1, .int (enc ((i : Int))))]) X dX2_clear_38 rfl rfl (by decide) rfl ?_
                refine tw_goto (tgt := 10) X dX2_clear_41 (by decide) ?_
                refine Tsub (lv' := [(0, .ref (q 0)), (1, .int (enc ((i : Int)))), (2, .int (enc ((j : Int) + 1)))]) [1, 2, 0] rfl ?_
                refine Teq (ws' := wY cy q ((ups s2 (((i : Int) * 10) + (j : Int)) (0)))) (lv' := [(0, .ref (q 0)), (1, .int (enc ((i : Int)))), (2, .int (enc (((j + 1 : Nat) : Int))))]) (st' := []) (rfl) (lvk (lvk (lvc (i_succ j) (rfl)))) rfl (ih10 (j + 1) ((ups s2 (((i : Int) * 10) + (j : Int)) (0))) (by omega) (by omega) (fun a b a0 b0 b1 h => by unfold ups; by_cases e : a * 10 + b = (i : Int) * 10 + (j : Int); (rw [if_pos e]; first | rw [if_pos (by omega)] | rw [if_neg (by omega)]); (rw [if_neg e]; exact hJ a b a0 b0 b1 (by omega))))
        refine Tsub (lv' := [(0, .ref (q 0)), (1, .int (enc ((i : Int)))), (2, .int (enc (0)))]) [1, 2, 0] rfl ?_
        refine Teq (ws' := wY cy q (s1)) (lv' := [(0, .ref (q 0)), (1, .int (enc ((i : Int)))), (2, .int (enc (((0 : Nat) : Int))))]) (st' := []) (rfl) (rfl) rfl (L10 ((10 : Int) + 1).toNat 0 (s1) (by omega) (by omega) (fun a b a0 b0 b1 h => hI a b a0 (by omega) b0 b1))
  refine Tsub (lv' := [(0, .ref (q 0)), (1, .int (enc (0)))]) [1, 0] rfl ?_
  refine Teq (ws' := wY cy q (s)) (lv' := [(0, .ref (q 0)), (1, .int (enc (((0 : Nat) : Int))))]) (st' := []) (rfl) (rfl) rfl (L2 ((10 : Int) + 1).toNat 0 (s) (by omega) (by omega) (fun a b a0 a1 => absurd a1 (by omega)))
set_option maxRecDepth 100000 in
set_option maxHeartbeats 4000000 in
theorem m_X2_goOver {G : va_G} {cy : ClassId} {q : Nat → Nat} (s : Int → Int) (k n : Int) (hn : 0 ≤ n ∧ n ≤ 10) (hk : 0 ≤ k ∧ k < n) (hs : SymT n s) : Ct G cy yX2_goOver cX2_goOver 7 none ({ frames := 0, cells := 0, slots := 0, locals := 0 } : Room) 0 0 [.ref (q 0), .int (enc (k)), .int (enc (n))] (wY cy q s) (fun v w1 => v = none ∧ ∃ s', (∀ a b : Int, 0 ≤ a → a < n → 0 ≤ b → b < n → s' (a * 10 + b) = mn (s (a * 10 + b)) (s (a * 10 + k) + s (k * 10 + b))) ∧ w1 = wY cy q s') := by
  refine Ct.ofV (by decide) (Nat.le_of_ble_eq_true rfl) rfl rfl ?_
  intro c X ret
  refine Tlv (lv' := [(0, .ref (q 0)), (1, .int (enc (k))), (2, .int (enc (n)))]) rfl ?_
  refine tw_iconst X dX2_goOver_0 ?_
  refine tw_istore_n (lv' := [(3, .int (enc (1))), (0, .ref (q 0)), (1, .int (enc (k))), (2, .int (enc (n)))]) X dX2_goOver_1 rfl (by decide) rfl ?_
  have L2 : ∀ (fu i : Nat) (s1 : Int → Int), (i : Int) ≤ n + 1 → n + 1 + 1 ≤ (i : Int) + fu → 1 ≤ (i : Int) → GI n k s s1 (i : Int) 0 → T G c ({ frames := 0, cells := 0, slots := 0, locals := 0 } : Room) 7 0 0 (wY cy q s1) 2 [(0, .ref (q 0)), (1, .int (enc (k))), (2, .int (enc (n))), (3, .int (enc ((i : Int))))] [] := by
    intro fu
    induction fu with
    | zero =>
      intro i s1 hi0 hi1
      exact absurd hi1 (by omega)
    | succ fu ih2 =>
      intro i s1 hi0_2 hi1_2 h1i hI
      refine tw_iload_n X dX2_goOver_2 3 rfl rfl ?_
      refine tw_iload_n X dX2_goOver_3 2 rfl rfl ?_
      refine tw_icmp_ge (tgt := 110) X (In_of (by omega) (by omega)) (In_of (by omega) (by omega)) dX2_goOver_4 (by decide) (fun c4 => ?_) (fun c4 => ?_)
      · skip
        exact ret _ _ _ dX2_goOver_110 ⟨rfl, s1, hI.done hs hk c4, rfl⟩
      · skip
        refine tw_aload_n X dX2_goOver_7 0 rfl rfl ?_
        refine gf_X2_9 X (v := .ref (q 1)) 0 rfl rfl dX2_goOver_8 ?_
        refine tw_iload_n X dX2_goOver_11 3 rfl rfl ?_
        refine tw_bipush X dX2_goOver_12 (by decide) ?_
        refine tw_imul (z := (i : Int) * 10) X dX2_goOver_14 rfl ?_
        refine tw_iload_n X dX2_goOver_15 1 rfl rfl ?_
        refine tw_iadd (z := ((i : Int) * 10) + k) X dX2_goOver_16 rfl ?_
        refine tw_iald X (N := 100) (f := s1) 1 rfl (by decide) (by omega) dX2_goOver_17 ?_
        refine Tst (st' := [.int (enc (s1 (((i : Int) * 10) + k)))]) rfl ?_
        refine tw_istore (lv' := [(4, .int (enc (s1 (((i : Int) * 10) + k)))), (0, .ref (q 0)), (1, .int (enc (k))), (2, .int (enc (n))), (3, .int (enc ((i : Int))))]) X dX2_goOver_18 (by decide) rfl ?_
        refine tw_iconst X dX2_goOver_20 ?_
        refine tw_istore (lv' := [(5, .int (enc (0))), (4, .int (enc (s1 (((i : Int) * 10) + k)))), (0, .ref (q 0)), (1, .int (enc (k))), (2, .int (enc (n))), (3, .int (enc ((i : Int))))]) X dX2_goOver_21 (by decide) rfl ?_
        have L23 : ∀ (fu j : Nat) (s2 : Int → Int), (j : Int) ≤ (i : Int) → (i : Int) + 1 ≤ (j : Int) + fu → GI n k s s2 (i : Int) (j : Int) → T G c ({ frames := 0, cells := 0, slots := 0, locals := 0 } : Room) 7 0 0 (wY cy q s2) 23 [(0, .ref (q 0)), (1, .int (enc (k))), (2, .int (enc (n))), (3, .int (enc ((i : Int)))), (4, .int (enc (s ((i : Int) * 10 + k)))), (5, .int (enc ((j : Int))))] [] := by
          intro fu
          induction fu with
          | zero =>
            intro j s2 hi0 hi1
            exact absurd hi1 (by omega)
          | succ fu ih23 =>
            intro j s2 hi0_23 hi1_23 hJ
            refine tw_iload X dX2_goOver_23 4 rfl ?_
            have bf := hs.1 (i : Int) k (by omega) c4 hk.1 hk.2
            refine tw_ldc X (z := 1000000) wk_X2_47 (by decide) dX2_goOver_25 ?_
            refine tw_icmp_ge (tgt := 104) X (In_of (by omega) (by omega)) (In_of (by omega) (by omega)) dX2_goOver_27 (by decide) (fun c27 => ?_) (fun c27 => ?_)
            · skip
              refine tw_iinc (q := 3) (x := (i : Int)) (y := (i : Int) + 1) (lv' := [(3, .int (enc ((i : Int) + 1))), (0, .ref (q 0)), (1, .int (enc (k))), (2, .int (enc (n))), (4, .int (enc (s ((i : Int) * 10 + k)))), (5, .int (enc ((j : Int))))]) X dX2_goOver_104 rfl rfl (by decide) rfl ?_
              refine tw_goto (tgt := 2) X dX2_goOver_107 (by decide) ?_
              refine Tsub (lv' := [(0, .ref (q 0)), (1, .int (enc (k))), (2, .int (enc (n))), (3, .int (enc ((i : Int) + 1)))]) [1, 2, 3, 0] rfl ?_
              refine Teq (ws' := wY cy q (s2)) (lv' := [(0, .ref (q 0)), (1, .int (enc (k))), (2, .int (enc (n))), (3, .int (enc (((i + 1 : Nat) : Int))))]) (st' := []) (rfl) (lvk (lvk (lvk (lvc (i_succ i) (rfl))))) rfl (ih2 (i + 1) (s2) (by omega) (by omega) (by omega) (by first | exact hJ.next c33 | exact hJ.skip hs hk (by omega) c4 c27))
            · skip
              refine tw_iload X dX2_goOver_30 5 rfl ?_
              refine tw_iload_n X dX2_goOver_32 3 rfl rfl ?_
              refine tw_icmp_ge (tgt := 104) X (In_of (by omega) (by omega)) (In_of (by omega) (by omega)) dX2_goOver_33 (by decide) (fun c33 => ?_) (fun c33 => ?_)
              · skip
                refine tw_iinc (q := 3) (x := (i : Int)) (y := (i : Int) + 1) (lv' := [(3, .int (enc ((i : Int) + 1))), (0, .ref (q 0)), (1, .int (enc (k))), (2, .int (enc (n))), (4, .int (enc (s ((i : Int) * 10 + k)))), (5, .int (enc ((j : Int))))]) X dX2_goOver_104 rfl rfl (by decide) rfl ?_
                refine tw_goto (tgt := 2) X dX2_goOver_107 (by decide) ?_
                refine Tsub (lv' := [(0, .ref (q 0)), (1, .int (enc (k))), (2, .int (enc (n))), (3, .int (enc ((i : Int) + 1)))]) [1, 2, 3, 0] rfl ?_
                refine Teq (ws' := wY cy q (s2)) (lv' := [(0, .ref (q 0)), (1, .int (enc (k))), (2, .int (enc (n))), (3, .int (enc (((i + 1 : Nat) : Int))))]) (st' := []) (rfl) (lvk (lvk (lvk (lvc (i_succ i) (rfl))))) rfl (ih2 (i + 1) (s2) (by omega) (by omega) (by omega) (by first | exact hJ.next c33 | exact hJ.skip hs hk (by omega) c4 c27))
              · skip
                refine tw_iload X dX2_goOver_36 4 rfl ?_
                refine tw_aload_n X dX2_goOver_38 0 rfl rfl ?_
                refine gf_X2_9 X (v := .ref (q 1)) 0 rfl rfl dX2_goOver_39 ?_
                refine tw_iload_n X dX2_goOver_42 1 rfl rfl ?_
                refine tw_bipush X dX2_goOver_43 (by decide) ?_
                refine tw_imul (z := k * 10) X dX2_goOver_45 rfl ?_
                refine tw_iload X dX2_goOver_46 5 rfl ?_
                refine tw_iadd (z := (k * 10) + (j : Int)) X dX2_goOver_48 rfl ?_
                refine tw_iald X (N := 100) (f := s2) 1 rfl (by decide) (by omega) dX2_goOver_49 ?_
                refine Tst (st' := [.int (enc (s2 ((k * 10) + (j : Int)))), .int (enc (s ((i : Int) * 10 + k)))]) rfl ?_
                have ekj := (hJ.kj hs hk (b := (j : Int)) (by omega) (by omega)).1
                have bkj := hs.1 k (j : Int) hk.1 hk.2 (by omega) (by omega)
                have eij := hJ.ij (by omega) c4 (by omega) c33
                have bij := hs.1 (i : Int) (j : Int) (by omega) c4 (by omega) (by omega)
                refine tw_iadd (z := (s ((i : Int) * 10 + k)) + (s2 ((k * 10) + (j : Int)))) X dX2_goOver_50 rfl ?_
                refine tw_istore (lv' := [(6, .int (enc ((s ((i : Int) * 10 + k)) + (s2 ((k * 10) + (j : Int)))))), (0, .ref (q 0)), (1, .int (enc (k))), (2, .int (enc (n))), (3, .int (enc ((i : Int)))), (4, .int (enc (s ((i : Int) * 10 + k)))), (5, .int (enc ((j : Int))))]) X dX2_goOver_51 (by decide) rfl ?_
                refine tw_iload X dX2_goOver_53 0 rfl ?_
                refine tw_aload_n X dX2_goOver_55 1 rfl rfl ?_
                refine gf_X2_9 X (v := .ref (q 1)) 0 rfl rfl dX2_goOver_56 ?_
                refine tw_iload_n X dX2_goOver_59 4 rfl rfl ?_
                refine tw_bipush X dX2_goOver_60 (by decide) ?_
                refine tw_imul (z := (i : Int) * 10) X dX2_goOver_62 rfl ?_
                refine tw_iload X dX2_goOver_63 6 rfl ?_
                refine tw_iadd (z := ((i : Int) * 10) + (j : Int)) X dX2_goOver_65 rfl ?_
                refine tw_iald X (N := 100) (f := s2) 1 rfl (by decide) (by omega) dX2_goOver_66 ?_
                refine Tst (st' := [.int (enc (s2 (((i : Int) * 10) + (j : Int)))), .int (enc ((s ((i : Int) * 10 + k)) + (s2 ((k * 10) + (j : Int)))))]) rfl ?_
                refine tw_icmp_ge (tgt := 98) X (In_of (by omega) (by omega)) (In_of (by omega) (by omega)) dX2_goOver_67 (by decide) (fun c67 => ?_) (fun c67 => ?_)
                · skip
                  have hNX : GI n k s s2 (i : Int) ((j : Int) + 1) := hJ.keep hs hk (by omega) c4 (by omega) c33 (by unfold nx mn; rw [if_neg (by omega)])
                  refine tw_iinc (q := 6) (x := (j : Int)) (y := (j : Int) + 1) (lv' := [(5, .int (enc ((j : Int) + 1))), (6, .int (enc ((s ((i : Int) * 10 + k)) + (s2 ((k * 10) + (j : Int)))))), (0, .ref (q 0)), (1, .int (enc (k))), (2, .int (enc (n))), (3, .int (enc ((i : Int)))), (4, .int (enc (s ((i : Int) * 10 + k))))]) X dX2_goOver_98 rfl rfl (by decide) rfl ?_
                  refine tw_goto (tgt := 23) X dX2_goOver_101 (by decide) ?_
                  refine Tsub (lv' := [(0, .ref (q 0)), (1, .int (enc (k))), (2, .int (enc (n))), (3, .int (enc ((i : Int)))), (4, .int (enc (s ((i : Int) * 10 + k)))), (5, .int (enc ((j : Int) + 1)))]) [2, 3, 4, 5, 6, 0] rfl ?_
                  refine Teq (ws' := wY cy q (s2)) (lv' := [(0, .ref (q 0)), (1, .int (enc (k))), (2, .int (enc (n))), (3, .int (enc ((i : Int)))), (4, .int (enc (s ((i : Int) * 10 + k)))), (5, .int (enc (((j + 1 : Nat) : Int))))]) (st' := []) (rfl) (lvk (lvk (lvk (lvk (lvk (lvc (i_succ j) (rfl))))))) rfl (ih23 (j + 1) (s2) (by omega) (by omega) (hNX))
                · skip
                  have hNX := hJ.set (v := s ((i : Int) * 10 + k) + s2 (k * 10 + (j : Int))) hs hn.2 hk (by omega) c4 (by omega) c33 (by unfold nx mn; rw [ekj, if_pos (by omega)])
                  refine tw_aload_n X dX2_goOver_70 1 rfl rfl ?_
                  refine gf_X2_9 X (v := .ref (q 1)) 0 rfl rfl dX2_goOver_71 ?_
                  refine tw_iload_n X dX2_goOver_74 4 rfl rfl ?_
                  refine tw_bipush X dX2_goOver_75 (by decide) ?_
                  refine tw_imul (z := (i : Int) * 10) X dX2_goOver_77 rfl ?_
                  refine tw_iload X dX2_goOver_78 6 rfl ?_
                  refine tw_iadd (z := ((i : Int) * 10) + (j : Int)) X dX2_goOver_80 rfl ?_
                  refine tw_iload X dX2_goOver_81 0 rfl ?_
                  refine tw_iast X (N := 100) (f := s2) (ws' := wY cy q (ups s2 (((i : Int) * 10) + (j : Int)) ((s ((i : Int) * 10 + k)) + (s2 ((k * 10) + (j : Int)))))) 1 rfl (by decide) (by omega) dX2_goOver_83 rfl ?_
                  refine tw_aload_n X dX2_goOver_84 1 rfl rfl ?_
                  refine gf_X2_9 X (v := .ref (q 1)) 0 rfl rfl dX2_goOver_85 ?_
                  refine tw_iload X dX2_goOver_88 6 rfl ?_
                  refine tw_bipush X dX2_goOver_90 (by decide) ?_
                  refine tw_imul (z := (j : Int) * 10) X dX2_goOver_92 rfl ?_
                  refine tw_iload_n X dX2_goOver_93 4 rfl rfl ?_
                  refine tw_iadd (z := ((j : Int) * 10) + (i : Int)) X dX2_goOver_94 rfl ?_
                  refine tw_iload X dX2_goOver_95 0 rfl ?_
                  refine tw_iast X (N := 100) (f := (ups s2 (((i : Int) * 10) + (j : Int)) ((s ((i : Int) * 10 + k)) + (s2 ((k * 10) + (j : Int)))))) (ws' := wY cy q (ups (ups s2 (((i : Int) * 10) + (j : Int)) ((s ((i : Int) * 10 + k)) + (s2 ((k * 10) + (j : Int))))) (((j : Int) * 10) + (i : Int)) ((s ((i : Int) * 10 + k)) + (s2 ((k * 10) + (j : Int)))))) 1 rfl (by decide) (by omega) dX2_goOver_97 rfl ?_
                  refine tw_iinc (q := 6) (x := (j : Int)) (y := (j : Int) + 1) (lv' := [(5, .int (enc ((j : Int) + 1))), (6, .int (enc ((s ((i : Int) * 10 + k)) + (s2 ((k * 10) + (j : Int)))))), (0, .ref (q 0)), (1, .int (enc (k))), (2, .int (enc (n))), (3, .int (enc ((i : Int)))), (4, .int (enc (s ((i : Int) * 10 + k))))]) X dX2_goOver_98 rfl rfl (by decide) rfl ?_
                  refine tw_goto (tgt := 23) X dX2_goOver_101 (by decide) ?_
                  refine Tsub (lv' := [(0, .ref (q 0)), (1, .int (enc (k))), (2, .int (enc (n))), (3, .int (enc ((i : Int)))), (4, .int (enc (s ((i : Int) * 10 + k)))), (5, .int (enc ((j : Int) + 1)))]) [2, 3, 4, 5, 6, 0] rfl ?_
                  refine Teq (ws' := wY cy q ((ups (ups s2 (((i : Int) * 10) + (j : Int)) ((s ((i : Int) * 10 + k)) + (s2 ((k * 10) + (j : Int))))) (((j : Int) * 10) + (i : Int)) ((s ((i : Int) * 10 + k)) + (s2 ((k * 10) + (j : Int))))))) (lv' := [(0, .ref (q 0)), (1, .int (enc (k))), (2, .int (enc (n))), (3, .int (enc ((i : Int)))), (4, .int (enc (s ((i : Int) * 10 + k)))), (5, .int (enc (((j + 1 : Nat) : Int))))]) (st' := []) (rfl) (lvk (lvk (lvk (lvk (lvk (lvc (i_succ j) (rfl))))))) rfl (ih23 (j + 1) ((ups (ups s2 (((i : Int) * 10) + (j : Int)) ((s ((i : Int) * 10 + k)) + (s2 ((k * 10) + (j : Int))))) (((j : Int) * 10) + (i : Int)) ((s ((i : Int) * 10 + k)) + (s2 ((k * 10) + (j : Int)))))) (by omega) (by omega) (hNX))
        refine Tsub (lv' := [(0, .ref (q 0)), (1, .int (enc (k))), (2, .int (enc (n))), (3, .int (enc ((i : Int)))), (4, .int (enc (s1 (((i : Int) * 10) + k)))), (5, .int (enc (0)))]) [2, 3, 4, 5, 1, 0] rfl ?_
        refine Teq (ws' := wY cy q (s1)) (lv' := [(0, .ref (q 0)), (1, .int (enc (k))), (2, .int (enc (n))), (3, .int (enc ((i : Int)))), (4, .int (enc (s ((i : Int) * 10 + k)))), (5, .int (enc (((0 : Nat) : Int))))]) (st' := []) (rfl) (lvk (lvk (lvk (lvk (lvc ((hI.kj hs hk (b := (i : Int)) (by omega) c4).2) (lvk (rfl))))))) rfl (L23 ((i : Int) + 1).toNat 0 (s1) (by omega) (by omega) (hI))
  refine Tsub (lv' := [(0, .ref (q 0)), (1, .int (enc (k))), (2, .int (enc (n))), (3, .int (enc (1)))]) [1, 2, 3, 0] rfl ?_
  refine Teq (ws' := wY cy q (s)) (lv' := [(0, .ref (q 0)), (1, .int (enc (k))), (2, .int (enc (n))), (3, .int (enc (((1 : Nat) : Int))))]) (st' := []) (rfl) (rfl) rfl (L2 (n + 1 + 1).toNat 1 (s) (by omega) (by omega) (by omega) (GI.zero n k s))
set_option maxRecDepth 100000 in
set_option maxHeartbeats 4000000 in
theorem m_X2_sumOrNone {G : va_G} {cy : ClassId} {q : Nat → Nat} (s : Int → Int) (a b : Int) (ha : 0 ≤ a ∧ a < 10) (hb : 0 ≤ b ∧ b < 10) (hs : 0 ≤ s (a * 10 + b) ∧ s (a * 10 + b) ≤ 1000000) : Ct G cy yX2_sumOrNone cX2_sumOrNone 4 (some .int) ({ frames := 0, cells := 0, slots := 0, locals := 0 } : Room) 0 0 [.ref (q 0), .int (enc (a)), .int (enc (b))] (wY cy q s) (fun v w1 => v = some (.int (enc (if s (a * 10 + b) < 1000000 then s (a * 10 + b) else -1))) ∧ w1 = wY cy q s) := by
  refine Ct.ofI (by decide) (Nat.le_of_ble_eq_true rfl) rfl rfl (fun _ _ _ => rfl) ?_
  intro c X ret
  refine Tlv (lv' := [(0, .ref (q 0)), (1, .int (enc (a))), (2, .int (enc (b)))]) rfl ?_
  refine tw_aload_n X dX2_sumOrNone_0 0 rfl rfl ?_
  refine gf_X2_9 X (v := .ref (q 1)) 0 rfl rfl dX2_sumOrNone_1 ?_
  refine tw_iload_n X dX2_sumOrNone_4 1 rfl rfl ?_
  refine tw_bipush X dX2_sumOrNone_5 (by decide) ?_
  refine tw_imul (z := a * 10) X dX2_sumOrNone_7 rfl ?_
  refine tw_iload_n X dX2_sumOrNone_8 2 rfl rfl ?_
  refine tw_iadd (z := (a * 10) + b) X dX2_sumOrNone_9 rfl ?_
  refine tw_iald X (N := 100) (f := s) 1 rfl (by decide) (by omega) dX2_sumOrNone_10 ?_
  refine Tst (st' := [.int (enc (s ((a * 10) + b)))]) rfl ?_
  refine tw_istore_n (lv' := [(3, .int (enc (s ((a * 10) + b)))), (0, .ref (q 0)), (1, .int (enc (a))), (2, .int (enc (b)))]) X dX2_sumOrNone_11 rfl (by decide) rfl ?_
  refine tw_iload_n X dX2_sumOrNone_12 0 rfl rfl ?_
  refine tw_ldc X (z := 1000000) wk_X2_47 (by decide) dX2_sumOrNone_13 ?_
  refine tw_icmp_ge (tgt := 22) X (In_of (by omega) (by omega)) (In_of (by omega) (by omega)) dX2_sumOrNone_15 (by decide) (fun c15 => ?_) (fun c15 => ?_)
  · skip
    refine tw_iconst X dX2_sumOrNone_22 ?_
    exact ret _ _ _ _ dX2_sumOrNone_23 ⟨by first | rw [if_pos c15] | rw [if_neg (Int.not_lt.mpr c15)], rfl⟩
  · skip
    refine tw_iload_n X dX2_sumOrNone_18 0 rfl rfl ?_
    refine tw_goto (tgt := 23) X dX2_sumOrNone_19 (by decide) ?_
    exact ret _ _ _ _ dX2_sumOrNone_23 ⟨by first | rw [if_pos c15] | rw [if_neg (Int.not_lt.mpr c15)], rfl⟩
-- none: X2 countParted
-- none: X2 copyFrom
set_option maxRecDepth 100000 in
set_option maxHeartbeats 4000000 in
theorem m_X2_find {G : va_G} {cy : ClassId} {q : Nat → Nat} (M : MT) (s : Int → Int) (ob : Bool) (hW : WFR M) (hB : Bd M) : Ct G cy yX2_find cX2_find 7 none ({ frames := 1, cells := 0, slots := 0, locals := 26 } : Room) 0 0 [.ref (q 8), .ref (q 0), .int (enc (M 19 0)), .int (enc (if ob = true then 1 else 0))] (wR cy q M ++ wY cy (fun i => q (8 + i)) s) (fun v w1 => v = none ∧ ∃ s', Stg M ob (M 19 0) (M 19 0) s' ∧ w1 = wR cy q M ++ wY cy (fun i => q (8 + i)) s') := by
  refine Ct.ofV (by decide) (Nat.le_of_ble_eq_true rfl) rfl rfl ?_
  intro c X ret
  obtain ⟨w0, w1, w2, w3, w4⟩ := id hW
  refine Tlv (lv' := [(0, .ref (q 8)), (1, .ref (q 0)), (2, .int (enc (M 19 0))), (3, .int (enc (if ob = true then 1 else 0)))]) rfl ?_
  refine tw_aload_n X dX2_find_0 0 rfl rfl ?_
  refine tw_callV X (As := []) (st := []) vw_X2_21 (m_X2_clear (q := (fun i => q (8 + i))) s) ((wR cy q M)) ([]) rfl rfl (q0 := 0) rfl rfl rfl ⟨rfl, rfl, Nat.le_of_ble_eq_true rfl, Nat.le_of_ble_eq_true rfl⟩ ⟨Nat.le_of_ble_eq_true rfl, Nat.le_of_ble_eq_true rfl⟩ (Nat.le_of_ble_eq_true rfl) dX2_find_1 (fun v w1 hp => ?_)
  obtain ⟨rfl, sc, hsc, rfl⟩ := hp
  refine Teq (ws' := wR cy q M ++ wY cy (fun i => q (8 + i)) sc) (lv' := [(0, .ref (q 8)), (1, .ref (q 0)), (2, .int (enc (M 19 0))), (3, .int (enc (if ob = true then 1 else 0)))]) (st' := []) rfl rfl rfl ?_
  refine tw_iconst X dX2_find_4 ?_
  refine tw_istore (lv' := [(4, .int (enc (0))), (0, .ref (q 8)), (1, .ref (q 0)), (2, .int (enc (M 19 0))), (3, .int (enc (if ob = true then 1 else 0)))]) X dX2_find_5 (by decide) rfl ?_
  have L7 : ∀ (fu i : Nat) (s1 : Int → Int), (i : Int) ≤ M 16 0 → M 16 0 + 1 ≤ (i : Int) + fu → RI M ob (M 19 0) (i : Int) s1 → T G c ({ frames := 1, cells := 0, slots := 0, locals := 26 } : Room) 7 0 0 (wR cy q M ++ wY cy (fun i => q (8 + i)) s1) 7 [(0, .ref (q 8)), (1, .ref (q 0)), (2, .int (enc (M 19 0))), (3, .int (enc (if ob = true then 1 else 0))), (4, .int (enc ((i : Int))))] [] := by
    intro fu
    induction fu with
    | zero =>
      intro i s1 hi0 hi1
      exact absurd hi1 (by omega)
    | succ fu ih7 =>
      intro i s1 hi0_7 hi1_7 hI
      refine tw_iload X dX2_find_7 4 rfl ?_
      refine tw_aload_n X dX2_find_9 1 rfl rfl ?_
      refine gf_X2_24 X (v := .int (enc (M 16 0))) 0 rfl rfl dX2_find_10 ?_
      have b1 := hB 16 0
      refine tw_icmp_ge (tgt := 110) X (In_of (by omega) (by omega)) (In_of (by omega) (by omega)) dX2_find_13 (by decide) (fun c13 => ?_) (fun c13 => ?_)
      · skip
        refine tw_iconst X dX2_find_110 ?_
        refine tw_istore (lv' := [(4, .int (enc (0))), (0, .ref (q 8)), (1, .ref (q 0)), (2, .int (enc (M 19 0))), (3, .int (enc (if ob = true then 1 else 0)))]) X dX2_find_111 (by decide) rfl ?_
        have L113 : ∀ (fu k : Nat) (s2 : Int → Int), (k : Int) ≤ M 19 0 → M 19 0 + 1 ≤ (k : Int) + fu → Stg M ob (M 19 0) (k : Int) s2 → T G c ({ frames := 1, cells := 0, slots := 0, locals := 26 } : Room) 7 0 0 (wR cy q M ++ wY cy (fun i => q (8 + i)) s2) 113 [(0, .ref (q 8)), (1, .ref (q 0)), (2, .int (enc (M 19 0))), (3, .int (enc (if ob = true then 1 else 0))), (4, .int (enc ((k : Int))))] [] := by
          intro fu
          induction fu with
          | zero =>
            intro k s2 hi0 hi1
            exact absurd hi1 (by omega)
          | succ fu ih113 =>
            intro k s2 hi0_113 hi1_113 hK
            refine tw_iload X dX2_find_113 4 rfl ?_
            refine tw_iload_n X dX2_find_115 2 rfl rfl ?_
            refine tw_icmp_ge (tgt := 132) X (In_of (by omega) (by omega)) (In_of (by omega) (by omega)) dX2_find_116 (by decide) (fun c116 => ?_) (fun c116 => ?_)
            · skip
              exact ret _ _ _ dX2_find_132 ⟨rfl, s2, by rw [show (M 19 0) = (k : Int) by omega] at hK ⊢; exact hK, rfl⟩
            · skip
              refine tw_aload_n X dX2_find_119 0 rfl rfl ?_
              refine tw_iload X dX2_find_120 4 rfl ?_
              refine tw_iload_n X dX2_find_122 2 rfl rfl ?_
              refine tw_callV X (As := [.int (enc ((k : Int))), .int (enc (M 19 0))]) (st := []) vw_X2_43 (m_X2_goOver (q := (fun i => q (8 + i))) s2 ((k : Int)) (M 19 0) (by omega) ⟨by omega, c116⟩ hK.symT) ((wR cy q M)) ([]) rfl rfl (q0 := 0) rfl rfl rfl ⟨rfl, rfl, Nat.le_of_ble_eq_true rfl, Nat.le_of_ble_eq_true rfl⟩ ⟨Nat.le_of_ble_eq_true rfl, Nat.le_of_ble_eq_true rfl⟩ (Nat.le_of_ble_eq_true rfl) dX2_find_123 (fun v w1 hp => ?_)
              obtain ⟨rfl, sg, hsg, rfl⟩ := hp
              refine Teq (ws' := wR cy q M ++ wY cy (fun i => q (8 + i)) sg) (lv' := [(0, .ref (q 8)), (1, .ref (q 0)), (2, .int (enc (M 19 0))), (3, .int (enc (if ob = true then 1 else 0))), (4, .int (enc ((k : Int))))]) (st' := []) rfl rfl rfl ?_
              refine tw_iinc (q := 4) (x := (k : Int)) (y := (k : Int) + 1) (lv' := [(4, .int (enc ((k : Int) + 1))), (0, .ref (q 8)), (1, .ref (q 0)), (2, .int (enc (M 19 0))), (3, .int (enc (if ob = true then 1 else 0)))]) X dX2_find_126 rfl rfl (by decide) rfl ?_
              refine tw_goto (tgt := 113) X dX2_find_129 (by decide) ?_
              refine Tsub (lv' := [(0, .ref (q 8)), (1, .ref (q 0)), (2, .int (enc (M 19 0))), (3, .int (enc (if ob = true then 1 else 0))), (4, .int (enc ((k : Int) + 1)))]) [1, 2, 3, 4, 0] rfl ?_
              refine Teq (ws' := wR cy q M ++ wY cy (fun i => q (8 + i)) (sg)) (lv' := [(0, .ref (q 8)), (1, .ref (q 0)), (2, .int (enc (M 19 0))), (3, .int (enc (if ob = true then 1 else 0))), (4, .int (enc (((k + 1 : Nat) : Int))))]) (st' := []) (rfl) (lvk (lvk (lvk (lvk (lvc (i_succ k) (rfl)))))) rfl (ih113 (k + 1) (sg) (by omega) (by omega) (hK.next hW rfl ⟨by omega, c116⟩ hsg))
        refine Tsub (lv' := [(0, .ref (q 8)), (1, .ref (q 0)), (2, .int (enc (M 19 0))), (3, .int (enc (if ob = true then 1 else 0))), (4, .int (enc (0)))]) [1, 2, 3, 4, 0] rfl ?_
        refine Teq (ws' := wR cy q M ++ wY cy (fun i => q (8 + i)) (s1)) (lv' := [(0, .ref (q 8)), (1, .ref (q 0)), (2, .int (enc (M 19 0))), (3, .int (enc (if ob = true then 1 else 0))), (4, .int (enc (((0 : Nat) : Int))))]) (st' := []) (rfl) (rfl) rfl (L113 (M 19 0 + 1).toNat 0 (s1) (by omega) (by omega) (RI.stg (by rw [show M 16 0 = (i : Int) by omega]; exact hI)))
      · skip
        have gi := w4 (i : Int) (by omega) c13
        have gl := hW.ln (r := (i : Int)) (by omega) c13
        have ga := hI.1 (M 0 (i : Int)) (M 1 (i : Int)) (by omega) (by omega) (by omega) (by omega)
        refine tw_aload_n X dX2_find_16 1 rfl rfl ?_
        refine gf_X2_30 X (v := .ref (q 1)) 0 rfl rfl dX2_find_17 ?_
        refine tw_iload X dX2_find_20 4 rfl ?_
        refine tw_iald X (N := 20) (f := (M 0)) 1 rfl (by decide) (by omega) dX2_find_22 ?_
        refine Tst (st' := [.int (enc (M 0 (i : Int)))]) rfl ?_
        have b2 := hB 0 (i : Int)
        refine tw_bipush X dX2_find_23 (by decide) ?_
        refine tw_imul (z := (M 0 (i : Int)) * 10) X dX2_find_25 rfl ?_
        refine tw_aload_n X dX2_find_26 1 rfl rfl ?_
        refine gf_X2_33 X (v := .ref (q 2)) 0 rfl rfl dX2_find_27 ?_
        refine tw_iload X dX2_find_30 4 rfl ?_
        refine tw_iald X (N := 20) (f := (M 1)) 2 rfl (by decide) (by omega) dX2_find_32 ?_
        refine Tst (st' := [.int (enc (M 1 (i : Int))), .int (enc ((M 0 (i : Int)) * 10))]) rfl ?_
        have b3 := hB 1 (i : Int)
        refine tw_iadd (z := ((M 0 (i : Int)) * 10) + (M 1 (i : Int))) X dX2_find_33 rfl ?_
        refine tw_istore (lv' := [(5, .int (enc (((M 0 (i : Int)) * 10) + (M 1 (i : Int))))), (0, .ref (q 8)), (1, .ref (q 0)), (2, .int (enc (M 19 0))), (3, .int (enc (if ob = true then 1 else 0))), (4, .int (enc ((i : Int))))]) X dX2_find_34 (by decide) rfl ?_
        refine tw_aload_n X dX2_find_36 2 rfl rfl ?_
        refine tw_iload X dX2_find_37 5 rfl ?_
        refine tw_callV X (As := [.int (enc ((i : Int)))]) (st := []) vw_X2_36 (m_X0_lengthNow (q := q) M ((i : Int)) (by omega)) ([]) ((wY cy (fun i => q (8 + i)) s1)) rfl rfl (q0 := 0) rfl rfl rfl ⟨rfl, rfl, Nat.le_of_ble_eq_true rfl, Nat.le_of_ble_eq_true rfl⟩ ⟨Nat.le_of_ble_eq_true rfl, Nat.le_of_ble_eq_true rfl⟩ (Nat.le_of_ble_eq_true rfl) dX2_find_39 (fun v w1 hp => ?_)
        obtain ⟨rfl, rfl⟩ := hp
        refine Teq (ws' := wR cy q M ++ wY cy (fun i => q (8 + i)) s1) (lv' := [(5, .int (enc (((M 0 (i : Int)) * 10) + (M 1 (i : Int))))), (0, .ref (q 8)), (1, .ref (q 0)), (2, .int (enc (M 19 0))), (3, .int (enc (if ob = true then 1 else 0))), (4, .int (enc ((i : Int))))]) (st' := [.int (enc (len M (i : Int)))]) rfl rfl rfl ?_
        refine tw_istore (lv' := [(6, .int (enc (len M (i : Int)))), (5, .int (enc (((M 0 (i : Int)) * 10) + (M 1 (i : Int))))), (0, .ref (q 8)), (1, .ref (q 0)), (2, .int (enc (M 19 0))), (3, .int (enc (if ob = true then 1 else 0))), (4, .int (enc ((i : Int))))]) X dX2_find_42 (by decide) rfl ?_
        refine tw_iload X dX2_find_44 0 rfl ?_
        refine tw_aload_n X dX2_find_46 2 rfl rfl ?_
        refine gf_X2_9 X (v := .ref (q 9)) 8 rfl rfl dX2_find_47 ?_
        refine tw_iload X dX2_find_50 1 rfl ?_
        refine tw_iald X (N := 100) (f := s1) 9 rfl (by decide) (by omega) dX2_find_52 ?_
        refine Tst (st' := [.int (enc (s1 (((M 0 (i : Int)) * 10) + (M 1 (i : Int))))), .int (enc (len M (i : Int)))]) rfl ?_
        refine tw_icmp_ge (tgt := 104) X (In_of (by omega) (by omega)) (In_of (by omega) (by omega)) dX2_find_53 (by decide) (fun c53 => ?_) (fun c53 => ?_)
        · skip
          have hNX : RI M ob (M 19 0) ((i : Int) + 1) s1 := hI.keep hW rfl (fun _ => c53)
          refine tw_iinc (q := 6) (x := (i : Int)) (y := (i : Int) + 1) (lv' := [(4, .int (enc ((i : Int) + 1))), (6, .int (enc (len M (i : Int)))), (5, .int (enc (((M 0 (i : Int)) * 10) + (M 1 (i : Int))))), (0, .ref (q 8)), (1, .ref (q 0)), (2, .int (enc (M 19 0))), (3, .int (enc (if ob = true then 1 else 0)))]) X dX2_find_104 rfl rfl (by decide) rfl ?_
          refine tw_goto (tgt := 7) X dX2_find_107 (by decide) ?_
          refine Tsub (lv' := [(0, .ref (q 8)), (1, .ref (q 0)), (2, .int (enc (M 19 0))), (3, .int (enc (if ob = true then 1 else 0))), (4, .int (enc ((i : Int) + 1)))]) [3, 4, 5, 6, 0] rfl ?_
          refine Teq (ws' := wR cy q M ++ wY cy (fun i => q (8 + i)) (s1)) (lv' := [(0, .ref (q 8)), (1, .ref (q 0)), (2, .int (enc (M 19 0))), (3, .int (enc (if ob = true then 1 else 0))), (4, .int (enc (((i + 1 : Nat) : Int))))]) (st' := []) (rfl) (lvk (lvk (lvk (lvk (lvc (i_succ i) (rfl)))))) rfl (ih7 (i + 1) (s1) (by omega) (by omega) (hNX))
        · skip
          refine tw_iload_n X dX2_find_56 5 rfl rfl ?_
          refine tw_if_eq (tgt := 70) X In_b dX2_find_57 (by decide) (fun c57 => ?_) (fun c57 => ?_)
          · skip
            have c57 := b01.mp c57
            have hu : usable M ob (i : Int) := ⟨by omega, c13, fun z => absurd z c57⟩
            have hNX := hI.set hW rfl hu c53
            refine tw_aload_n X dX2_find_70 2 rfl rfl ?_
            refine gf_X2_9 X (v := .ref (q 9)) 8 rfl rfl dX2_find_71 ?_
            refine tw_iload X dX2_find_74 1 rfl ?_
            refine tw_iload X dX2_find_76 0 rfl ?_
            refine tw_iast X (N := 100) (f := s1) (ws' := wR cy q M ++ wY cy (fun i => q (8 + i)) (ups s1 (((M 0 (i : Int)) * 10) + (M 1 (i : Int))) (len M (i : Int)))) 9 rfl (by decide) (by omega) dX2_find_78 rfl ?_
            refine tw_aload_n X dX2_find_79 2 rfl rfl ?_
            refine gf_X2_9 X (v := .ref (q 9)) 8 rfl rfl dX2_find_80 ?_
            refine tw_aload_n X dX2_find_83 3 rfl rfl ?_
            refine gf_X2_33 X (v := .ref (q 2)) 0 rfl rfl dX2_find_84 ?_
            refine tw_iload X dX2_find_87 6 rfl ?_
            refine tw_iald X (N := 20) (f := (M 1)) 2 rfl (by decide) (by omega) dX2_find_89 ?_
            refine Tst (st' := [.int (enc (M 1 (i : Int))), .ref (q 9)]) rfl ?_
            have b4 := hB 1 (i : Int)
            refine tw_bipush X dX2_find_90 (by decide) ?_
            refine tw_imul (z := (M 1 (i : Int)) * 10) X dX2_find_92 rfl ?_
            refine tw_aload_n X dX2_find_93 3 rfl rfl ?_
            refine gf_X2_30 X (v := .ref (q 1)) 0 rfl rfl dX2_find_94 ?_
            refine tw_iload X dX2_find_97 6 rfl ?_
            refine tw_iald X (N := 20) (f := (M 0)) 1 rfl (by decide) (by omega) dX2_find_99 ?_
            refine Tst (st' := [.int (enc (M 0 (i : Int))), .int (enc ((M 1 (i : Int)) * 10)), .ref (q 9)]) rfl ?_
            have b5 := hB 0 (i : Int)
            refine tw_iadd (z := ((M 1 (i : Int)) * 10) + (M 0 (i : Int))) X dX2_find_100 rfl ?_
            refine tw_iload X dX2_find_101 0 rfl ?_
            refine tw_iast X (N := 100) (f := (ups s1 (((M 0 (i : Int)) * 10) + (M 1 (i : Int))) (len M (i : Int)))) (ws' := wR cy q M ++ wY cy (fun i => q (8 + i)) (ups (ups s1 (((M 0 (i : Int)) * 10) + (M 1 (i : Int))) (len M (i : Int))) (((M 1 (i : Int)) * 10) + (M 0 (i : Int))) (len M (i : Int)))) 9 rfl (by decide) (by omega) dX2_find_103 rfl ?_
            refine tw_iinc (q := 6) (x := (i : Int)) (y := (i : Int) + 1) (lv' := [(4, .int (enc ((i : Int) + 1))), (6, .int (enc (len M (i : Int)))), (5, .int (enc (((M 0 (i : Int)) * 10) + (M 1 (i : Int))))), (0, .ref (q 8)), (1, .ref (q 0)), (2, .int (enc (M 19 0))), (3, .int (enc (if ob = true then 1 else 0)))]) X dX2_find_104 rfl rfl (by decide) rfl ?_
            refine tw_goto (tgt := 7) X dX2_find_107 (by decide) ?_
            refine Tsub (lv' := [(0, .ref (q 8)), (1, .ref (q 0)), (2, .int (enc (M 19 0))), (3, .int (enc (if ob = true then 1 else 0))), (4, .int (enc ((i : Int) + 1)))]) [3, 4, 5, 6, 0] rfl ?_
            refine Teq (ws' := wR cy q M ++ wY cy (fun i => q (8 + i)) ((ups (ups s1 (((M 0 (i : Int)) * 10) + (M 1 (i : Int))) (len M (i : Int))) (((M 1 (i : Int)) * 10) + (M 0 (i : Int))) (len M (i : Int))))) (lv' := [(0, .ref (q 8)), (1, .ref (q 0)), (2, .int (enc (M 19 0))), (3, .int (enc (if ob = true then 1 else 0))), (4, .int (enc (((i + 1 : Nat) : Int))))]) (st' := []) (rfl) (lvk (lvk (lvk (lvk (lvc (i_succ i) (rfl)))))) rfl (ih7 (i + 1) ((ups (ups s1 (((M 0 (i : Int)) * 10) + (M 1 (i : Int))) (len M (i : Int))) (((M 1 (i : Int)) * 10) + (M 0 (i : Int))) (len M (i : Int)))) (by omega) (by omega) (hNX))
          · skip
            have c57 := b01n.mp c57
            refine tw_aload_n X dX2_find_60 3 rfl rfl ?_
            refine gf_X2_40 X (v := .ref (q 7)) 0 rfl rfl dX2_find_61 ?_
            refine tw_iload X dX2_find_64 6 rfl ?_
            refine tw_iald X (N := 20) (f := (M 6)) 7 rfl (by decide) (by omega) dX2_find_66 ?_
            refine Tst (st' := [.int (enc (M 6 (i : Int)))]) rfl ?_
            have b6 := hB 6 (i : Int)
            refine tw_if_ne (tgt := 104) X (In_of (by omega) (by omega)) dX2_find_67 (by decide) (fun c67 => ?_) (fun c67 => ?_)
            · skip
              have hNX : RI M ob (M 19 0) ((i : Int) + 1) s1 := hI.keep hW rfl (fun hu => absurd (hu.2.2 c57) c67)
              refine tw_iinc (q := 6) (x := (i : Int)) (y := (i : Int) + 1) (lv' := [(4, .int (enc ((i : Int) + 1))), (6, .int (enc (len M (i : Int)))), (5, .int (enc (((M 0 (i : Int)) * 10) + (M 1 (i : Int))))), (0, .ref (q 8)), (1, .ref (q 0)), (2, .int (enc (M 19 0))), (3, .int (enc (if ob = true then 1 else 0)))]) X dX2_find_104 rfl rfl (by decide) rfl ?_
              refine tw_goto (tgt := 7) X dX2_find_107 (by decide) ?_
              refine Tsub (lv' := [(0, .ref (q 8)), (1, .ref (q 0)), (2, .int (enc (M 19 0))), (3, .int (enc (if ob = true then 1 else 0))), (4, .int (enc ((i : Int) + 1)))]) [3, 4, 5, 6, 0] rfl ?_
              refine Teq (ws' := wR cy q M ++ wY cy (fun i => q (8 + i)) (s1)) (lv' := [(0, .ref (q 8)), (1, .ref (q 0)), (2, .int (enc (M 19 0))), (3, .int (enc (if ob = true then 1 else 0))), (4, .int (enc (((i + 1 : Nat) : Int))))]) (st' := []) (rfl) (lvk (lvk (lvk (lvk (lvc (i_succ i) (rfl)))))) rfl (ih7 (i + 1) (s1) (by omega) (by omega) (hNX))
            · skip
              have hu : usable M ob (i : Int) := ⟨by omega, c13, fun _ => c67⟩
              have hNX := hI.set hW rfl hu c53
              refine tw_aload_n X dX2_find_70 2 rfl rfl ?_
              refine gf_X2_9 X (v := .ref (q 9)) 8 rfl rfl dX2_find_71 ?_
              refine tw_iload X dX2_find_74 1 rfl ?_
              refine tw_iload X dX2_find_76 0 rfl ?_
              refine tw_iast X (N := 100) (f := s1) (ws' := wR cy q M ++ wY cy (fun i => q (8 + i)) (ups s1 (((M 0 (i : Int)) * 10) + (M 1 (i : Int))) (len M (i : Int)))) 9 rfl (by decide) (by omega) dX2_find_78 rfl ?_
              refine tw_aload_n X dX2_find_79 2 rfl rfl ?_
              refine gf_X2_9 X (v := .ref (q 9)) 8 rfl rfl dX2_find_80 ?_
              refine tw_aload_n X dX2_find_83 3 rfl rfl ?_
              refine gf_X2_33 X (v := .ref (q 2)) 0 rfl rfl dX2_find_84 ?_
              refine tw_iload X dX2_find_87 6 rfl ?_
              refine tw_iald X (N := 20) (f := (M 1)) 2 rfl (by decide) (by omega) dX2_find_89 ?_
              refine Tst (st' := [.int (enc (M 1 (i : Int))), .ref (q 9)]) rfl ?_
              have b7 := hB 1 (i : Int)
              refine tw_bipush X dX2_find_90 (by decide) ?_
              refine tw_imul (z := (M 1 (i : Int)) * 10) X dX2_find_92 rfl ?_
              refine tw_aload_n X dX2_find_93 3 rfl rfl ?_
              refine gf_X2_30 X (v := .ref (q 1)) 0 rfl rfl dX2_find_94 ?_
              refine tw_iload X dX2_find_97 6 rfl ?_
              refine tw_iald X (N := 20) (f := (M 0)) 1 rfl (by decide) (by omega) dX2_find_99 ?_
              refine Tst (st' := [.int (enc (M 0 (i : Int))), .int (enc ((M 1 (i : Int)) * 10)), .ref (q 9)]) rfl ?_
              have b8 := hB 0 (i : Int)
              refine tw_iadd (z := ((M 1 (i : Int)) * 10) + (M 0 (i : Int))) X dX2_find_100 rfl ?_
              refine tw_iload X dX2_find_101 0 rfl ?_
              refine tw_iast X (N := 100) (f := (ups s1 (((M 0 (i : Int)) * 10) + (M 1 (i : Int))) (len M (i : Int)))) (ws' := wR cy q M ++ wY cy (fun i => q (8 + i)) (ups (ups s1 (((M 0 (i : Int)) * 10) + (M 1 (i : Int))) (len M (i : Int))) (((M 1 (i : Int)) * 10) + (M 0 (i : Int))) (len M (i : Int)))) 9 rfl (by decide) (by omega) dX2_find_103 rfl ?_
              refine tw_iinc (q := 6) (x := (i : Int)) (y := (i : Int) + 1) (lv' := [(4, .int (enc ((i : Int) + 1))), (6, .int (enc (len M (i : Int)))), (5, .int (enc (((M 0 (i : Int)) * 10) + (M 1 (i : Int))))), (0, .ref (q 8)), (1, .ref (q 0)), (2, .int (enc (M 19 0))), (3, .int (enc (if ob = true then 1 else 0)))]) X dX2_find_104 rfl rfl (by decide) rfl ?_
              refine tw_goto (tgt := 7) X dX2_find_107 (by decide) ?_
              refine Tsub (lv' := [(0, .ref (q 8)), (1, .ref (q 0)), (2, .int (enc (M 19 0))), (3, .int (enc (if ob = true then 1 else 0))), (4, .int (enc ((i : Int) + 1)))]) [3, 4, 5, 6, 0] rfl ?_
              refine Teq (ws' := wR cy q M ++ wY cy (fun i => q (8 + i)) ((ups (ups s1 (((M 0 (i : Int)) * 10) + (M 1 (i : Int))) (len M (i : Int))) (((M 1 (i : Int)) * 10) + (M 0 (i : Int))) (len M (i : Int))))) (lv' := [(0, .ref (q 8)), (1, .ref (q 0)), (2, .int (enc (M 19 0))), (3, .int (enc (if ob = true then 1 else 0))), (4, .int (enc (((i + 1 : Nat) : Int))))]) (st' := []) (rfl) (lvk (lvk (lvk (lvk (lvc (i_succ i) (rfl)))))) rfl (ih7 (i + 1) ((ups (ups s1 (((M 0 (i : Int)) * 10) + (M 1 (i : Int))) (len M (i : Int))) (((M 1 (i : Int)) * 10) + (M 0 (i : Int))) (len M (i : Int)))) (by omega) (by omega) (hNX))
  refine Tsub (lv' := [(0, .ref (q 8)), (1, .ref (q 0)), (2, .int (enc (M 19 0))), (3, .int (enc (if ob = true then 1 else 0))), (4, .int (enc (0)))]) [1, 2, 3, 4, 0] rfl ?_
  refine Teq (ws' := wR cy q M ++ wY cy (fun i => q (8 + i)) (sc)) (lv' := [(0, .ref (q 8)), (1, .ref (q 0)), (2, .int (enc (M 19 0))), (3, .int (enc (if ob = true then 1 else 0))), (4, .int (enc (((0 : Nat) : Int))))]) (st' := []) (rfl) (rfl) rfl (L7 (M 16 0 + 1).toNat 0 (sc) (by omega) (by omega) (RI.zero (by omega) hsc))
