/-! A NEW ARRAY; cells let go -/
theorem Tdrop {G : va_G} {c : Cx} {R : Room} {nL k n : Nat} {ws : va_W} {pc : Nat} {lv : List (Nat × Value)} {st : List Value} {ws' : va_W} (Z : va_W) (h : ws = ws' ++ Z) (kk : T G c R nL k n ws' pc lv st) : T G c R nL k n ws pc lv st := by
  subst h
  have g : ∀ (i : Nat) (q : Nat × va_E), ws'[i]? = some q → (ws' ++ Z)[i]? = some q := fun i q hq => by
    rw [List.getElem?_append_left (List.getElem?_eq_some_iff.mp hq).1]; exact hq
  exact Tcells (fun H hP i q hq => hP i q (g i q hq)) (fun A hD => ⟨fun i j p q hp hq e => hD.1 i j p q (g i p hp) (g j q hq) e, fun i q hq => hD.2 i q (g i q hq)⟩) kk
theorem tw_newa {G : va_G} {cy : ClassId} {c : Cx} {cc : ByteArray} {own : String} {nL : Nat} {R : Room} {k n : Nat} {ws : va_W} {pc : Nat} {lv : List (Nat × Value)} {st : List Value} (X : Ok G cy c cc own nL R) {N : Nat} {z : Int} (hz : z = N) (hN : N ≤ 1000) (hk : k + 1 ≤ R.cells) (hn : n + N ≤ R.slots) (d : decode cc pc = .ok (.newarray .int, 2))
    (kk : ∀ q : Nat, T G c R nL (k + 1) (n + N) (ws ++ [(q, arI cy N (fun _ => 0))]) (pc + 2) lv (.ref q :: st)) : T G c R nL k n ws pc lv (.int (enc z) :: st) := by
  obtain ⟨p, l, e, s, m, args, below, meth, cd, Q, A, H0⟩ := c
  obtain ⟨hx, hb, hts, hown, hml, hK, hA⟩ := X
  subst hz
  intro H locs ls hP hD hS hl
  have hIn : In (N : Int) := ⟨by omega, by omega⟩
  refine va_newa (atype := .int) (ty := .int) (N' := N) (a0 := (N, .inl (ea (fun _ => 0)))) hx hb (hts _ wy_int) rfl hK hP hD hS hA (fun cA => by rw [vp_cell_i]; rfl) ?_ ?_ ?_ hk hn d (fun q cA H1 hK1 hP1 hD1 hS1 => ?_)
  · intro h; rw [← enc_0, enc_lt hIn In0] at h; omega
  · rw [enc_nat hIn]; rfl
  · show N * 4 ≤ 536870912; omega
  · have h1 := (hK.2 0 (cy, .int) rfl).2
    have h2 := (hK1.2 3 (cA, .int) rfl).2
    have e : cA = cy := Option.some.inj (h2.symm.trans h1)
    rw [e] at hP1 hD1
    exact kk q H1 locs ls hP1 hD1 hS1 hl
