/-! THE STATE. M : field → index → Int. Fields: 0 one, 1 other, 2 firstLength, 3 dye (roads), 4 wear, 5 knots, 6 closed; 7 place, 8 road, 9 end, 10 toGo, 11 goal, 12 dye (tourists), 13 began, 14 shortest, 15 took; single numbers (index 0): 16 roads, 17 tourists, 18 in, 19 crossings, 20 hour -/
abbrev MT : Type := Nat → Int → Int
def up (M : MT) (k : Nat) (i v : Int) : MT := fun k' => cond (Nat.beq k' k) (ups (M k) i v) (M k')
def upc (M : MT) (k : Nat) (v : Int) : MT := fun k' => cond (Nat.beq k' k) (fun _ => v) (M k')
theorem up_eq (M : MT) (k : Nat) (i v : Int) (k' : Nat) (j : Int) : up M k i v k' j = if k' = k ∧ j = i then v else M k' j := by
  unfold up
  by_cases h : k' = k
  · subst h
    rw [show Nat.beq k' k' = true from Nat.beq_refl k']
    show ups (M k') i v j = _
    unfold ups
    by_cases hj : j = i
    · rw [if_pos hj, if_pos ⟨rfl, hj⟩]
    · rw [if_neg hj, if_neg (fun q => hj q.2)]
  · rw [show Nat.beq k' k = false from by rw [← Bool.not_eq_true]; exact fun q => h (Nat.eq_of_beq_eq_true q), if_neg (fun q => h q.1)]
    rfl
theorem up_same (M : MT) (k : Nat) (i v : Int) : up M k i v k i = v := by rw [up_eq, if_pos ⟨rfl, rfl⟩]
theorem upc_eq (M : MT) (k : Nat) (v : Int) (k' : Nat) (j : Int) : upc M k v k' j = if k' = k then v else M k' j := by
  unfold upc
  by_cases h : k' = k
  · subst h
    rw [show Nat.beq k' k' = true from Nat.beq_refl k', if_pos rfl]
    rfl
  · rw [show Nat.beq k' k = false from by rw [← Bool.not_eq_true]; exact fun q => h (Nat.eq_of_beq_eq_true q), if_neg h]
    rfl
theorem In_of {z : Int} (h1 : -2147483648 ≤ z) (h2 : z < 2147483648) : In z := ⟨h1, h2⟩
/-- all numbers are small -/
def Bd (M : MT) : Prop := ∀ (k : Nat) (j : Int), -2000000 ≤ M k j ∧ M k j ≤ 2000000
theorem Bd.up {M : MT} (h : Bd M) {k : Nat} {i v : Int} (hv : -2000000 ≤ v ∧ v ≤ 2000000) : Bd (up M k i v) := by
  intro k' j
  rw [up_eq]
  split
  · exact hv
  · exact h k' j
theorem Bd.upc {M : MT} (h : Bd M) {k : Nat} {v : Int} (hv : -2000000 ≤ v ∧ v ≤ 2000000) : Bd (upc M k v) := by
  intro k' j
  rw [upc_eq]
  split
  · exact hv
  · exact h k' j
theorem lvc {j : Nat} {a b : Int} {l l' : List (Nat × Value)} (h : a = b) (h2 : l = l') : (j, Value.int (enc a)) :: l = (j, Value.int (enc b)) :: l' := by rw [h, h2]
theorem lvk {x : Nat × Value} {l l' : List (Nat × Value)} (h2 : l = l') : x :: l = x :: l' := by rw [h2]
/-! the cells of each class's object, at the addresses q 0, q 1 .. -/
abbrev arI (cy : ClassId) (N : Nat) (f : Int → Int) : va_E := .inl (cy, N, .inl (ea f))
def wR (cy : ClassId) (q : Nat → Nat) (M : MT) : va_W := [(q 0, .inr (0, [.ref (q 1), .ref (q 2), .ref (q 3), .ref (q 4), .ref (q 5), .ref (q 6), .ref (q 7), .int (enc (M 16 0))])), (q 1, arI cy 20 (M 0)), (q 2, arI cy 20 (M 1)), (q 3, arI cy 20 (M 2)), (q 4, arI cy 20 (M 3)), (q 5, arI cy 20 (M 4)), (q 6, arI cy 20 (M 5)), (q 7, arI cy 20 (M 6))]
def wT (cy : ClassId) (q : Nat → Nat) (M : MT) : va_W := [(q 0, .inr (1, [.ref (q 1), .ref (q 2), .ref (q 3), .ref (q 4), .ref (q 5), .ref (q 6), .ref (q 7), .ref (q 8), .ref (q 9), .int (enc (M 17 0)), .int (enc (M 18 0))])), (q 1, arI cy 12 (M 7)), (q 2, arI cy 12 (M 8)), (q 3, arI cy 12 (M 9)), (q 4, arI cy 12 (M 10)), (q 5, arI cy 12 (M 11)), (q 6, arI cy 12 (M 12)), (q 7, arI cy 12 (M 13)), (q 8, arI cy 12 (M 14)), (q 9, arI cy 12 (M 15))]
def wY (cy : ClassId) (q : Nat → Nat) (s : Int → Int) : va_W := [(q 0, .inr (2, [.ref (q 1)])), (q 1, arI cy 100 s)]
def wV (cy : ClassId) (q : Nat → Nat) (M : MT) (s : Int → Int) (o : Int) : va_W := [(q 0, .inr (3, [.ref (q 1), .ref (q 9), .ref (q 19), .int (enc (M 19 0)), .int (enc (M 20 0)), .int (enc o)]))] ++ (wR cy (fun i => q (1 + i)) M ++ (wT cy (fun i => q (9 + i)) M ++ wY cy (fun i => q (19 + i)) s))
def wD (cy : ClassId) (q : Nat → Nat) (N : MT) (sN : Int → Int) (oN : Int) (U : MT) (sU : Int → Int) (oU : Int) (A : Int → Int) : va_W := [(q 0, .inr (4, [.ref (q 1), .ref (q 22), .ref (q 43)]))] ++ (wV cy (fun i => q (1 + i)) N sN oN ++ (wV cy (fun i => q (22 + i)) U sU oU ++ wY cy (fun i => q (43 + i)) A))
/-- what the model's row 'now' holds -/
def pack (M : MT) (j : Int) : Int := if j = 0 then M 20 0 else if j < 61 then (if (j - 1) % 3 = 0 then M 6 ((j - 1) / 3) else if (j - 1) % 3 = 1 then M 4 ((j - 1) / 3) else M 5 ((j - 1) / 3)) else if (j - 61) % 6 = 0 then M 7 ((j - 61) / 6) else if (j - 61) % 6 = 1 then M 8 ((j - 61) / 6) else if (j - 61) % 6 = 2 then M 10 ((j - 61) / 6) else if (j - 61) % 6 = 3 then M 12 ((j - 61) / 6) else if (j - 61) % 6 = 4 then (if M 15 ((j - 61) / 6) < 0 then -1 else M 13 ((j - 61) / 6) + M 15 ((j - 61) / 6)) else M 9 ((j - 61) / 6)
/-- the model: static parts of M, its changing row w, th: thrown, kept, far -/
def wM (cy : ClassId) (q : Nat → Nat) (M : MT) (w : Int → Int) (th : Int) (kept far : Int → Int) : va_W := [(q 0, .inr (5, [.int (enc th), .int (enc (M 19 0)), .int (enc (M 16 0)), .int (enc (M 17 0)), .ref (q 1), .ref (q 2), .ref (q 3), .ref (q 4), .ref (q 5), .ref (q 6), .ref (q 7), .ref (q 8), .ref (q 9), .ref (q 10)])), (q 1, arI cy 20 (M 0)), (q 2, arI cy 20 (M 1)), (q 3, arI cy 20 (M 2)), (q 4, arI cy 20 (M 3)), (q 5, arI cy 12 (M 11)), (q 6, arI cy 12 (M 13)), (q 7, arI cy 12 (M 14)), (q 8, arI cy 133 w), (q 9, arI cy 133 kept), (q 10, arI cy 10 far)]
theorem b01 {p : Prop} [Decidable p] : (if p then (1 : Int) else 0) = 0 ↔ ¬ p := by
  by_cases h : p
  · rw [if_pos h]; exact ⟨fun q => absurd q (by decide), fun q => absurd h q⟩
  · rw [if_neg h]; exact ⟨fun _ => h, fun _ => rfl⟩
theorem b01n {p : Prop} [Decidable p] : (if p then (1 : Int) else 0) ≠ 0 ↔ p := by
  by_cases h : p
  · rw [if_pos h]; exact ⟨fun _ => h, fun _ => by decide⟩
  · rw [if_neg h]; exact ⟨fun q => absurd rfl q, fun q => absurd q h⟩
theorem In_b {p : Prop} [Decidable p] : In (if p then (1 : Int) else 0) := by
  split <;> exact ⟨by decide, by decide⟩
theorem nar_b {p : Prop} [Decidable p] : narrow .boolean (.int (enc (if p then (1 : Int) else 0))) = .int (enc (if p then (1 : Int) else 0)) := by
  split <;> rfl
