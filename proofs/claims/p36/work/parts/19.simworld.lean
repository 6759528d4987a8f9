/-! THE LAW'S OWN SIM: what its rows hold of M; g: the last column of the tourists' rows, M 9 while they are on a road -/
def colR (j : Nat) : Nat := ([0, 1, 2, 3, 6, 4, 5] : List Nat).getD j 99
def rowR (M : MT) (r : Int) : Int → Int := fun j => if 0 ≤ j ∧ j < 7 then M (colR j.toNat) r else 0
def arrT (M : MT) (t : Int) : Int := if M 15 t < 0 then -1 else M 13 t + M 15 t
def colT (j : Nat) : Nat := ([7, 8, 10, 12, 11, 13, 14] : List Nat).getD j 99
def rowT (M : MT) (g : Int → Int) (t : Int) : Int → Int := fun j => if j = 7 then arrT M t else if j = 8 then g t else if 0 ≤ j ∧ j < 7 then M (colT j.toNat) t else 0
def rowsR (cy : ClassId) (rr : Nat → Nat) (M : MT) (n : Nat) : va_W := (List.range n).map (fun r => (rr r, arI cy 7 (rowR M (r : Int))))
def rowsT (cy : ClassId) (tt : Nat → Nat) (M : MT) (g : Int → Int) (n : Nat) : va_W := (List.range n).map (fun t => (tt t, arI cy 9 (rowT M g (t : Int))))
def hdS (G : va_G) (q rr tt : Nat → Nat) (M : MT) : va_W := [(q 0, .inr (5, [.int (enc (M 20 0)), .int (enc (M 19 0)), .ref (q 1), .ref (q 2)])), (q 1, gI G (M 16 0).toNat (fun j => some (rr j))), (q 2, gI G (M 17 0).toNat (fun j => some (tt j)))]
def wS (G : va_G) (cy : ClassId) (q rr tt : Nat → Nat) (M : MT) (g : Int → Int) : va_W := hdS G q rr tt M ++ (rowsR cy rr M (M 16 0).toNat ++ rowsT cy tt M g (M 17 0).toNat)
theorem rowsR_len (cy : ClassId) (rr : Nat → Nat) (M : MT) (n : Nat) : (rowsR cy rr M n).length = n := by unfold rowsR; simp
theorem rowsT_len (cy : ClassId) (tt : Nat → Nat) (M : MT) (g : Int → Int) (n : Nat) : (rowsT cy tt M g n).length = n := by unfold rowsT; simp
theorem rowsR_at (cy : ClassId) (rr : Nat → Nat) (M : MT) {n r : Nat} (h : r < n) : (rowsR cy rr M n)[r]? = some (rr r, arI cy 7 (rowR M (r : Int))) := by unfold rowsR; simp [h]
theorem rowsT_at (cy : ClassId) (tt : Nat → Nat) (M : MT) (g : Int → Int) {n t : Nat} (h : t < n) : (rowsT cy tt M g n)[t]? = some (tt t, arI cy 9 (rowT M g (t : Int))) := by unfold rowsT; simp [h]
theorem wS_len (G : va_G) (cy : ClassId) (q rr tt : Nat → Nat) (M : MT) (g : Int → Int) : (wS G cy q rr tt M g).length = 3 + ((M 16 0).toNat + (M 17 0).toNat) := by
  unfold wS
  rw [List.length_append, List.length_append, rowsR_len, rowsT_len]
  rfl
theorem wS_R (G : va_G) (cy : ClassId) (q rr tt : Nat → Nat) (M : MT) (g : Int → Int) {r : Int} (h : 0 ≤ r ∧ r < M 16 0) : (wS G cy q rr tt M g)[3 + r.toNat]? = some (rr r.toNat, arI cy 7 (rowR M r)) := by
  unfold wS
  rw [List.getElem?_append_right (by show 3 ≤ _; omega), show 3 + r.toNat - (hdS G q rr tt M).length = r.toNat from by show 3 + r.toNat - 3 = _; omega, List.getElem?_append_left (by rw [rowsR_len]; omega), rowsR_at cy rr M (by omega), show ((r.toNat : Nat) : Int) = r by omega]
theorem wS_T (G : va_G) (cy : ClassId) (q rr tt : Nat → Nat) (M : MT) (g : Int → Int) {t : Int} (h : 0 ≤ t ∧ t < M 17 0) : (wS G cy q rr tt M g)[3 + ((M 16 0).toNat + t.toNat)]? = some (tt t.toNat, arI cy 9 (rowT M g t)) := by
  unfold wS
  rw [List.getElem?_append_right (by show 3 ≤ _; omega), show 3 + ((M 16 0).toNat + t.toNat) - (hdS G q rr tt M).length = (M 16 0).toNat + t.toNat from by show 3 + _ - 3 = _; omega, List.getElem?_append_right (by rw [rowsR_len]; omega), rowsR_len, Nat.add_sub_cancel_left, rowsT_at cy tt M g (by omega), show ((t.toNat : Nat) : Int) = t by omega]
theorem hdS_congr {G : va_G} {q rr tt : Nat → Nat} {M N : MT} (h16 : N 16 0 = M 16 0) (h17 : N 17 0 = M 17 0) (h19 : N 19 0 = M 19 0) (h20 : N 20 0 = M 20 0) : hdS G q rr tt N = hdS G q rr tt M := by
  unfold hdS
  rw [h16, h17, h19, h20]
theorem rowsR_congr {cy : ClassId} {rr : Nat → Nat} {M N : MT} {n : Nat} (h : ∀ r : Int, 0 ≤ r → r < n → rowR N r = rowR M r) : rowsR cy rr N n = rowsR cy rr M n := by
  unfold rowsR
  refine List.map_congr_left (fun r hr => ?_)
  rw [h r (by omega) (by have := List.mem_range.mp hr; omega)]
theorem rowsT_congr {cy : ClassId} {tt : Nat → Nat} {M N : MT} {g g' : Int → Int} {n : Nat} (h : ∀ t : Int, 0 ≤ t → t < n → rowT N g' t = rowT M g t) : rowsT cy tt N g' n = rowsT cy tt M g n := by
  unfold rowsT
  refine List.map_congr_left (fun t ht => ?_)
  rw [h t (by omega) (by have := List.mem_range.mp ht; omega)]
theorem rowR_congr {M N : MT} {r : Int} (h : ∀ k : Nat, k < 7 → N k r = M k r) : rowR N r = rowR M r := by
  have key : ∀ j : Nat, j < 7 → colR j < 7 := by decide
  funext j
  unfold rowR
  by_cases q : 0 ≤ j ∧ j < 7
  · rw [if_pos q, if_pos q, h _ (key _ (by omega))]
  · rw [if_neg q, if_neg q]
theorem rowT_congr {M N : MT} {g g' : Int → Int} {t : Int} (h : ∀ k : Nat, 7 ≤ k → k ≤ 15 → k ≠ 9 → N k t = M k t) (hg : g' t = g t) : rowT N g' t = rowT M g t := by
  have key : ∀ j : Nat, j < 7 → 7 ≤ colT j ∧ colT j ≤ 15 ∧ colT j ≠ 9 := by decide
  funext j
  unfold rowT arrT
  rw [h 15 (by decide) (by decide) (by decide), h 13 (by decide) (by decide) (by decide), hg]
  by_cases q : 0 ≤ j ∧ j < 7
  · have := key j.toNat (by omega)
    rw [if_pos q, if_pos q, h _ this.1 this.2.1 this.2.2]
  · rw [if_neg q, if_neg q]
/-- the same where it can be seen -/
theorem wS_congr {G : va_G} {cy : ClassId} {q rr tt : Nat → Nat} {M N : MT} {g g' : Int → Int} (h : ∀ k : Nat, k ≠ 9 → k ≠ 18 → N k = M k) (hg : ∀ t : Int, 0 ≤ t → t < M 17 0 → g' t = g t) : wS G cy q rr tt N g' = wS G cy q rr tt M g := by
  unfold wS
  rw [hdS_congr (M := M) (N := N) (by rw [h 16 (by decide) (by decide)]) (by rw [h 17 (by decide) (by decide)]) (by rw [h 19 (by decide) (by decide)]) (by rw [h 20 (by decide) (by decide)]), h 16 (by decide) (by decide), h 17 (by decide) (by decide)]
  rw [rowsR_congr (M := M) (fun r _ _ => rowR_congr (fun k hk => by rw [h k (by omega) (by omega)])), rowsT_congr (M := M) (g := g) (fun t t0 t1 => rowT_congr (fun k h1 h2 h3 => by rw [h k h3 (by omega)]) (hg t t0 (by omega)))]
theorem set_map_range {n i : Nat} {f f' : Nat → Nat × va_E} {e : Nat × va_E} (hi : i < n) (h1 : f' i = e) (h2 : ∀ j, j < n → j ≠ i → f' j = f j) : ((List.range n).map f).set i e = (List.range n).map f' := by
  apply List.ext_getElem
  · simp
  · intro j a b
    simp only [List.length_set, List.length_map, List.length_range] at a
    by_cases q : i = j
    · subst q
      simp [h1]
    · rw [List.getElem_set_ne q]
      simp only [List.getElem_map, List.getElem_range]
      exact (h2 j a (fun z => q z.symm)).symm
theorem wS_setR {G : va_G} {cy : ClassId} {q rr tt : Nat → Nat} {M N : MT} {g : Int → Int} {r : Int} {f : Int → Int} (h : 0 ≤ r ∧ r < M 16 0) (hf : f = rowR N r) (ho : ∀ k : Nat, 7 ≤ k → N k = M k) (hr : ∀ (r' : Int) (k : Nat), r' ≠ r → N k r' = M k r') : (wS G cy q rr tt M g).set (3 + r.toNat) (rr r.toNat, arI cy 7 f) = wS G cy q rr tt N g := by
  unfold wS
  rw [List.set_append_right _ _ (by show 3 ≤ _; omega), show 3 + r.toNat - (hdS G q rr tt M).length = r.toNat from by show 3 + r.toNat - 3 = _; omega, List.set_append_left _ _ (by rw [rowsR_len]; omega), ho 16 (by decide), ho 17 (by decide), hdS_congr (M := M) (N := N) (by rw [ho 16 (by decide)]) (by rw [ho 17 (by decide)]) (by rw [ho 19 (by decide)]) (by rw [ho 20 (by decide)])]
  congr 1
  congr 1
  · unfold rowsR
    refine set_map_range (by omega) (by rw [hf, show ((r.toNat : Nat) : Int) = r by omega]) (fun j hj hne => ?_)
    rw [rowR_congr (M := M) (fun k _ => hr _ k (by omega))]
  · exact (rowsT_congr (fun t _ _ => rowT_congr (fun k h1 _ _ => by rw [ho k h1]) rfl)).symm
theorem wS_setT {G : va_G} {cy : ClassId} {q rr tt : Nat → Nat} {M N : MT} {g g' : Int → Int} {t : Int} {f : Int → Int} (h : 0 ≤ t ∧ t < M 17 0) (hf : f = rowT N g' t) (ho : ∀ k : Nat, (k < 7 ∨ 16 ≤ k) → N k = M k) (hr : ∀ (t' : Int) (k : Nat), t' ≠ t → N k t' = M k t') (hg : ∀ t' : Int, t' ≠ t → g' t' = g t') : (wS G cy q rr tt M g).set (3 + ((M 16 0).toNat + t.toNat)) (tt t.toNat, arI cy 9 f) = wS G cy q rr tt N g' := by
  unfold wS
  rw [List.set_append_right _ _ (by show 3 ≤ _; omega), show 3 + ((M 16 0).toNat + t.toNat) - (hdS G q rr tt M).length = (M 16 0).toNat + t.toNat from by show 3 + _ - 3 = _; omega, List.set_append_right _ _ (by rw [rowsR_len]; omega), rowsR_len, Nat.add_sub_cancel_left, ho 16 (by decide), ho 17 (by decide), hdS_congr (M := M) (N := N) (by rw [ho 16 (by decide)]) (by rw [ho 17 (by decide)]) (by rw [ho 19 (by decide)]) (by rw [ho 20 (by decide)])]
  congr 1
  congr 1
  · exact (rowsR_congr (fun r _ _ => rowR_congr (fun k hk => by rw [ho k (by omega)]))).symm
  · unfold rowsT
    refine set_map_range (by omega) (by rw [hf, show ((t.toNat : Nat) : Int) = t by omega]) (fun j hj hne => ?_)
    rw [rowT_congr (M := M) (g := g) (fun k _ _ _ => hr _ k (by omega)) (hg _ (by omega))]
theorem seg_l {Y w : va_W} {i : Nat} {q : Nat × va_E} (h : w[i]? = some q) : (Y ++ w)[Y.length + i]? = some q := by
  rw [List.getElem?_append_right (by omega), show Y.length + i - Y.length = i by omega]; exact h
theorem seg_setl {Y w w' : va_W} {i : Nat} {e : Nat × va_E} (h : w.set i e = w') : (Y ++ w).set (Y.length + i) e = Y ++ w' := by
  rw [List.set_append_right _ _ (by omega), show Y.length + i - Y.length = i by omega, h]
theorem sY (Y w : va_W) : Y ++ w = Y ++ (w ++ []) := by rw [List.append_nil]
theorem sY2 (Y X w : va_W) : Y ++ ((X ++ w) ++ []) = (Y ++ X) ++ w := by rw [List.append_nil, ← List.append_assoc]
theorem rowR_up (M : MT) {r j v : Int} {k : Nat} (hj : 0 ≤ j ∧ j < 7) (hk : colR j.toNat = k) : ups (rowR M r) j v = rowR (up M k r v) r := by
  have key : ∀ a : Nat, a < 7 → ∀ b : Nat, b < 7 → colR a = colR b → a = b := by decide
  funext i
  unfold ups rowR
  by_cases q : 0 ≤ i ∧ i < 7
  · rw [if_pos q, if_pos q, up_eq]
    by_cases e : i = j
    · rw [if_pos e, if_pos ⟨by rw [e]; exact hk, rfl⟩]
    · rw [if_neg e, if_neg (fun z => e (by have := key i.toNat (by omega) j.toNat (by omega) (z.1.trans hk.symm); omega))]
  · rw [if_neg q, if_neg q, if_neg (fun e => q (by omega))]
theorem rowT_up (M : MT) (g : Int → Int) {t j v : Int} {k : Nat} (hj : 0 ≤ j ∧ j < 4) (hk : colT j.toNat = k) : ups (rowT M g t) j v = rowT (up M k t v) g t := by
  have key : ∀ a : Nat, a < 7 → ∀ b : Nat, b < 4 → colT a = colT b → a = b := by decide
  have k1 : ∀ b : Nat, b < 4 → colT b ≠ 13 ∧ colT b ≠ 15 := by decide
  have k2 := k1 j.toNat (by omega)
  rw [hk] at k2
  funext i
  unfold ups rowT arrT
  rw [up_n M (fun z => k2.2 z.symm), up_n M (fun z => k2.1 z.symm)]
  by_cases e7 : i = 7
  · rw [if_neg (by omega), if_pos e7, if_pos e7]
  · by_cases e8 : i = 8
    · rw [if_neg (by omega), if_neg e7, if_pos e8, if_neg e7, if_pos e8]
    · by_cases q : 0 ≤ i ∧ i < 7
      · rw [if_neg e7, if_neg e8, if_pos q, if_neg e7, if_neg e8, if_pos q, up_eq]
        by_cases e : i = j
        · rw [if_pos e, if_pos ⟨by rw [e]; exact hk, rfl⟩]
        · rw [if_neg e, if_neg (fun z => e (by have := key i.toNat (by omega) j.toNat (by omega) (z.1.trans hk.symm); omega))]
      · rw [if_neg (fun e => q (by omega)), if_neg e7, if_neg e8, if_neg q, if_neg e7, if_neg e8, if_neg q]
theorem rowT_up8 (M : MT) (g : Int → Int) {t v : Int} : ups (rowT M g t) 8 v = rowT M (ups g t v) t := by
  funext i
  by_cases e8 : i = 8
  · rw [e8, ups_same]
    unfold rowT
    rw [if_neg (by decide), if_pos rfl, ups_same]
  · rw [ups_ne _ e8]
    unfold rowT
    rw [if_neg e8, if_neg e8]
theorem rowT_up7 (M : MT) (g : Int → Int) {t v : Int} (hv : M 13 t ≤ v) : ups (rowT M g t) 7 v = rowT (up M 15 t (v - M 13 t)) g t := by
  funext i
  unfold ups rowT arrT
  rw [up_same, up_n M (k := 15) (k' := 13) (by decide)]
  by_cases e7 : i = 7
  · rw [if_pos e7, if_pos e7, if_neg (by omega)]; omega
  · rw [if_neg e7, if_neg e7, if_neg e7]
    have key : ∀ j : Nat, j < 7 → colT j ≠ 15 := by decide
    by_cases q : 0 ≤ i ∧ i < 7
    · rw [if_pos q, if_pos q, up_n M (key _ (by omega))]
    · rw [if_neg q, if_neg q]
theorem wS_put20 (G : va_G) (cy : ClassId) (q rr tt : Nat → Nat) (M : MT) (g : Int → Int) (z : Int) : [(q 0, .inr (5, [.int (enc z), .int (enc (M 19 0)), .ref (q 1), .ref (q 2)])), (q 1, gI G (M 16 0).toNat (fun j => some (rr j))), (q 2, gI G (M 17 0).toNat (fun j => some (tt j)))] ++ (rowsR cy rr M (M 16 0).toNat ++ rowsT cy tt M g (M 17 0).toNat) = wS G cy q rr tt (upc M 20 z) g := by
  unfold wS
  rw [rowsR_congr (M := M) (N := upc M 20 z) (fun r _ _ => rowR_congr (fun k hk => by rw [upc_n M (by omega)])), rowsT_congr (M := M) (N := upc M 20 z) (g := g) (fun t _ _ => rowT_congr (fun k h1 h2 h3 => by rw [upc_n M (by omega)]) rfl)]
  rfl
theorem wS_put19 (G : va_G) (cy : ClassId) (q rr tt : Nat → Nat) (M : MT) (g : Int → Int) (z : Int) : [(q 0, .inr (5, [.int (enc (M 20 0)), .int (enc z), .ref (q 1), .ref (q 2)])), (q 1, gI G (M 16 0).toNat (fun j => some (rr j))), (q 2, gI G (M 17 0).toNat (fun j => some (tt j)))] ++ (rowsR cy rr M (M 16 0).toNat ++ rowsT cy tt M g (M 17 0).toNat) = wS G cy q rr tt (upc M 19 z) g := by
  unfold wS
  rw [rowsR_congr (M := M) (N := upc M 19 z) (fun r _ _ => rowR_congr (fun k hk => by rw [upc_n M (by omega)])), rowsT_congr (M := M) (N := upc M 19 z) (g := g) (fun t _ _ => rowT_congr (fun k h1 h2 h3 => by rw [upc_n M (by omega)]) rfl)]
  rfl
section SR
variable {G : va_G} {cy : ClassId} {c : Cx} {cc : ByteArray} {own : String} {nL : Nat} {R : Room} {k n : Nat} {ws : va_W} {pc : Nat} {lv : List (Nat × Value)} {st : List Value}
variable {q rr tt : Nat → Nat} {M : MT} {g : Int → Int}
theorem sr_lenR (X : Ok G cy c cc own nL R) (Y : va_W) (hws : ws = Y ++ wS G cy q rr tt M g) (h : 0 ≤ M 16 0) (d : decode cc pc = .ok (.arraylength, 1)) (kk : T G c R nL k n ws (pc + 1) lv (.int (enc (M 16 0)) :: st)) : T G c R nL k n ws pc lv (.ref (q 1) :: st) := by
  refine tw_alenG X (N := (M 16 0).toNat) (f := fun j => some (rr j)) (Y.length + 1) (by rw [hws]; exact seg_l rfl) d ?_
  rw [show (((M 16 0).toNat : Nat) : Int) = M 16 0 by omega]
  exact kk
theorem sr_lenT (X : Ok G cy c cc own nL R) (Y : va_W) (hws : ws = Y ++ wS G cy q rr tt M g) (h : 0 ≤ M 17 0) (d : decode cc pc = .ok (.arraylength, 1)) (kk : T G c R nL k n ws (pc + 1) lv (.int (enc (M 17 0)) :: st)) : T G c R nL k n ws pc lv (.ref (q 2) :: st) := by
  refine tw_alenG X (N := (M 17 0).toNat) (f := fun j => some (tt j)) (Y.length + 2) (by rw [hws]; exact seg_l rfl) d ?_
  rw [show (((M 17 0).toNat : Nat) : Int) = M 17 0 by omega]
  exact kk
theorem sr_aaR (X : Ok G cy c cc own nL R) (Y : va_W) (hws : ws = Y ++ wS G cy q rr tt M g) {r : Int} (hr : 0 ≤ r ∧ r < M 16 0) (h2 : M 16 0 ≤ 20) (d : decode cc pc = .ok (.aaload, 1)) (kk : T G c R nL k n ws (pc + 1) lv (.ref (rr r.toNat) :: st)) : T G c R nL k n ws pc lv (.int (enc r) :: .ref (q 1) :: st) :=
  tw_aald X (N := (M 16 0).toNat) (f := fun j => some (rr j)) (Y.length + 1) (by rw [hws]; exact seg_l rfl) (by omega) (by omega) rfl d kk
theorem sr_aaT (X : Ok G cy c cc own nL R) (Y : va_W) (hws : ws = Y ++ wS G cy q rr tt M g) {t : Int} (ht : 0 ≤ t ∧ t < M 17 0) (h2 : M 17 0 ≤ 12) (d : decode cc pc = .ok (.aaload, 1)) (kk : T G c R nL k n ws (pc + 1) lv (.ref (tt t.toNat) :: st)) : T G c R nL k n ws pc lv (.int (enc t) :: .ref (q 2) :: st) :=
  tw_aald X (N := (M 17 0).toNat) (f := fun j => some (tt j)) (Y.length + 2) (by rw [hws]; exact seg_l rfl) (by omega) (by omega) rfl d kk
theorem sr_ldR (X : Ok G cy c cc own nL R) (Y : va_W) (hws : ws = Y ++ wS G cy q rr tt M g) {r j v : Int} (hr : 0 ≤ r ∧ r < M 16 0) (hj : 0 ≤ j ∧ j < 7) (hv : rowR M r j = v) (d : decode cc pc = .ok (.iaload, 1)) (kk : T G c R nL k n ws (pc + 1) lv (.int (enc v) :: st)) : T G c R nL k n ws pc lv (.int (enc j) :: .ref (rr r.toNat) :: st) :=
  tw_iald X (N := 7) (f := rowR M r) (Y.length + (3 + r.toNat)) (by rw [hws]; exact seg_l (wS_R G cy q rr tt M g hr)) (by decide) hj d (by rw [hv]; exact kk)
theorem sr_ldT (X : Ok G cy c cc own nL R) (Y : va_W) (hws : ws = Y ++ wS G cy q rr tt M g) {t j v : Int} (ht : 0 ≤ t ∧ t < M 17 0) (hj : 0 ≤ j ∧ j < 9) (hv : rowT M g t j = v) (d : decode cc pc = .ok (.iaload, 1)) (kk : T G c R nL k n ws (pc + 1) lv (.int (enc v) :: st)) : T G c R nL k n ws pc lv (.int (enc j) :: .ref (tt t.toNat) :: st) :=
  tw_iald X (N := 9) (f := rowT M g t) (Y.length + (3 + ((M 16 0).toNat + t.toNat))) (by rw [hws]; exact seg_l (wS_T G cy q rr tt M g ht)) (by decide) hj d (by rw [hv]; exact kk)
theorem sr_stR (X : Ok G cy c cc own nL R) (Y : va_W) (hws : ws = Y ++ wS G cy q rr tt M g) {r j v : Int} {kf : Nat} {ws' : va_W} (hr : 0 ≤ r ∧ r < M 16 0) (hj : 0 ≤ j ∧ j < 7) (hk : colR j.toNat = kf) (h7 : kf < 7) (hws' : ws' = Y ++ wS G cy q rr tt (up M kf r v) g) (d : decode cc pc = .ok (.iastore, 1)) (kk : T G c R nL k n ws' (pc + 1) lv st) : T G c R nL k n ws pc lv (.int (enc v) :: .int (enc j) :: .ref (rr r.toNat) :: st) := by
  refine tw_iast X (N := 7) (f := rowR M r) (Y.length + (3 + r.toNat)) (by rw [hws]; exact seg_l (wS_R G cy q rr tt M g hr)) (by decide) hj d ?_ kk
  rw [hws, hws']
  exact seg_setl (wS_setR hr (rowR_up M hj hk) (fun k h => up_n M (by omega) r v) (fun r' k h => by rw [up_eq, if_neg (fun z => h z.2)]))
theorem sr_stT (X : Ok G cy c cc own nL R) (Y : va_W) (hws : ws = Y ++ wS G cy q rr tt M g) {t j v : Int} {kf : Nat} {ws' : va_W} (ht : 0 ≤ t ∧ t < M 17 0) (hj : 0 ≤ j ∧ j < 4) (hk : colT j.toNat = kf) (h7 : 7 ≤ kf ∧ kf < 16) (hws' : ws' = Y ++ wS G cy q rr tt (up M kf t v) g) (d : decode cc pc = .ok (.iastore, 1)) (kk : T G c R nL k n ws' (pc + 1) lv st) : T G c R nL k n ws pc lv (.int (enc v) :: .int (enc j) :: .ref (tt t.toNat) :: st) := by
  refine tw_iast X (N := 9) (f := rowT M g t) (Y.length + (3 + ((M 16 0).toNat + t.toNat))) (by rw [hws]; exact seg_l (wS_T G cy q rr tt M g ht)) (by decide) (by omega) d ?_ kk
  rw [hws, hws']
  exact seg_setl (wS_setT ht (rowT_up M g hj hk) (fun k h => up_n M (by omega) t v) (fun t' k h => by rw [up_eq, if_neg (fun z => h z.2)]) (fun _ _ => rfl))
theorem sr_st8 (X : Ok G cy c cc own nL R) (Y : va_W) (hws : ws = Y ++ wS G cy q rr tt M g) {t v : Int} {ws' : va_W} (ht : 0 ≤ t ∧ t < M 17 0) (hws' : ws' = Y ++ wS G cy q rr tt M (ups g t v)) (d : decode cc pc = .ok (.iastore, 1)) (kk : T G c R nL k n ws' (pc + 1) lv st) : T G c R nL k n ws pc lv (.int (enc v) :: .int (enc 8) :: .ref (tt t.toNat) :: st) := by
  refine tw_iast X (N := 9) (f := rowT M g t) (Y.length + (3 + ((M 16 0).toNat + t.toNat))) (by rw [hws]; exact seg_l (wS_T G cy q rr tt M g ht)) (by decide) (by decide) d ?_ kk
  rw [hws, hws']
  exact seg_setl (wS_setT ht (rowT_up8 M g) (fun k h => rfl) (fun t' k h => rfl) (fun t' h => ups_ne v h))
theorem sr_st7 (X : Ok G cy c cc own nL R) (Y : va_W) (hws : ws = Y ++ wS G cy q rr tt M g) {t v : Int} {ws' : va_W} (ht : 0 ≤ t ∧ t < M 17 0) (hv : M 13 t ≤ v) (hws' : ws' = Y ++ wS G cy q rr tt (up M 15 t (v - M 13 t)) g) (d : decode cc pc = .ok (.iastore, 1)) (kk : T G c R nL k n ws' (pc + 1) lv st) : T G c R nL k n ws pc lv (.int (enc v) :: .int (enc 7) :: .ref (tt t.toNat) :: st) := by
  refine tw_iast X (N := 9) (f := rowT M g t) (Y.length + (3 + ((M 16 0).toNat + t.toNat))) (by rw [hws]; exact seg_l (wS_T G cy q rr tt M g ht)) (by decide) (by decide) d ?_ kk
  rw [hws, hws']
  exact seg_setl (wS_setT ht (rowT_up7 M g hv) (fun k h => up_n M (by omega) t _) (fun t' k h => by rw [up_eq, if_neg (fun z => h z.2)]) (fun _ _ => rfl))
/-- a new cell: ahead of the rows -/
theorem Tnew (Y W Z : va_W) {ws' : va_W} (hws : ws = (Y ++ W) ++ Z) (hws' : ws' = (Y ++ Z) ++ W) (kk : T G c R nL k n ws' pc lv st) : T G c R nL k n ws pc lv st := by
  refine TPerm ?_ kk
  rw [hws, hws', List.append_assoc, List.append_assoc]
  exact List.Perm.append_left Y List.perm_append_comm
/-- cells let go -/
theorem Tgone (Y W Z : va_W) {ws' : va_W} (hws : ws = (Y ++ Z) ++ W) (hws' : ws' = Y ++ W) (kk : T G c R nL k n ws' pc lv st) : T G c R nL k n ws pc lv st := by
  refine TPerm (ws' := (Y ++ W) ++ Z) ?_ (Tdrop Z rfl (by rw [← hws']; exact kk))
  rw [hws, List.append_assoc, List.append_assoc]
  exact List.Perm.append_left Y List.perm_append_comm
theorem sr_seg {i : Nat} {e : Nat × va_E} (h : ws[i]? = some e) : ws = ws.take i ++ ([e] ++ ws.drop (i + 1)) := by
  obtain ⟨h1, h2⟩ := List.getElem?_eq_some_iff.mp h
  rw [← h2, List.singleton_append, ← List.drop_eq_getElem_cons h1, List.take_append_drop]
variable {y : MethodName} {b : ByteArray} {mL : Nat} {ret : Option FieldType} {rm : Room} {mc ms : Nat} {post : Option Value → va_W → Prop}
/-- a static call on one cell of the world, which it leaves as it was -/
theorem tw_one (X : Ok G cy c cc own nL R) {idx np : Nat} {As : List Value} (hV : SW own idx y b mL ret np) {i : Nat} {e : Nat × va_E} (he : ws[i]? = some e) {x : Value} (hM : Ct G cy y b mL ret rm 0 0 As [e] (fun v w1 => v = some x ∧ w1 = [e])) {st0 : List Value} (hst : st0 = As.reverse ++ st)
    (hnp : As.length = np) (hR : rm.cells = 0 ∧ rm.slots = 0 ∧ rm.frames + 1 ≤ R.frames ∧ 8 + (mL + 11) + rm.locals ≤ R.locals) (hk : k ≤ R.cells ∧ n ≤ R.slots) (hcat : (st.map fun v => v.category).sum ≤ 8)
    (d : decode cc pc = .ok (.invokestatic idx, 3)) (kk : T G c R nL k n ws (pc + 3) lv (x :: st)) : T G c R nL k n ws pc lv st0 := by
  refine tw_callS X hV hM (ws.take i) (ws.drop (i + 1)) (sr_seg he) hst hnp hR hk hcat d (fun v w1 hp => ?_)
  obtain ⟨rfl, rfl⟩ := hp
  rw [← sr_seg he]
  exact kk
end SR
