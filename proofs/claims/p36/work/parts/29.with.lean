/-! ROWS ADDED TO THE SIM -/
def rowsG (cy : ClassId) (w : Nat) (rr : Nat → Nat) (F : Nat → Int → Int) (n : Nat) : va_W := (List.range n).map (fun r => (rr r, arI cy w (F r)))
theorem rowsG_at (cy : ClassId) (w : Nat) (rr : Nat → Nat) (F : Nat → Int → Int) {n r : Nat} (h : r < n) : (rowsG cy w rr F n)[r]? = some (rr r, arI cy w (F r)) := by unfold rowsG; simp [h]
set_option maxRecDepth 100000 in
set_option maxHeartbeats 4000000 in
theorem m_X5_with {G : va_G} {cy : ClassId} (gq a : Nat) (rr : Nat → Nat) (F : Nat → Int → Int) (f : Int → Int) (n w : Nat) (hn : n ≤ 20) : CtE G cy none yX5_with cX5_with 4 (some (.array (.array .int))) ({ frames := 0, cells := 1, slots := 21, locals := 0 } : Room) 1 21 [.ref gq, .ref a] ([(gq, gI G n (fun j => some (rr j)))] ++ ([(a, arI cy w f)] ++ rowsG cy w rr F n)) (fun v w1 => ∃ b : Nat, v = some (.ref b) ∧ w1 = [(b, gI G (n + 1) (fun j => some (if j < n then rr j else a)))] ++ ([(gq, gI G n (fun j => some (rr j)))] ++ ([(a, arI cy w f)] ++ rowsG cy w rr F n))) := by
  refine CtE.ofA (by decide) (Nat.le_of_ble_eq_true rfl) rfl rfl (Or.inr ⟨_, rfl⟩) ?_
  intro c X hN hXS ret
  generalize hW0 : ([(gq, gI G n (fun j => some (rr j)))] ++ ([(a, arI cy w f)] ++ rowsG cy w rr F n) : va_W) = W0 at ret
  have p0 : W0[0]? = some (gq, gI G n (fun j => some (rr j))) := by rw [← hW0]; rfl
  have p1 : W0[1]? = some (a, arI cy w f) := by rw [← hW0]; rfl
  have p2 : ∀ i : Nat, i < n → W0[i + 2]? = some (rr i, arI cy w (F i)) := fun i hi => by
    rw [← hW0]
    show (rowsG cy w rr F n)[i]? = _
    exact rowsG_at cy w rr F hi
  refine Tlv (lv' := [(0, .ref gq), (1, .ref a)]) rfl ?_
  refine tw_aload_n X dX5_with_0 0 rfl rfl ?_
  refine tw_alenG X (N := n) (f := fun j => some (rr j)) 0 p0 dX5_with_1 ?_
  refine tw_iconst X dX5_with_2 ?_
  refine tw_iadd (z := (n : Int) + 1) X dX5_with_3 rfl ?_
  refine tw_anew X hN (N := n + 1) (by omega) (by omega) wc_X5_7 (Nat.le_of_ble_eq_true rfl) (show 0 + (n + 1) ≤ 21 by omega) dX5_with_4 (fun b => ?_)
  refine Tnew [] W0 [(b, gI G (n + 1) (fun _ => none))] (ws' := [(b, gI G (n + 1) (fun _ => none))] ++ W0) rfl rfl ?_
  refine Twiden (k' := 1) (n' := 21) (by omega) (by omega) ?_
  refine tw_astore_n (lv' := [(2, .ref b), (0, .ref gq), (1, .ref a)]) X dX5_with_7 rfl (by decide) rfl ?_
  refine tw_iconst X dX5_with_8 ?_
  refine tw_istore_n (lv' := [(3, .int (enc 0)), (2, .ref b), (0, .ref gq), (1, .ref a)]) X dX5_with_9 rfl (by decide) rfl ?_
  have L : ∀ (fu i : Nat) (fb : Nat → Option Nat), i ≤ n → n + 1 ≤ i + fu → (∀ j : Nat, j < i → fb j = some (rr j)) → T G c ({ frames := 0, cells := 1, slots := 21, locals := 0 } : Room) 4 1 21 ([(b, gI G (n + 1) fb)] ++ W0) 10 [(3, .int (enc (i : Int))), (2, .ref b), (0, .ref gq), (1, .ref a)] [] := by
    intro fu
    induction fu with
    | zero => intro i fb h1 h2 _; exact absurd h2 (by omega)
    | succ fu ih =>
      intro i fb hi1 hi2 hfb
      refine tw_iload_n X dX5_with_10 0 rfl rfl ?_
      refine tw_aload_n X dX5_with_11 2 rfl rfl ?_
      refine tw_alenG X (N := n) (f := fun j => some (rr j)) 1 p0 dX5_with_12 ?_
      refine tw_icmp_ge (tgt := 28) X (In_of (by omega) (by omega)) (In_of (by omega) (by omega)) dX5_with_13 (by decide) (fun c13 => ?_) (fun c13 => ?_)
      · have e : i = n := by omega
        subst e
        refine tw_aload_n X dX5_with_28 1 rfl rfl ?_
        refine tw_aload_n X dX5_with_29 2 rfl rfl ?_
        refine tw_alenG X (N := i) (f := fun j => some (rr j)) 1 p0 dX5_with_30 ?_
        refine tw_aload_n X dX5_with_31 3 rfl rfl ?_
        refine tw_aast X hN (N := i + 1) (f := fb) (i := (i : Int)) (w := w) (fv := ea f) (ws' := [(b, gI G (i + 1) (va_up fb i (some a)))] ++ W0) 0 2 rfl p1 (by omega) (by omega) dX5_with_32 rfl ?_
        refine tw_aload_n X dX5_with_33 1 rfl rfl ?_
        refine Tgcong (f' := fun j => some (if j < i then rr j else a)) (ws' := [(b, gI G (i + 1) (fun j => some (if j < i then rr j else a)))] ++ W0) 0 rfl (fun j hj => ?_) rfl ?_
        · unfold va_up
          by_cases q : j = i
          · rw [if_pos q, if_neg (by omega)]
          · rw [if_neg q, if_pos (by omega), hfb j (by omega)]
        · exact ret _ _ _ _ dX5_with_34 ⟨b, rfl, rfl⟩
      · refine tw_aload_n X dX5_with_16 1 rfl rfl ?_
        refine tw_iload_n X dX5_with_17 0 rfl rfl ?_
        refine tw_aload_n X dX5_with_18 2 rfl rfl ?_
        refine tw_iload_n X dX5_with_19 0 rfl rfl ?_
        refine tw_aald X (N := n) (f := fun j => some (rr j)) (i := (i : Int)) (r := rr i) 1 p0 (by omega) (by omega) rfl dX5_with_20 ?_
        refine tw_aast X hN (N := n + 1) (f := fb) (i := (i : Int)) (w := w) (fv := ea (F i)) (ws' := [(b, gI G (n + 1) (va_up fb i (some (rr i))))] ++ W0) 0 (i + 3) rfl (p2 i (by omega)) (by omega) (by omega) dX5_with_21 rfl ?_
        refine tw_iinc (q := 0) (x := (i : Int)) (y := (i : Int) + 1) (lv' := [(3, .int (enc ((i : Int) + 1))), (2, .ref b), (0, .ref gq), (1, .ref a)]) X dX5_with_22 rfl rfl (by decide) rfl ?_
        refine tw_goto (tgt := 10) X dX5_with_25 (by decide) ?_
        refine ih (i + 1) (va_up fb i (some (rr i))) (by omega) (by omega) (fun j hj => ?_)
        unfold va_up
        by_cases q : j = i
        · rw [if_pos q, q]
        · rw [if_neg q, hfb j (by omega)]
  exact L (n + 1) 0 (fun _ => none) (Nat.zero_le _) (by omega) (fun j hj => absurd hj (Nat.not_lt_zero j))
theorem rowsR_snoc {cy : ClassId} {rr rr' : Nat → Nat} {M N : MT} {n a : Nat} {f : Int → Int} (h1 : ∀ j : Nat, j < n → rr' j = rr j) (h2 : rr' n = a) (h3 : ∀ r : Int, 0 ≤ r → r < n → rowR N r = rowR M r) (h4 : f = rowR N (n : Int)) : rowsR cy rr' N (n + 1) = rowsR cy rr M n ++ [(a, arI cy 7 f)] := by
  unfold rowsR
  rw [List.range_succ, List.map_append, List.map_singleton, h2, h4]
  congr 1
  refine List.map_congr_left (fun r hr => ?_)
  have := List.mem_range.mp hr
  rw [h1 r this, h3 r (by omega) (by omega)]
theorem rowsT_snoc {cy : ClassId} {tt tt' : Nat → Nat} {M N : MT} {g g' : Int → Int} {n a : Nat} {f : Int → Int} (h1 : ∀ j : Nat, j < n → tt' j = tt j) (h2 : tt' n = a) (h3 : ∀ t : Int, 0 ≤ t → t < n → rowT N g' t = rowT M g t) (h4 : f = rowT N g' (n : Int)) : rowsT cy tt' N g' (n + 1) = rowsT cy tt M g n ++ [(a, arI cy 9 f)] := by
  unfold rowsT
  rw [List.range_succ, List.map_append, List.map_singleton, h2, h4]
  congr 1
  refine List.map_congr_left (fun r hr => ?_)
  have := List.mem_range.mp hr
  rw [h1 r this, h3 r (by omega) (by omega)]
/-- what is free yet is as new -/
def FI (M : MT) : Prop := (∀ r : Int, M 16 0 ≤ r → M 4 r = 0 ∧ M 5 r = 0 ∧ M 6 r = 0) ∧ ∀ t : Int, M 17 0 ≤ t → M 10 t = 0
def rowA (x y z u : Int) : Int → Int := ups (ups (ups (ups (ups (ups (ups (fun _ => 0) 0 x) 1 y) 2 z) 3 u) 4 0) 5 0) 6 0
theorem rowA_ok {M : MT} (hF : FI M) (x y z u : Int) : rowA x y z u = rowR (putR M x y z u) (M 16 0) := by
  have h := hF.1 (M 16 0) (Int.le_refl _)
  funext j
  by_cases q : 0 ≤ j ∧ j < 7
  · rcases (show j = 0 ∨ j = 1 ∨ j = 2 ∨ j = 3 ∨ j = 4 ∨ j = 5 ∨ j = 6 by omega) with rfl | rfl | rfl | rfl | rfl | rfl | rfl
    · show x = ups (M 0) (M 16 0) x (M 16 0); rw [ups_same]
    · show y = ups (M 1) (M 16 0) y (M 16 0); rw [ups_same]
    · show z = ups (M 2) (M 16 0) z (M 16 0); rw [ups_same]
    · show u = ups (M 3) (M 16 0) u (M 16 0); rw [ups_same]
    · show 0 = M 6 (M 16 0); rw [h.2.2]
    · show 0 = M 4 (M 16 0); rw [h.1]
    · show 0 = M 5 (M 16 0); rw [h.2.1]
  · unfold rowA rowR
    rw [if_neg q, ups_ne _ (by omega), ups_ne _ (by omega), ups_ne _ (by omega), ups_ne _ (by omega), ups_ne _ (by omega), ups_ne _ (by omega), ups_ne _ (by omega)]
theorem putR_row {M : MT} {x y z u r : Int} (h : r ≠ M 16 0) : rowR (putR M x y z u) r = rowR M r := by
  refine rowR_congr (fun k hk => ?_)
  rcases (show k = 0 ∨ k = 1 ∨ k = 2 ∨ k = 3 ∨ k = 4 ∨ k = 5 ∨ k = 6 by omega) with rfl | rfl | rfl | rfl | rfl | rfl | rfl
  · exact ups_ne x h
  · exact ups_ne y h
  · exact ups_ne z h
  · exact ups_ne u h
  · rfl
  · rfl
  · rfl
theorem putR_rowT {M : MT} {g : Int → Int} {x y z u t : Int} : rowT (putR M x y z u) g t = rowT M g t := by
  refine rowT_congr (fun k h1 h2 h3 => ?_) rfl
  show upc (up (up (up (up M 0 (M 16 0) x) 1 (M 16 0) y) 2 (M 16 0) z) 3 (M 16 0) u) 16 (M 16 0 + 1) k t = _
  rw [upc_n _ (by omega), up_n _ (by omega), up_n _ (by omega), up_n _ (by omega), up_n _ (by omega)]
theorem rowN_ok {M : MT} {g : Int → Int} (hF : FI M) (x y s : Int) : rowN x y (M 20 0) s = rowT (putT M x y s (M 20 0)) (ups g (M 17 0) (-1)) (M 17 0) := by
  have h := hF.2 (M 17 0) (Int.le_refl _)
  funext j
  by_cases q : 0 ≤ j ∧ j < 9
  · rcases (show j = 0 ∨ j = 1 ∨ j = 2 ∨ j = 3 ∨ j = 4 ∨ j = 5 ∨ j = 6 ∨ j = 7 ∨ j = 8 by omega) with rfl | rfl | rfl | rfl | rfl | rfl | rfl | rfl | rfl
    · show x = ups (M 7) (M 17 0) x (M 17 0); rw [ups_same]
    · show -1 = ups (M 8) (M 17 0) (-1) (M 17 0); rw [ups_same]
    · show 0 = M 10 (M 17 0); rw [h]
    · show 0 = ups (M 12) (M 17 0) 0 (M 17 0); rw [ups_same]
    · show y = ups (M 11) (M 17 0) y (M 17 0); rw [ups_same]
    · show M 20 0 = ups (M 13) (M 17 0) (M 20 0) (M 17 0); rw [ups_same]
    · show s = ups (M 14) (M 17 0) s (M 17 0); rw [ups_same]
    · show -1 = (if ups (M 15) (M 17 0) (-1) (M 17 0) < 0 then -1 else ups (M 13) (M 17 0) (M 20 0) (M 17 0) + ups (M 15) (M 17 0) (-1) (M 17 0)); rw [ups_same, if_pos (by decide)]
    · show -1 = ups g (M 17 0) (-1) (M 17 0); rw [ups_same]
  · unfold rowN rowT
    rw [if_neg (by omega), if_neg (by omega), if_neg (by omega), ups_ne _ (by omega), ups_ne _ (by omega), ups_ne _ (by omega), ups_ne _ (by omega), ups_ne _ (by omega), ups_ne _ (by omega), ups_ne _ (by omega), ups_ne _ (by omega), ups_ne _ (by omega)]
theorem putT_n {M : MT} {x y s h : Int} {k : Nat} (hk : k ≠ 7 ∧ k ≠ 8 ∧ k ≠ 11 ∧ k ≠ 12 ∧ k ≠ 13 ∧ k ≠ 14 ∧ k ≠ 15 ∧ k ≠ 17) : putT M x y s h k = M k := by
  show upc (up (up (up (up (up (up (up M 7 (M 17 0) x) 8 (M 17 0) (-1)) 11 (M 17 0) y) 12 (M 17 0) 0) 13 (M 17 0) h) 14 (M 17 0) s) 15 (M 17 0) (-1)) 17 (M 17 0 + 1) k = _
  rw [upc_n _ (by omega), up_n _ (by omega), up_n _ (by omega), up_n _ (by omega), up_n _ (by omega), up_n _ (by omega), up_n _ (by omega), up_n _ (by omega)]
theorem putT_ne {M : MT} {x y s h t : Int} {k : Nat} (hk : k ≠ 17) (ht : t ≠ M 17 0) : putT M x y s h k t = M k t := by
  show upc (up (up (up (up (up (up (up M 7 (M 17 0) x) 8 (M 17 0) (-1)) 11 (M 17 0) y) 12 (M 17 0) 0) 13 (M 17 0) h) 14 (M 17 0) s) 15 (M 17 0) (-1)) 17 (M 17 0 + 1) k t = _
  rw [upc_n _ hk, up_eq, if_neg (fun z => ht z.2), up_eq, if_neg (fun z => ht z.2), up_eq, if_neg (fun z => ht z.2), up_eq, if_neg (fun z => ht z.2), up_eq, if_neg (fun z => ht z.2), up_eq, if_neg (fun z => ht z.2), up_eq, if_neg (fun z => ht z.2)]
theorem putT_row {M : MT} {g : Int → Int} {x y s h v t : Int} (ht : t ≠ M 17 0) : rowT (putT M x y s h) (ups g (M 17 0) v) t = rowT M g t := rowT_congr (fun k h1 h2 h3 => putT_ne (by omega) ht) (ups_ne v ht)
theorem cats_permN (L : List va_W) (is : List Nat) (n : Nat) (hl : L.length = n) (h : is.Perm (List.range n)) : (cats L).Perm (cats (is.map (fun i => L.getD i []))) := cats_perm L is (by rw [hl]; exact h)
section AD
variable {G : va_G} {cy : ClassId} {c : Cx} {cc : ByteArray} {nL : Nat} {R : Room} {k n : Nat} {ws : va_W} {pc : Nat} {lv : List (Nat × Value)} {st : List Value}
variable {q rr tt : Nat → Nat} {M : MT} {g : Int → Int}
theorem sr_addR (X : Ok G cy c cc RL nL R) (hNc : Nc c) (Y : va_W) {a : Nat} {x y z u : Int} (hF : FI M) (h16 : 0 ≤ M 16 0 ∧ M 16 0 < 20) (hws : ws = (Y ++ [(a, arI cy 7 (rowA x y z u))]) ++ wS G cy q rr tt M g) (hR : 1 ≤ R.frames ∧ 8 + (4 + 11) + 0 ≤ R.locals) (hk : k + 1 ≤ R.cells ∧ n + 21 ≤ R.slots) (hcat : (st.map fun v => v.category).sum + 1 ≤ 8)
    (d1 : decode cc pc = .ok (.invokestatic 34, 3)) (d2 : decode cc (pc + 3) = .ok (.putfield 15, 3)) (kk : ∀ (b : Nat), T G c R nL (k + 1) (n + 21) (Y ++ wS G cy (fun i => cond (Nat.beq i 1) b (q i)) (fun j => if j < (M 16 0).toNat then rr j else a) tt (putR M x y z u) g) (pc + 3 + 3) lv st) : T G c R nL k n ws pc lv (.ref a :: .ref (q 1) :: .ref (q 0) :: st) := by
  subst hws
  generalize hm : (M 16 0).toNat = m at kk
  have hm2 : (m : Int) = M 16 0 := by omega
  refine TPerm (ws' := cats ([0, 2, 4, 6, 3, 1, 5].map (fun i => ([Y, [(a, arI cy 7 (rowA x y z u))], [(q 0, .inr (5, [.int (enc (M 20 0)), .int (enc (M 19 0)), .ref (q 1), .ref (q 2)]))], [(q 1, gI G m (fun j => some (rr j)))], [(q 2, gI G (M 17 0).toNat (fun j => some (tt j)))], rowsR cy rr M m, rowsT cy tt M g (M 17 0).toNat] : List va_W).getD i []))) ?_ ?_
  · refine List.Perm.trans (List.Perm.of_eq ?_) (cats_permN _ _ 7 rfl (by decide))
    unfold wS hdS
    rw [hm]
    simp only [cats, List.append_assoc]
    rfl
  · refine tw_callE X hNc (fun _ _ _ h => by cases h) sw_L_34 (m_X5_with (q 1) a rr (fun r => rowR M (r : Int)) (rowA x y z u) m 7 (by omega)) (As := [.ref (q 1), .ref a]) (st := .ref (q 0) :: st) (cats [Y, [(q 0, .inr (5, [.int (enc (M 20 0)), .int (enc (M 19 0)), .ref (q 1), .ref (q 2)]))], [(q 2, gI G (M 17 0).toNat (fun j => some (tt j)))], rowsT cy tt M g (M 17 0).toNat]) [] ?_ rfl rfl ⟨rfl, rfl, hR.1, hR.2⟩ hk (by show (Value.ref (q 0)).category + (st.map fun v => v.category).sum ≤ 8; rw [show (Value.ref (q 0)).category = 1 from rfl]; omega) d1 (fun v w1 hp => ?_)
    · simp only [cats, List.map, List.getD, List.getElem?_cons_succ, List.getElem?_cons_zero, Option.getD_some, List.append_assoc, List.append_nil]
      rfl
    · obtain ⟨b, rfl, rfl⟩ := hp
      refine TPerm (ws' := ([(q 0, .inr (5, [.int (enc (M 20 0)), .int (enc (M 19 0)), .ref (q 1), .ref (q 2)]))] : va_W) ++ cats [Y, [(q 2, gI G (M 17 0).toNat (fun j => some (tt j)))], rowsT cy tt M g (M 17 0).toNat, [(b, gI G (m + 1) (fun j => some (if j < m then rr j else a)))], [(q 1, gI G m (fun j => some (rr j)))], [(a, arI cy 7 (rowA x y z u))], rowsR cy rr M m]) ?_ ?_
      · refine List.Perm.trans (List.Perm.of_eq ?_) ((cats_permN [Y, [(q 0, .inr (5, [.int (enc (M 20 0)), .int (enc (M 19 0)), .ref (q 1), .ref (q 2)]))], [(q 2, gI G (M 17 0).toNat (fun j => some (tt j)))], rowsT cy tt M g (M 17 0).toNat, [(b, gI G (m + 1) (fun j => some (if j < m then rr j else a)))], [(q 1, gI G m (fun j => some (rr j)))], [(a, arI cy 7 (rowA x y z u))], rowsR cy rr M m] [1, 0, 2, 3, 4, 5, 6, 7] 8 rfl (by decide)).trans (List.Perm.of_eq ?_))
        · simp only [cats, List.append_assoc, List.append_nil]
          rfl
        · simp only [cats, List.map, List.getD, List.getElem?_cons_succ, List.getElem?_cons_zero, Option.getD_some]
      · refine pf_L_15 X (ws' := ([(q 0, .inr (5, [.int (enc (M 20 0)), .int (enc (M 19 0)), .ref b, .ref (q 2)]))] : va_W) ++ cats [Y, [(q 2, gI G (M 17 0).toNat (fun j => some (tt j)))], rowsT cy tt M g (M 17 0).toNat, [(b, gI G (m + 1) (fun j => some (if j < m then rr j else a)))], [(q 1, gI G m (fun j => some (rr j)))], [(a, arI cy 7 (rowA x y z u))], rowsR cy rr M m]) 0 rfl (Nat.le_of_ble_eq_true rfl) rfl rfl d2 rfl ?_
        refine TPerm (ws' := (Y ++ wS G cy (fun i => cond (Nat.beq i 1) b (q i)) (fun j => if j < m then rr j else a) tt (putR M x y z u) g) ++ [(q 1, gI G m (fun j => some (rr j)))]) ?_ (Tdrop _ rfl (kk b))
        refine List.Perm.trans (List.Perm.of_eq ?_) ((cats_permN [[(q 0, .inr (5, [.int (enc (M 20 0)), .int (enc (M 19 0)), .ref b, .ref (q 2)]))], Y, [(q 2, gI G (M 17 0).toNat (fun j => some (tt j)))], rowsT cy tt M g (M 17 0).toNat, [(b, gI G (m + 1) (fun j => some (if j < m then rr j else a)))], [(q 1, gI G m (fun j => some (rr j)))], [(a, arI cy 7 (rowA x y z u))], rowsR cy rr M m] [1, 0, 4, 2, 7, 6, 3, 5] 8 rfl (by decide)).trans (List.Perm.of_eq ?_))
        · simp only [cats]
        · have e16 : (putR M x y z u 16 0).toNat = m + 1 := by show (M 16 0 + 1).toNat = m + 1; omega
          unfold wS hdS
          rw [e16, rowsR_snoc (rr := rr) (M := M) (a := a) (f := rowA x y z u) (fun j hj => if_pos hj) (if_neg (Nat.lt_irrefl m)) (fun r r0 r1 => putR_row (by omega)) (by rw [hm2]; exact rowA_ok hF x y z u), rowsT_congr (M := M) (g := g) (fun t _ _ => putR_rowT)]
          simp only [cats, List.map, List.getD, List.getElem?_cons_succ, List.getElem?_cons_zero, Option.getD_some, List.append_assoc]
          rfl
theorem sr_addT (X : Ok G cy c cc RL nL R) (hNc : Nc c) (Y : va_W) {a : Nat} {x y s : Int} (hF : FI M) (h17 : 0 ≤ M 17 0 ∧ M 17 0 < 12) (hws : ws = (Y ++ [(a, arI cy 9 (rowN x y (M 20 0) s))]) ++ wS G cy q rr tt M g) (hR : 1 ≤ R.frames ∧ 8 + (4 + 11) + 0 ≤ R.locals) (hk : k + 1 ≤ R.cells ∧ n + 21 ≤ R.slots) (hcat : (st.map fun v => v.category).sum + 1 ≤ 8)
    (d1 : decode cc pc = .ok (.invokestatic 34, 3)) (d2 : decode cc (pc + 3) = .ok (.putfield 19, 3)) (kk : ∀ (b : Nat), T G c R nL (k + 1) (n + 21) (Y ++ wS G cy (fun i => cond (Nat.beq i 2) b (q i)) rr (fun j => if j < (M 17 0).toNat then tt j else a) (putT M x y s (M 20 0)) (ups g (M 17 0) (-1))) (pc + 3 + 3) lv st) : T G c R nL k n ws pc lv (.ref a :: .ref (q 2) :: .ref (q 0) :: st) := by
  subst hws
  generalize hm : (M 17 0).toNat = m at kk
  have hm2 : (m : Int) = M 17 0 := by omega
  refine TPerm (ws' := cats ([0, 2, 3, 5, 4, 1, 6].map (fun i => ([Y, [(a, arI cy 9 (rowN x y (M 20 0) s))], [(q 0, .inr (5, [.int (enc (M 20 0)), .int (enc (M 19 0)), .ref (q 1), .ref (q 2)]))], [(q 1, gI G (M 16 0).toNat (fun j => some (rr j)))], [(q 2, gI G m (fun j => some (tt j)))], rowsR cy rr M (M 16 0).toNat, rowsT cy tt M g m] : List va_W).getD i []))) ?_ ?_
  · refine List.Perm.trans (List.Perm.of_eq ?_) (cats_permN _ _ 7 rfl (by decide))
    unfold wS hdS
    rw [hm]
    simp only [cats, List.append_assoc]
    rfl
  · refine tw_callE X hNc (fun _ _ _ h => by cases h) sw_L_34 (m_X5_with (q 2) a tt (fun r => rowT M g (r : Int)) (rowN x y (M 20 0) s) m 9 (by omega)) (As := [.ref (q 2), .ref a]) (st := .ref (q 0) :: st) (cats [Y, [(q 0, .inr (5, [.int (enc (M 20 0)), .int (enc (M 19 0)), .ref (q 1), .ref (q 2)]))], [(q 1, gI G (M 16 0).toNat (fun j => some (rr j)))], rowsR cy rr M (M 16 0).toNat]) [] ?_ rfl rfl ⟨rfl, rfl, hR.1, hR.2⟩ hk (by show (Value.ref (q 0)).category + (st.map fun v => v.category).sum ≤ 8; rw [show (Value.ref (q 0)).category = 1 from rfl]; omega) d1 (fun v w1 hp => ?_)
    · simp only [cats, List.map, List.getD, List.getElem?_cons_succ, List.getElem?_cons_zero, Option.getD_some, List.append_assoc, List.append_nil]
      rfl
    · obtain ⟨b, rfl, rfl⟩ := hp
      refine TPerm (ws' := ([(q 0, .inr (5, [.int (enc (M 20 0)), .int (enc (M 19 0)), .ref (q 1), .ref (q 2)]))] : va_W) ++ cats [Y, [(q 1, gI G (M 16 0).toNat (fun j => some (rr j)))], rowsR cy rr M (M 16 0).toNat, [(b, gI G (m + 1) (fun j => some (if j < m then tt j else a)))], [(q 2, gI G m (fun j => some (tt j)))], [(a, arI cy 9 (rowN x y (M 20 0) s))], rowsT cy tt M g m]) ?_ ?_
      · refine List.Perm.trans (List.Perm.of_eq ?_) ((cats_permN [Y, [(q 0, .inr (5, [.int (enc (M 20 0)), .int (enc (M 19 0)), .ref (q 1), .ref (q 2)]))], [(q 1, gI G (M 16 0).toNat (fun j => some (rr j)))], rowsR cy rr M (M 16 0).toNat, [(b, gI G (m + 1) (fun j => some (if j < m then tt j else a)))], [(q 2, gI G m (fun j => some (tt j)))], [(a, arI cy 9 (rowN x y (M 20 0) s))], rowsT cy tt M g m] [1, 0, 2, 3, 4, 5, 6, 7] 8 rfl (by decide)).trans (List.Perm.of_eq ?_))
        · simp only [cats, List.append_assoc, List.append_nil]
          rfl
        · simp only [cats, List.map, List.getD, List.getElem?_cons_succ, List.getElem?_cons_zero, Option.getD_some]
      · refine pf_L_19 X (ws' := ([(q 0, .inr (5, [.int (enc (M 20 0)), .int (enc (M 19 0)), .ref (q 1), .ref b]))] : va_W) ++ cats [Y, [(q 1, gI G (M 16 0).toNat (fun j => some (rr j)))], rowsR cy rr M (M 16 0).toNat, [(b, gI G (m + 1) (fun j => some (if j < m then tt j else a)))], [(q 2, gI G m (fun j => some (tt j)))], [(a, arI cy 9 (rowN x y (M 20 0) s))], rowsT cy tt M g m]) 0 rfl (Nat.le_of_ble_eq_true rfl) rfl rfl d2 rfl ?_
        refine TPerm (ws' := (Y ++ wS G cy (fun i => cond (Nat.beq i 2) b (q i)) rr (fun j => if j < m then tt j else a) (putT M x y s (M 20 0)) (ups g (M 17 0) (-1))) ++ [(q 2, gI G m (fun j => some (tt j)))]) ?_ (Tdrop _ rfl (kk b))
        refine List.Perm.trans (List.Perm.of_eq ?_) ((cats_permN [[(q 0, .inr (5, [.int (enc (M 20 0)), .int (enc (M 19 0)), .ref (q 1), .ref b]))], Y, [(q 1, gI G (M 16 0).toNat (fun j => some (rr j)))], rowsR cy rr M (M 16 0).toNat, [(b, gI G (m + 1) (fun j => some (if j < m then tt j else a)))], [(q 2, gI G m (fun j => some (tt j)))], [(a, arI cy 9 (rowN x y (M 20 0) s))], rowsT cy tt M g m] [1, 0, 2, 4, 3, 7, 6, 5] 8 rfl (by decide)).trans (List.Perm.of_eq ?_))
        · simp only [cats]
        · have e17 : (putT M x y s (M 20 0) 17 0).toNat = m + 1 := by show (M 17 0 + 1).toNat = m + 1; omega
          have e16 : putT M x y s (M 20 0) 16 = M 16 := putT_n (by omega)
          unfold wS hdS
          rw [e17, e16, rowsT_snoc (tt := tt) (M := M) (g := g) (a := a) (f := rowN x y (M 20 0) s) (fun j hj => if_pos hj) (if_neg (Nat.lt_irrefl m)) (fun r r0 r1 => putT_row (by omega)) (by rw [hm2]; exact rowN_ok hF x y s), rowsR_congr (M := M) (N := putT M x y s (M 20 0)) (fun r _ _ => rowR_congr (fun k hk => by rw [putT_n (by omega)]))]
          simp only [cats, List.map, List.getD, List.getElem?_cons_succ, List.getElem?_cons_zero, Option.getD_some, List.append_assoc]
          rfl
end AD
