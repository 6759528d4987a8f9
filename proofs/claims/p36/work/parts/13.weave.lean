/-! THE WEAVE -/
theorem Tperm {G : va_G} {c : Cx} {R : Room} {nL k n : Nat} {ws : va_W} {pc : Nat} {lv : List (Nat × Value)} {st : List Value} {ws' : va_W} (is : List Nat) (h1 : is.filterMap (fun i => ws[i]?) = ws') (h2 : is.map (fun i => ws[i]?) = ws'.map some) (hn : va_nd is = true) (kk : T G c R nL k n ws' pc lv st) : T G c R nL k n ws pc lv st := Tcells (fun H hP => hP.sub is h1) (fun A hD => hD.sub is hn h2) kk
def WVo (M : MT) (s : Int → Int) (o : Int) : Prop := (o = 0 ∨ o = 1) ∧ (o = 0 → WV M true s)
theorem WV.congr {M N : MT} {s : Int → Int} (h : WV M true s) (h0 : N 0 = M 0) (h1 : N 1 = M 1) (h2 : N 2 = M 2) (h5 : N 5 = M 5) (h6 : ∀ r : Int, N 6 r = 0 ↔ M 6 r = 0) (h16 : N 16 0 = M 16 0) (h19 : N 19 0 = M 19 0) : WV N true s := by
  intro a b a0 a1 b0 b1
  rw [h19] at a1 b1
  rw [h a b a0 a1 b0 b1]
  exact (dst_congr h0 h1 h2 h5 h6 h16 a b).symm
theorem WVo.congr {M N : MT} {s : Int → Int} {o : Int} (h : WVo M s o) (h0 : N 0 = M 0) (h1 : N 1 = M 1) (h2 : N 2 = M 2) (h5 : N 5 = M 5) (h6 : ∀ r : Int, N 6 r = 0 ↔ M 6 r = 0) (h16 : N 16 0 = M 16 0) (h19 : N 19 0 = M 19 0) : WVo N s o := ⟨h.1, fun z => (h.2 z).congr h0 h1 h2 h5 h6 h16 h19⟩
theorem WVo.old {M : MT} {s : Int → Int} : WVo M s 1 := ⟨Or.inr rfl, fun z => absurd z (by decide)⟩
theorem mend1_no {M : MT} {r : Int} (h : M 6 r ≤ 0) : mend1 M r = M := if_neg (by omega)
theorem mend1_dec {M : MT} {r : Int} (h : 0 < M 6 r) (h2 : M 6 r - 1 ≠ 0) : mend1 M r = up M 6 r (M 6 r - 1) := by unfold mend1; rw [if_pos h, if_neg h2]
theorem mend1_open {M : MT} {r : Int} (h : 0 < M 6 r) (h2 : M 6 r - 1 = 0) : mend1 M r = reop (up M 6 r (M 6 r - 1)) r := by unfold mend1; rw [if_pos h, if_pos h2]
theorem up_n (M : MT) {k k' : Nat} (h : k' ≠ k) (i v : Int) : up M k i v k' = M k' := by funext j; rw [up_eq, if_neg (fun q => h q.1)]
theorem upc_n (M : MT) {k k' : Nat} (h : k' ≠ k) (v : Int) : upc M k v k' = M k' := by funext j; rw [upc_eq, if_neg h]
theorem close1_no {M : MT} {r : Int} (h : ¬ (M 6 r = 0 ∧ 5 ≤ M 4 r ∧ onR M r (M 17 0).toNat = 0)) : close1 M r = M := if_neg h
theorem close1_y {M : MT} {r : Int} (h : M 6 r = 0 ∧ 5 ≤ M 4 r ∧ onR M r (M 17 0).toNat = 0) : close1 M r = up M 6 r 4 := if_pos h
set_option maxRecDepth 100000 in
set_option maxHeartbeats 4000000 in
theorem m_X3_mixed {G : va_G} {cy : ClassId} (a b : Int) (ha : 0 ≤ a ∧ a ≤ 3) (hb : 0 ≤ b ∧ b ≤ 3) : Ct G cy yX3_mixed cX3_mixed 2 (some .int) ({ frames := 0, cells := 0, slots := 0, locals := 0 } : Room) 0 0 [.int (enc (a)), .int (enc (b))] ([]) (fun v w1 => v = some (.int (enc (mixD a b))) ∧ w1 = []) := by
  refine Ct.ofI (by decide) (Nat.le_of_ble_eq_true rfl) rfl rfl (fun _ _ _ => rfl) ?_
  intro c X ret
  refine Tlv (lv' := [(0, .int (enc (a))), (1, .int (enc (b)))]) rfl ?_
  refine tw_iload_n X dX3_mixed_0 0 rfl rfl ?_
  refine tw_if_eq (tgt := 9) X (In_of (by omega) (by omega)) dX3_mixed_1 (by decide) (fun c1 => ?_) (fun c1 => ?_)
  · skip
    refine tw_iload_n X dX3_mixed_9 1 rfl rfl ?_
    exact ret _ _ _ _ dX3_mixed_10 ⟨by unfold mixD; rw [if_pos (by omega)], rfl⟩
  · skip
    refine tw_iload_n X dX3_mixed_4 0 rfl rfl ?_
    refine tw_iload_n X dX3_mixed_5 1 rfl rfl ?_
    refine tw_icmp_ne (tgt := 11) X (In_of (by omega) (by omega)) (In_of (by omega) (by omega)) dX3_mixed_6 (by decide) (fun c6 => ?_) (fun c6 => ?_)
    · skip
      refine tw_iload_n X dX3_mixed_11 1 rfl rfl ?_
      refine tw_if_ne (tgt := 17) X (In_of (by omega) (by omega)) dX3_mixed_12 (by decide) (fun c12 => ?_) (fun c12 => ?_)
      · skip
        refine tw_bipush X dX3_mixed_17 (by decide) ?_
        refine tw_iload_n X dX3_mixed_19 0 rfl rfl ?_
        refine tw_isub (z := 6 - a) X dX3_mixed_20 rfl ?_
        refine tw_iload_n X dX3_mixed_21 1 rfl rfl ?_
        refine tw_isub (z := (6 - a) - b) X dX3_mixed_22 rfl ?_
        exact ret _ _ _ _ dX3_mixed_23 ⟨by unfold mixD; rw [if_neg (by omega), if_neg (by omega)], rfl⟩
      · skip
        refine tw_iload_n X dX3_mixed_15 0 rfl rfl ?_
        exact ret _ _ _ _ dX3_mixed_16 ⟨by unfold mixD; rw [if_neg (by omega), if_pos (by omega)], rfl⟩
    · skip
      refine tw_iload_n X dX3_mixed_9 1 rfl rfl ?_
      exact ret _ _ _ _ dX3_mixed_10 ⟨by unfold mixD; rw [if_pos (by omega)], rfl⟩
set_option maxRecDepth 100000 in
set_option maxHeartbeats 4000000 in
theorem m_X3_putCrossing {G : va_G} {cy : ClassId} {q : Nat → Nat} (M : MT) (s : Int → Int) (o : Int) : Ct G cy yX3_putCrossing cX3_putCrossing 1 (some .int) ({ frames := 0, cells := 0, slots := 0, locals := 0 } : Room) 0 0 [.ref (q 0)] (wV cy q M s o) (fun v w1 => v = some (.int (enc (M 19 0))) ∧ w1 = wV cy q (upc M 19 (M 19 0 + 1)) s 1) := by
  refine Ct.ofI (by decide) (Nat.le_of_ble_eq_true rfl) rfl rfl (fun _ _ _ => rfl) ?_
  intro c X ret
  refine Tlv (lv' := [(0, .ref (q 0))]) rfl ?_
  refine tw_aload_n X dX3_putCrossing_0 0 rfl rfl ?_
  refine tw_iconst X dX3_putCrossing_1 ?_
  refine pf_X3_49 X (ws' := wV cy q M s (1)) 0 rfl (Nat.le_of_ble_eq_true rfl) rfl rfl dX3_putCrossing_2 rfl ?_
  refine tw_aload_n X dX3_putCrossing_5 0 rfl rfl ?_
  refine tw_dup X dX3_putCrossing_6 rfl ?_
  refine gf_X3_42 X (v := .int (enc (M 19 0))) 0 rfl rfl dX3_putCrossing_7 ?_
  refine tw_iconst X dX3_putCrossing_10 ?_
  refine tw_iadd (z := (M 19 0) + 1) X dX3_putCrossing_11 rfl ?_
  refine pf_X3_42 X (ws' := wV cy q (upc M 19 ((M 19 0) + 1)) s (1)) 0 rfl (Nat.le_of_ble_eq_true rfl) rfl rfl dX3_putCrossing_12 rfl ?_
  refine tw_aload_n X dX3_putCrossing_15 0 rfl rfl ?_
  refine gf_X3_42 X (v := .int (enc ((M 19 0) + 1))) 0 rfl rfl dX3_putCrossing_16 ?_
  refine tw_iconst X dX3_putCrossing_19 ?_
  refine tw_isub (z := M 19 0) X dX3_putCrossing_20 (by omega) ?_
  exact ret _ _ _ _ dX3_putCrossing_21 ⟨rfl, rfl⟩
set_option maxRecDepth 100000 in
set_option maxHeartbeats 4000000 in
theorem m_X3_putRoad {G : va_G} {cy : ClassId} {q : Nat → Nat} (M : MT) (s : Int → Int) (o : Int) (a b l d : Int) (h : 0 ≤ M 16 0 ∧ M 16 0 < 20) : Ct G cy yX3_putRoad cX3_putRoad 5 (some .int) ({ frames := 1, cells := 0, slots := 0, locals := 25 } : Room) 0 0 [.ref (q 0), .int (enc (a)), .int (enc (b)), .int (enc (l)), .int (enc (d))] (wV cy q M s o) (fun v w1 => v = some (.int (enc (M 16 0))) ∧ w1 = wV cy q (putR M a b l d) s 1) := by
  refine Ct.ofI (by decide) (Nat.le_of_ble_eq_true rfl) rfl rfl (fun _ _ _ => rfl) ?_
  intro c X ret
  refine Tlv (lv' := [(0, .ref (q 0)), (1, .int (enc (a))), (2, .int (enc (b))), (3, .int (enc (l))), (4, .int (enc (d)))]) rfl ?_
  refine tw_aload_n X dX3_putRoad_0 0 rfl rfl ?_
  refine tw_iconst X dX3_putRoad_1 ?_
  refine pf_X3_49 X (ws' := wV cy q M s (1)) 0 rfl (Nat.le_of_ble_eq_true rfl) rfl rfl dX3_putRoad_2 rfl ?_
  refine tw_aload_n X dX3_putRoad_5 0 rfl rfl ?_
  refine gf_X3_12 X (v := .ref (q 1)) 0 rfl rfl dX3_putRoad_6 ?_
  refine tw_iload_n X dX3_putRoad_9 1 rfl rfl ?_
  refine tw_iload_n X dX3_putRoad_10 2 rfl rfl ?_
  refine tw_iload_n X dX3_putRoad_11 3 rfl rfl ?_
  refine tw_iload X dX3_putRoad_12 4 rfl ?_
  refine tw_callV X (As := [.int (enc (a)), .int (enc (b)), .int (enc (l)), .int (enc (d))]) (st := []) vw_X3_53 (m_X0_put (q := (fun i => q (1 + i))) M (a) (b) (l) (d) (by omega)) (([(q 0, .inr (3, [.ref (q 1), .ref (q 9), .ref (q 19), .int (enc (M 19 0)), .int (enc (M 20 0)), .int (enc ((1)))]))])) ((wT cy (fun i => q (9 + i)) M) ++ (wY cy (fun i => q (19 + i)) s)) rfl rfl (q0 := 0) rfl rfl rfl ⟨rfl, rfl, Nat.le_of_ble_eq_true rfl, Nat.le_of_ble_eq_true rfl⟩ ⟨Nat.le_of_ble_eq_true rfl, Nat.le_of_ble_eq_true rfl⟩ (Nat.le_of_ble_eq_true rfl) dX3_putRoad_14 (fun v w1 hp => ?_)
  obtain ⟨rfl, rfl⟩ := hp
  refine Teq (ws' := wV cy q (putR M a b l d) s (1)) (lv' := [(0, .ref (q 0)), (1, .int (enc (a))), (2, .int (enc (b))), (3, .int (enc (l))), (4, .int (enc (d)))]) (st' := [.int (enc (M 16 0))]) rfl rfl rfl ?_
  exact ret _ _ _ _ dX3_putRoad_17 ⟨rfl, rfl⟩
set_option maxRecDepth 100000 in
set_option maxHeartbeats 4000000 in
theorem m_X3_closeRoad {G : va_G} {cy : ClassId} {q : Nat → Nat} (M : MT) (s : Int → Int) (o : Int) (r h : Int) (hr : 0 ≤ r ∧ r < 20) : Ct G cy yX3_closeRoad cX3_closeRoad 3 none ({ frames := 0, cells := 0, slots := 0, locals := 0 } : Room) 0 0 [.ref (q 0), .int (enc (r)), .int (enc (h))] (wV cy q M s o) (fun v w1 => v = none ∧ w1 = wV cy q (up M 6 r h) s 1) := by
  refine Ct.ofV (by decide) (Nat.le_of_ble_eq_true rfl) rfl rfl ?_
  intro c X ret
  refine Tlv (lv' := [(0, .ref (q 0)), (1, .int (enc (r))), (2, .int (enc (h)))]) rfl ?_
  refine tw_aload_n X dX3_closeRoad_0 0 rfl rfl ?_
  refine tw_iconst X dX3_closeRoad_1 ?_
  refine pf_X3_49 X (ws' := wV cy q M s (1)) 0 rfl (Nat.le_of_ble_eq_true rfl) rfl rfl dX3_closeRoad_2 rfl ?_
  refine tw_aload_n X dX3_closeRoad_5 0 rfl rfl ?_
  refine gf_X3_12 X (v := .ref (q 1)) 0 rfl rfl dX3_closeRoad_6 ?_
  refine gf_X3_57 X (v := .ref (q 8)) 1 rfl rfl dX3_closeRoad_9 ?_
  refine tw_iload_n X dX3_closeRoad_12 1 rfl rfl ?_
  refine tw_iload_n X dX3_closeRoad_13 2 rfl rfl ?_
  refine tw_iast X (N := 20) (f := (M 6)) (ws' := wV cy q (up M 6 (r) (h)) s (1)) 8 rfl (by decide) (by omega) dX3_closeRoad_14 rfl ?_
  exact ret _ _ _ dX3_closeRoad_15 ⟨rfl, rfl⟩
set_option maxRecDepth 100000 in
set_option maxHeartbeats 4000000 in
theorem m_X3_untie {G : va_G} {cy : ClassId} {q : Nat → Nat} (M : MT) (s : Int → Int) (o : Int) (r : Int) (hr : 0 ≤ r ∧ r < 20) : Ct G cy yX3_untie cX3_untie 3 (some .int) ({ frames := 0, cells := 0, slots := 0, locals := 0 } : Room) 0 0 [.ref (q 0), .int (enc (r))] (wV cy q M s o) (fun v w1 => v = some (.int (enc (M 5 r))) ∧ w1 = wV cy q (up M 5 r 0) s 1) := by
  refine Ct.ofI (by decide) (Nat.le_of_ble_eq_true rfl) rfl rfl (fun _ _ _ => rfl) ?_
  intro c X ret
  refine Tlv (lv' := [(0, .ref (q 0)), (1, .int (enc (r)))]) rfl ?_
  refine tw_aload_n X dX3_untie_0 0 rfl rfl ?_
  refine tw_iconst X dX3_untie_1 ?_
  refine pf_X3_49 X (ws' := wV cy q M s (1)) 0 rfl (Nat.le_of_ble_eq_true rfl) rfl rfl dX3_untie_2 rfl ?_
  refine tw_aload_n X dX3_untie_5 0 rfl rfl ?_
  refine gf_X3_12 X (v := .ref (q 1)) 0 rfl rfl dX3_untie_6 ?_
  refine gf_X3_61 X (v := .ref (q 7)) 1 rfl rfl dX3_untie_9 ?_
  refine tw_iload_n X dX3_untie_12 1 rfl rfl ?_
  refine tw_iald X (N := 20) (f := (M 5)) 7 rfl (by decide) (by omega) dX3_untie_13 ?_
  refine Tst (st' := [.int (enc (M 5 r))]) rfl ?_
  refine tw_istore_n (lv' := [(2, .int (enc (M 5 r))), (0, .ref (q 0)), (1, .int (enc (r)))]) X dX3_untie_14 rfl (by decide) rfl ?_
  refine tw_aload_n X dX3_untie_15 1 rfl rfl ?_
  refine gf_X3_12 X (v := .ref (q 1)) 0 rfl rfl dX3_untie_16 ?_
  refine gf_X3_61 X (v := .ref (q 7)) 1 rfl rfl dX3_untie_19 ?_
  refine tw_iload_n X dX3_untie_22 2 rfl rfl ?_
  refine tw_iconst X dX3_untie_23 ?_
  refine tw_iast X (N := 20) (f := (M 5)) (ws' := wV cy q (up M 5 (r) (0)) s (1)) 7 rfl (by decide) (by omega) dX3_untie_24 rfl ?_
  refine tw_iload_n X dX3_untie_25 0 rfl rfl ?_
  exact ret _ _ _ _ dX3_untie_26 ⟨rfl, rfl⟩
set_option maxRecDepth 100000 in
set_option maxHeartbeats 4000000 in
theorem m_X3_findOpenWays {G : va_G} {cy : ClassId} {q : Nat → Nat} (M : MT) (s : Int → Int) (o : Int) (hW : WFR M) (hB : Bd M) (hV : WVo M s o) : Ct G cy yX3_findOpenWays cX3_findOpenWays 1 none ({ frames := 2, cells := 0, slots := 0, locals := 52 } : Room) 0 0 [.ref (q 0)] (wV cy q M s o) (fun v w1 => v = none ∧ ∃ s', WV M true s' ∧ w1 = wV cy q M s' 0) := by
  refine Ct.ofV (by decide) (Nat.le_of_ble_eq_true rfl) rfl rfl ?_
  intro c X ret
  have ho := hV.1
  refine Tlv (lv' := [(0, .ref (q 0))]) rfl ?_
  refine tw_aload_n X dX3_findOpenWays_0 0 rfl rfl ?_
  refine gf_X3_49 X (v := .int (enc (o))) 0 rfl rfl dX3_findOpenWays_1 ?_
  refine tw_if_eq (tgt := 28) X (In_of (by omega) (by omega)) dX3_findOpenWays_4 (by decide) (fun c4 => ?_) (fun c4 => ?_)
  · skip
    exact ret _ _ _ dX3_findOpenWays_28 (by first | exact ⟨rfl, sf, fun a b a0 a1 b0 b1 => Stg.dst hW hsf a0 a1 b0 b1, rfl⟩ | exact ⟨rfl, s, hV.2 c4, by rw [c4]⟩)
  · skip
    refine tw_aload_n X dX3_findOpenWays_7 0 rfl rfl ?_
    refine gf_X3_28 X (v := .ref (q 19)) 0 rfl rfl dX3_findOpenWays_8 ?_
    refine tw_aload_n X dX3_findOpenWays_11 0 rfl rfl ?_
    refine gf_X3_12 X (v := .ref (q 1)) 0 rfl rfl dX3_findOpenWays_12 ?_
    refine tw_aload_n X dX3_findOpenWays_15 0 rfl rfl ?_
    refine gf_X3_42 X (v := .int (enc (M 19 0))) 0 rfl rfl dX3_findOpenWays_16 ?_
    refine tw_iconst X dX3_findOpenWays_19 ?_
    refine Tperm (ws' := (([(q 0, .inr (3, [.ref (q 1), .ref (q 9), .ref (q 19), .int (enc (M 19 0)), .int (enc (M 20 0)), .int (enc (o))]))]) ++ (wT cy (fun i => q (9 + i)) M)) ++ ((wR cy (fun i => q (1 + i)) M) ++ (wY cy (fun i => q (19 + i)) s))) [0, 9, 10, 11, 12, 13, 14, 15, 16, 17, 18, 1, 2, 3, 4, 5, 6, 7, 8, 19, 20] rfl rfl rfl ?_
    refine tw_callV X (As := [.ref (q 1), .int (enc (M 19 0)), .int (enc (1))]) (st := []) vw_X3_64 (m_X2_find (q := (fun i => cond (Nat.blt i 8) (q (1 + (i - 0))) (q (19 + (i - 8))))) M s true hW hB) (([(q 0, .inr (3, [.ref (q 1), .ref (q 9), .ref (q 19), .int (enc (M 19 0)), .int (enc (M 20 0)), .int (enc (o))]))]) ++ (wT cy (fun i => q (9 + i)) M)) ([]) rfl rfl (q0 := 8) rfl rfl rfl ⟨rfl, rfl, Nat.le_of_ble_eq_true rfl, Nat.le_of_ble_eq_true rfl⟩ ⟨Nat.le_of_ble_eq_true rfl, Nat.le_of_ble_eq_true rfl⟩ (Nat.le_of_ble_eq_true rfl) dX3_findOpenWays_20 (fun v w1 hp => ?_)
    obtain ⟨rfl, sf, hsf, rfl⟩ := hp
    refine Teq (ws' := (([(q 0, .inr (3, [.ref (q 1), .ref (q 9), .ref (q 19), .int (enc (M 19 0)), .int (enc (M 20 0)), .int (enc (o))]))]) ++ (wT cy (fun i => q (9 + i)) M)) ++ ((wR cy (fun i => q (1 + i)) M) ++ (wY cy (fun i => q (19 + i)) sf))) (lv' := [(0, .ref (q 0))]) (st' := []) rfl rfl rfl ?_
    refine Tperm (ws' := wV cy q M sf o) [0, 11, 12, 13, 14, 15, 16, 17, 18, 1, 2, 3, 4, 5, 6, 7, 8, 9, 10, 19, 20] rfl rfl rfl ?_
    refine tw_aload_n X dX3_findOpenWays_23 0 rfl rfl ?_
    refine tw_iconst X dX3_findOpenWays_24 ?_
    refine pf_X3_49 X (ws' := wV cy q M sf (0)) 0 rfl (Nat.le_of_ble_eq_true rfl) rfl rfl dX3_findOpenWays_25 rfl ?_
    exact ret _ _ _ dX3_findOpenWays_28 (by first | exact ⟨rfl, sf, fun a b a0 a1 b0 b1 => Stg.dst hW hsf a0 a1 b0 b1, rfl⟩ | exact ⟨rfl, s, hV.2 c4, by rw [c4]⟩)
set_option maxRecDepth 100000 in
set_option maxHeartbeats 4000000 in
theorem m_X3_goOnMending {G : va_G} {cy : ClassId} {q : Nat → Nat} (M : MT) (s : Int → Int) (o : Int) (B : Int) (hF : WF M B) (hB2 : B ≤ 2000000) (hV : WVo M s o) : Ct G cy yX3_goOnMending cX3_goOnMending 2 none ({ frames := 1, cells := 0, slots := 0, locals := 21 } : Room) 0 0 [.ref (q 0)] (wV cy q M s o) (fun v w1 => v = none ∧ ∃ o', WVo (mendI M (M 16 0).toNat) s o' ∧ w1 = wV cy q (mendI M (M 16 0).toNat) s o') := by
  refine Ct.ofV (by decide) (Nat.le_of_ble_eq_true rfl) rfl rfl ?_
  intro c X ret
  obtain ⟨w0, w1, w2, w3, w4⟩ := hF.r
  refine Tlv (lv' := [(0, .ref (q 0))]) rfl ?_
  refine tw_iconst X dX3_goOnMending_0 ?_
  refine tw_istore_n (lv' := [(1, .int (enc (0))), (0, .ref (q 0))]) X dX3_goOnMending_1 rfl (by decide) rfl ?_
  have L2 : ∀ (fu i : Nat) (o1 : Int), (i : Int) ≤ M 16 0 → M 16 0 + 1 ≤ (i : Int) + fu → WVo (mendI M i) s o1 → T G c ({ frames := 1, cells := 0, slots := 0, locals := 21 } : Room) 2 0 0 (wV cy q (mendI M i) s o1) 2 [(0, .ref (q 0)), (1, .int (enc ((i : Int))))] [] := by
    intro fu
    induction fu with
    | zero =>
      intro i o1 hi0 hi1
      exact absurd hi1 (by omega)
    | succ fu ih2 =>
      intro i o1 hi0_2 hi1_2 hVi
      have hBi := (hF.k_mendI i).bd hB2
      have e16 : mendI M i 16 0 = M 16 0 := by rw [mendI_eq M (by omega) i]
      have d6 := (hF.k_mendI i).2.2.2.1 (i : Int)
      refine tw_iload_n X dX3_goOnMending_2 1 rfl rfl ?_
      refine tw_aload_n X dX3_goOnMending_3 0 rfl rfl ?_
      refine gf_X3_12 X (v := .ref (q 1)) 0 rfl rfl dX3_goOnMending_4 ?_
      refine gf_X3_69 X (v := .int (enc ((mendI M i) 16 0))) 1 rfl rfl dX3_goOnMending_7 ?_
      have b1 := hBi 16 0
      refine tw_icmp_ge (tgt := 69) X (In_of (by omega) (by omega)) (In_of (by omega) (by omega)) dX3_goOnMending_10 (by decide) (fun c10 => ?_) (fun c10 => ?_)
      · skip
        exact ret _ _ _ dX3_goOnMending_69 ⟨rfl, o1, by rw [show (M 16 0).toNat = i by omega]; exact hVi, by rw [show (M 16 0).toNat = i by omega]⟩
      · skip
        refine tw_aload_n X dX3_goOnMending_13 0 rfl rfl ?_
        refine gf_X3_12 X (v := .ref (q 1)) 0 rfl rfl dX3_goOnMending_14 ?_
        refine gf_X3_57 X (v := .ref (q 8)) 1 rfl rfl dX3_goOnMending_17 ?_
        refine tw_iload_n X dX3_goOnMending_20 1 rfl rfl ?_
        refine tw_iald X (N := 20) (f := ((mendI M i) 6)) 8 rfl (by decide) (by omega) dX3_goOnMending_21 ?_
        refine Tst (st' := [.int (enc ((mendI M i) 6 (i : Int)))]) rfl ?_
        have b2 := hBi 6 (i : Int)
        refine tw_if_le (tgt := 63) X (In_of (by omega) (by omega)) dX3_goOnMending_22 (by decide) (fun c22 => ?_) (fun c22 => ?_)
        · skip
          have eM : mendI M (i + 1) = mendI M i := by rw [mendI_s, mend1_no c22]
          have hVn := hVi
          refine tw_iinc (q := 1) (x := (i : Int)) (y := (i : Int) + 1) (lv' := [(1, .int (enc ((i : Int) + 1))), (0, .ref (q 0))]) X dX3_goOnMending_63 rfl rfl (by decide) rfl ?_
          refine tw_goto (tgt := 2) X dX3_goOnMending_66 (by decide) ?_
          refine Tsub (lv' := [(0, .ref (q 0)), (1, .int (enc ((i : Int) + 1)))]) [1, 0] rfl ?_
          refine Teq (ws' := wV cy q (mendI M (i + 1)) s (o1)) (lv' := [(0, .ref (q 0)), (1, .int (enc (((i + 1 : Nat) : Int))))]) (st' := []) (by rw [eM]) (lvk (lvc (i_succ i) (rfl))) rfl (ih2 (i + 1) (o1) (by omega) (by omega) (by rw [eM]; exact hVn))
        · skip
          refine tw_aload_n X dX3_goOnMending_25 0 rfl rfl ?_
          refine gf_X3_12 X (v := .ref (q 1)) 0 rfl rfl dX3_goOnMending_26 ?_
          refine gf_X3_57 X (v := .ref (q 8)) 1 rfl rfl dX3_goOnMending_29 ?_
          refine tw_iload_n X dX3_goOnMending_32 1 rfl rfl ?_
          refine tw_dup2 X dX3_goOnMending_33 rfl rfl ?_
          refine tw_iald X (N := 20) (f := ((mendI M i) 6)) 8 rfl (by decide) (by omega) dX3_goOnMending_34 ?_
          refine Tst (st' := [.int (enc ((mendI M i) 6 (i : Int))), .int (enc ((i : Int))), .ref (q 8)]) rfl ?_
          have b3 := hBi 6 (i : Int)
          refine tw_iconst X dX3_goOnMending_35 ?_
          refine tw_isub (z := ((mendI M i) 6 (i : Int)) - 1) X dX3_goOnMending_36 rfl ?_
          refine tw_iast X (N := 20) (f := ((mendI M i) 6)) (ws' := wV cy q (up (mendI M i) 6 ((i : Int)) (((mendI M i) 6 (i : Int)) - 1)) s o1) 8 rfl (by decide) (by omega) dX3_goOnMending_37 rfl ?_
          refine tw_aload_n X dX3_goOnMending_38 0 rfl rfl ?_
          refine gf_X3_12 X (v := .ref (q 1)) 0 rfl rfl dX3_goOnMending_39 ?_
          refine gf_X3_57 X (v := .ref (q 8)) 1 rfl rfl dX3_goOnMending_42 ?_
          refine tw_iload_n X dX3_goOnMending_45 1 rfl rfl ?_
          refine tw_iald X (N := 20) (f := (ups ((mendI M i) 6) ((i : Int)) (((mendI M i) 6 (i : Int)) - 1))) 8 rfl (by decide) (by omega) dX3_goOnMending_46 ?_
          refine Tst (st' := [.int (enc (((mendI M i) 6 (i : Int)) - 1))]) (by rw [ups_same]) ?_
          refine tw_if_ne (tgt := 63) X (In_of (by omega) (by omega)) dX3_goOnMending_47 (by decide) (fun c47 => ?_) (fun c47 => ?_)
          · skip
            have eM : mendI M (i + 1) = up (mendI M i) 6 (i : Int) ((mendI M i) 6 (i : Int) - 1) := by rw [mendI_s, mend1_dec c22 c47]
            have hVn : WVo (up (mendI M i) 6 (i : Int) ((mendI M i) 6 (i : Int) - 1)) s o1 := hVi.congr (N := up (mendI M i) 6 (i : Int) ((mendI M i) 6 (i : Int) - 1)) rfl rfl rfl rfl (fun r => by rw [up_eq]; split <;> first | exact Iff.rfl | (rename_i q; rw [q.2]; omega)) rfl rfl
            refine tw_iinc (q := 1) (x := (i : Int)) (y := (i : Int) + 1) (lv' := [(1, .int (enc ((i : Int) + 1))), (0, .ref (q 0))]) X dX3_goOnMending_63 rfl rfl (by decide) rfl ?_
            refine tw_goto (tgt := 2) X dX3_goOnMending_66 (by decide) ?_
            refine Tsub (lv' := [(0, .ref (q 0)), (1, .int (enc ((i : Int) + 1)))]) [1, 0] rfl ?_
            refine Teq (ws' := wV cy q (mendI M (i + 1)) s (o1)) (lv' := [(0, .ref (q 0)), (1, .int (enc (((i + 1 : Nat) : Int))))]) (st' := []) (by rw [eM]) (lvk (lvc (i_succ i) (rfl))) rfl (ih2 (i + 1) (o1) (by omega) (by omega) (by rw [eM]; exact hVn))
          · skip
            have eM : mendI M (i + 1) = reop (up (mendI M i) 6 (i : Int) ((mendI M i) 6 (i : Int) - 1)) (i : Int) := by rw [mendI_s, mend1_open c22 c47]
            have hVn : WVo (reop (up (mendI M i) 6 (i : Int) ((mendI M i) 6 (i : Int) - 1)) (i : Int)) s 1 := WVo.old
            have hBu : Bd (up (mendI M i) 6 (i : Int) ((mendI M i) 6 (i : Int) - 1)) := hBi.up (by omega)
            refine tw_aload_n X dX3_goOnMending_50 0 rfl rfl ?_
            refine gf_X3_12 X (v := .ref (q 1)) 0 rfl rfl dX3_goOnMending_51 ?_
            refine tw_iload_n X dX3_goOnMending_54 1 rfl rfl ?_
            refine tw_callV X (As := [.int (enc ((i : Int)))]) (st := []) vw_X3_105 (m_X0_reopen (q := (fun i => q (1 + i))) (up (mendI M i) 6 ((i : Int)) (((mendI M i) 6 (i : Int)) - 1)) ((i : Int)) hBu (by omega)) (([(q 0, .inr (3, [.ref (q 1), .ref (q 9), .ref (q 19), .int (enc ((mendI M i) 19 0)), .int (enc ((mendI M i) 20 0)), .int (enc (o1))]))])) ((wT cy (fun i => q (9 + i)) (up (mendI M i) 6 ((i : Int)) (((mendI M i) 6 (i : Int)) - 1))) ++ (wY cy (fun i => q (19 + i)) s)) rfl rfl (q0 := 0) rfl rfl rfl ⟨rfl, rfl, Nat.le_of_ble_eq_true rfl, Nat.le_of_ble_eq_true rfl⟩ ⟨Nat.le_of_ble_eq_true rfl, Nat.le_of_ble_eq_true rfl⟩ (Nat.le_of_ble_eq_true rfl) dX3_goOnMending_55 (fun v w1 hp => ?_)
            obtain ⟨rfl, rfl⟩ := hp
            refine Teq (ws' := wV cy q (reop (up (mendI M i) 6 ((i : Int)) (((mendI M i) 6 (i : Int)) - 1)) (i : Int)) s o1) (lv' := [(0, .ref (q 0)), (1, .int (enc ((i : Int))))]) (st' := []) rfl rfl rfl ?_
            refine tw_aload_n X dX3_goOnMending_58 0 rfl rfl ?_
            refine tw_iconst X dX3_goOnMending_59 ?_
            refine pf_X3_49 X (ws' := wV cy q (reop (up (mendI M i) 6 ((i : Int)) (((mendI M i) 6 (i : Int)) - 1)) (i : Int)) s (1)) 0 rfl (Nat.le_of_ble_eq_true rfl) rfl rfl dX3_goOnMending_60 rfl ?_
            refine tw_iinc (q := 1) (x := (i : Int)) (y := (i : Int) + 1) (lv' := [(1, .int (enc ((i : Int) + 1))), (0, .ref (q 0))]) X dX3_goOnMending_63 rfl rfl (by decide) rfl ?_
            refine tw_goto (tgt := 2) X dX3_goOnMending_66 (by decide) ?_
            refine Tsub (lv' := [(0, .ref (q 0)), (1, .int (enc ((i : Int) + 1)))]) [1, 0] rfl ?_
            refine Teq (ws' := wV cy q (mendI M (i + 1)) s ((1))) (lv' := [(0, .ref (q 0)), (1, .int (enc (((i + 1 : Nat) : Int))))]) (st' := []) (by rw [eM]) (lvk (lvc (i_succ i) (rfl))) rfl (ih2 (i + 1) ((1)) (by omega) (by omega) (by rw [eM]; exact hVn))
  refine Tsub (lv' := [(0, .ref (q 0)), (1, .int (enc (0)))]) [1, 0] rfl ?_
  refine Teq (ws' := wV cy q (mendI M 0) s (o)) (lv' := [(0, .ref (q 0)), (1, .int (enc (((0 : Nat) : Int))))]) (st' := []) (rfl) (rfl) rfl (L2 (M 16 0 + 1).toNat 0 (o) (by omega) (by omega) (hV))
set_option maxRecDepth 100000 in
set_option maxHeartbeats 4000000 in
theorem m_X3_roadToward {G : va_G} {cy : ClassId} {q : Nat → Nat} (M : MT) (s : Int → Int) (o : Int) (p g : Int) (hW : WFR M) (hB : Bd M) (h6 : ∀ r : Int, 0 ≤ M 6 r) (hV : WV M true s) (hp : 0 ≤ p ∧ p < M 19 0) (hg : 0 ≤ g ∧ g < M 19 0) : Ct G cy yX3_roadToward cX3_roadToward 8 (some .int) ({ frames := 1, cells := 0, slots := 0, locals := 22 } : Room) 0 0 [.ref (q 0), .int (enc (p)), .int (enc (g))] (wV cy q M s o) (fun v w1 => v = some (.int (enc (toward M p g))) ∧ w1 = wV cy q M s o) := by
  refine Ct.ofI (by decide) (Nat.le_of_ble_eq_true rfl) rfl rfl (fun _ _ _ => rfl) ?_
  intro c X ret
  obtain ⟨w0, w1, w2, w3, w4⟩ := id hW
  refine Tlv (lv' := [(0, .ref (q 0)), (1, .int (enc (p))), (2, .int (enc (g)))]) rfl ?_
  refine tw_iconst X dX3_roadToward_0 ?_
  refine tw_istore_n (lv' := [(3, .int (enc (-1))), (0, .ref (q 0)), (1, .int (enc (p))), (2, .int (enc (g)))]) X dX3_roadToward_1 rfl (by decide) rfl ?_
  refine tw_ldc X (z := 1000000) wk_X3_68 (by decide) dX3_roadToward_2 ?_
  refine tw_istore (lv' := [(4, .int (enc (1000000))), (3, .int (enc (-1))), (0, .ref (q 0)), (1, .int (enc (p))), (2, .int (enc (g)))]) X dX3_roadToward_4 (by decide) rfl ?_
  refine tw_iconst X dX3_roadToward_6 ?_
  refine tw_istore (lv' := [(5, .int (enc (0))), (4, .int (enc (1000000))), (3, .int (enc (-1))), (0, .ref (q 0)), (1, .int (enc (p))), (2, .int (enc (g)))]) X dX3_roadToward_7 (by decide) rfl ?_
  have L9 : ∀ (fu i : Nat), (i : Int) ≤ M 16 0 → M 16 0 + 1 ≤ (i : Int) + fu → T G c ({ frames := 1, cells := 0, slots := 0, locals := 22 } : Room) 8 0 0 (wV cy q M s o) 9 [(0, .ref (q 0)), (1, .int (enc (p))), (2, .int (enc (g))), (3, .int (enc ((twd M p g i).1))), (4, .int (enc ((twd M p g i).2))), (5, .int (enc ((i : Int))))] [] := by
    intro fu
    induction fu with
    | zero =>
      intro i  hi0 hi1
      exact absurd hi1 (by omega)
    | succ fu ih9 =>
      intro i  hi0_9 hi1_9 
      refine tw_iload X dX3_roadToward_9 5 rfl ?_
      refine tw_aload_n X dX3_roadToward_11 0 rfl rfl ?_
      refine gf_X3_12 X (v := .ref (q 1)) 0 rfl rfl dX3_roadToward_12 ?_
      refine gf_X3_69 X (v := .int (enc (M 16 0))) 1 rfl rfl dX3_roadToward_15 ?_
      have b1 := hB 16 0
      refine tw_icmp_ge (tgt := 102) X (In_of (by omega) (by omega)) (In_of (by omega) (by omega)) dX3_roadToward_18 (by decide) (fun c18 => ?_) (fun c18 => ?_)
      · skip
        refine tw_iload_n X dX3_roadToward_102 3 rfl rfl ?_
        exact ret _ _ _ _ dX3_roadToward_103 ⟨by unfold toward; rw [show (M 16 0).toNat = i by omega], rfl⟩
      · skip
        refine tw_aload_n X dX3_roadToward_21 0 rfl rfl ?_
        refine gf_X3_12 X (v := .ref (q 1)) 0 rfl rfl dX3_roadToward_22 ?_
        refine gf_X3_57 X (v := .ref (q 8)) 1 rfl rfl dX3_roadToward_25 ?_
        refine tw_iload X dX3_roadToward_28 5 rfl ?_
        refine tw_iald X (N := 20) (f := (M 6)) 8 rfl (by decide) (by omega) dX3_roadToward_30 ?_
        refine Tst (st' := [.int (enc (M 6 (i : Int)))]) rfl ?_
        have b2 := hB 6 (i : Int)
        refine tw_if_le (tgt := 38) X (In_of (by omega) (by omega)) dX3_roadToward_31 (by decide) (fun c31 => ?_) (fun c31 => ?_)
        · skip
          have h60 : M 6 (i : Int) = 0 := by have := h6 (i : Int); omega
          refine tw_aload_n X dX3_roadToward_38 0 rfl rfl ?_
          refine gf_X3_12 X (v := .ref (q 1)) 0 rfl rfl dX3_roadToward_39 ?_
          refine tw_iload X dX3_roadToward_42 5 rfl ?_
          refine tw_iload_n X dX3_roadToward_44 1 rfl rfl ?_
          refine tw_callV X (As := [.int (enc ((i : Int))), .int (enc (p))]) (st := []) vw_X3_72 (m_X0_endFrom (q := (fun i => q (1 + i))) M ((i : Int)) (p) hB (by omega) (by omega)) (([(q 0, .inr (3, [.ref (q 1), .ref (q 9), .ref (q 19), .int (enc (M 19 0)), .int (enc (M 20 0)), .int (enc (o))]))])) ((wT cy (fun i => q (9 + i)) M) ++ (wY cy (fun i => q (19 + i)) s)) rfl rfl (q0 := 0) rfl rfl rfl ⟨rfl, rfl, Nat.le_of_ble_eq_true rfl, Nat.le_of_ble_eq_true rfl⟩ ⟨Nat.le_of_ble_eq_true rfl, Nat.le_of_ble_eq_true rfl⟩ (Nat.le_of_ble_eq_true rfl) dX3_roadToward_45 (fun v w1 hp => ?_)
          obtain ⟨rfl, rfl⟩ := hp
          refine Teq (ws' := wV cy q M s o) (lv' := [(0, .ref (q 0)), (1, .int (enc (p))), (2, .int (enc (g))), (3, .int (enc ((twd M p g i).1))), (4, .int (enc ((twd M p g i).2))), (5, .int (enc ((i : Int))))]) (st' := [.int (enc (endF M (i : Int) p))]) rfl rfl rfl ?_
          refine tw_istore (lv' := [(6, .int (enc (endF M (i : Int) p))), (0, .ref (q 0)), (1, .int (enc (p))), (2, .int (enc (g))), (3, .int (enc ((twd M p g i).1))), (4, .int (enc ((twd M p g i).2))), (5, .int (enc ((i : Int))))]) X dX3_roadToward_48 (by decide) rfl ?_
          refine tw_iload X dX3_roadToward_50 0 rfl ?_
          refine tw_if_lt (tgt := 96) X (In_of (by first | decide | (have := hB 0 (i : Int); have := hB 1 (i : Int); unfold endF; repeat' split <;> omega)) (by first | decide | (have := hB 0 (i : Int); have := hB 1 (i : Int); unfold endF; repeat' split <;> omega))) dX3_roadToward_52 (by decide) (fun c52 => ?_) (fun c52 => ?_)
          · skip
            have eT : twd M p g (i + 1) = twd M p g i := twd_n (fun z => by omega)
            refine tw_iinc (q := 6) (x := (i : Int)) (y := (i : Int) + 1) (lv' := [(5, .int (enc ((i : Int) + 1))), (6, .int (enc (endF M (i : Int) p))), (0, .ref (q 0)), (1, .int (enc (p))), (2, .int (enc (g))), (3, .int (enc ((twd M p g i).1))), (4, .int (enc ((twd M p g i).2)))]) X dX3_roadToward_96 rfl rfl (by decide) rfl ?_
            refine tw_goto (tgt := 9) X dX3_roadToward_99 (by decide) ?_
            refine Tsub (lv' := [(0, .ref (q 0)), (1, .int (enc (p))), (2, .int (enc (g))), (3, .int (enc ((twd M p g i).1))), (4, .int (enc ((twd M p g i).2))), (5, .int (enc ((i : Int) + 1)))]) [2, 3, 4, 5, 6, 0] rfl ?_
            refine Teq (ws' := wV cy q M s o) (lv' := [(0, .ref (q 0)), (1, .int (enc (p))), (2, .int (enc (g))), (3, .int (enc ((twd M p g (i + 1)).1))), (4, .int (enc ((twd M p g (i + 1)).2))), (5, .int (enc (((i + 1 : Nat) : Int))))]) (st' := []) (rfl) (lvk (lvk (lvk (lvc (by rw [eT]) (lvc (by rw [eT]) (lvc (i_succ i) (rfl))))))) rfl (ih9 (i + 1) (by omega) (by omega))
          · skip
            have er := endF_rng hW (r := (i : Int)) (by omega) c18 c52
            have hs := hV (endF M (i : Int) p) g c52 er.2.2.1 hg.1 hg.2
            have hd := dst_ok (o := true) hW (endF M (i : Int) p) g
            have hl := hW.ln (r := (i : Int)) (by omega) c18
            have ht := (twd_ok (M := M) p g i).2
            have ht2 := twd_lo hW p g i (by omega)
            have hd0 := hd.1
            have hd1 := hd.2.1
            refine tw_aload_n X dX3_roadToward_55 1 rfl rfl ?_
            refine gf_X3_12 X (v := .ref (q 1)) 0 rfl rfl dX3_roadToward_56 ?_
            refine tw_iload X dX3_roadToward_59 6 rfl ?_
            refine tw_callV X (As := [.int (enc ((i : Int)))]) (st := []) vw_X3_76 (m_X0_lengthNow (q := (fun i => q (1 + i))) M ((i : Int)) (by omega)) (([(q 0, .inr (3, [.ref (q 1), .ref (q 9), .ref (q 19), .int (enc (M 19 0)), .int (enc (M 20 0)), .int (enc (o))]))])) ((wT cy (fun i => q (9 + i)) M) ++ (wY cy (fun i => q (19 + i)) s)) rfl rfl (q0 := 0) rfl rfl rfl ⟨rfl, rfl, Nat.le_of_ble_eq_true rfl, Nat.le_of_ble_eq_true rfl⟩ ⟨Nat.le_of_ble_eq_true rfl, Nat.le_of_ble_eq_true rfl⟩ (Nat.le_of_ble_eq_true rfl) dX3_roadToward_61 (fun v w1 hp => ?_)
            obtain ⟨rfl, rfl⟩ := hp
            refine Teq (ws' := wV cy q M s o) (lv' := [(6, .int (enc (endF M (i : Int) p))), (0, .ref (q 0)), (1, .int (enc (p))), (2, .int (enc (g))), (3, .int (enc ((twd M p g i).1))), (4, .int (enc ((twd M p g i).2))), (5, .int (enc ((i : Int))))]) (st' := [.int (enc (len M (i : Int)))]) rfl rfl rfl ?_
            refine tw_aload_n X dX3_roadToward_64 1 rfl rfl ?_
            refine gf_X3_28 X (v := .ref (q 19)) 0 rfl rfl dX3_roadToward_65 ?_
            refine gf_X3_80 X (v := .ref (q 20)) 19 rfl rfl dX3_roadToward_68 ?_
            refine tw_iload X dX3_roadToward_71 0 rfl ?_
            refine tw_bipush X dX3_roadToward_73 (by decide) ?_
            refine tw_imul (z := (endF M (i : Int) p) * 10) X dX3_roadToward_75 rfl ?_
            refine tw_iload_n X dX3_roadToward_76 3 rfl rfl ?_
            refine tw_iadd (z := ((endF M (i : Int) p) * 10) + g) X dX3_roadToward_77 rfl ?_
            refine tw_iald X (N := 100) (f := s) 20 rfl (by decide) (by omega) dX3_roadToward_78 ?_
            refine Tst (st' := [.int (enc (s (((endF M (i : Int) p) * 10) + g))), .int (enc (len M (i : Int)))]) rfl ?_
            refine tw_iadd (z := (len M (i : Int)) + (s (((endF M (i : Int) p) * 10) + g))) X dX3_roadToward_79 rfl ?_
            refine tw_istore (lv' := [(7, .int (enc ((len M (i : Int)) + (s (((endF M (i : Int) p) * 10) + g))))), (6, .int (enc (endF M (i : Int) p))), (0, .ref (q 0)), (1, .int (enc (p))), (2, .int (enc (g))), (3, .int (enc ((twd M p g i).1))), (4, .int (enc ((twd M p g i).2))), (5, .int (enc ((i : Int))))]) X dX3_roadToward_80 (by decide) rfl ?_
            refine tw_iload X dX3_roadToward_82 0 rfl ?_
            refine tw_iload X dX3_roadToward_84 6 rfl ?_
            refine tw_icmp_ge (tgt := 96) X (In_of (by omega) (by omega)) (In_of (by omega) (by omega)) dX3_roadToward_86 (by decide) (fun c86 => ?_) (fun c86 => ?_)
            · skip
              have eT : twd M p g (i + 1) = twd M p g i := twd_n (fun z => by omega)
              refine tw_iinc (q := 7) (x := (i : Int)) (y := (i : Int) + 1) (lv' := [(5, .int (enc ((i : Int) + 1))), (7, .int (enc ((len M (i : Int)) + (s (((endF M (i : Int) p) * 10) + g))))), (6, .int (enc (endF M (i : Int) p))), (0, .ref (q 0)), (1, .int (enc (p))), (2, .int (enc (g))), (3, .int (enc ((twd M p g i).1))), (4, .int (enc ((twd M p g i).2)))]) X dX3_roadToward_96 rfl rfl (by decide) rfl ?_
              refine tw_goto (tgt := 9) X dX3_roadToward_99 (by decide) ?_
              refine Tsub (lv' := [(0, .ref (q 0)), (1, .int (enc (p))), (2, .int (enc (g))), (3, .int (enc ((twd M p g i).1))), (4, .int (enc ((twd M p g i).2))), (5, .int (enc ((i : Int) + 1)))]) [3, 4, 5, 6, 7, 0] rfl ?_
              refine Teq (ws' := wV cy q M s o) (lv' := [(0, .ref (q 0)), (1, .int (enc (p))), (2, .int (enc (g))), (3, .int (enc ((twd M p g (i + 1)).1))), (4, .int (enc ((twd M p g (i + 1)).2))), (5, .int (enc (((i + 1 : Nat) : Int))))]) (st' := []) (rfl) (lvk (lvk (lvk (lvc (by rw [eT]) (lvc (by rw [eT]) (lvc (i_succ i) (rfl))))))) rfl (ih9 (i + 1) (by omega) (by omega))
            · skip
              have eT : twd M p g (i + 1) = ((i : Int), len M (i : Int) + s (endF M (i : Int) p * 10 + g)) := by rw [hs]; exact twd_y h60 c52 (by omega)
              refine tw_iload X dX3_roadToward_89 0 rfl ?_
              refine tw_istore (lv' := [(4, .int (enc ((len M (i : Int)) + (s (((endF M (i : Int) p) * 10) + g))))), (7, .int (enc ((len M (i : Int)) + (s (((endF M (i : Int) p) * 10) + g))))), (6, .int (enc (endF M (i : Int) p))), (0, .ref (q 0)), (1, .int (enc (p))), (2, .int (enc (g))), (3, .int (enc ((twd M p g i).1))), (5, .int (enc ((i : Int))))]) X dX3_roadToward_91 (by decide) rfl ?_
              refine tw_iload X dX3_roadToward_93 7 rfl ?_
              refine tw_istore_n (lv' := [(3, .int (enc ((i : Int)))), (4, .int (enc ((len M (i : Int)) + (s (((endF M (i : Int) p) * 10) + g))))), (7, .int (enc ((len M (i : Int)) + (s (((endF M (i : Int) p) * 10) + g))))), (6, .int (enc (endF M (i : Int) p))), (0, .ref (q 0)), (1, .int (enc (p))), (2, .int (enc (g))), (5, .int (enc ((i : Int))))]) X dX3_roadToward_95 rfl (by decide) rfl ?_
              refine tw_iinc (q := 7) (x := (i : Int)) (y := (i : Int) + 1) (lv' := [(5, .int (enc ((i : Int) + 1))), (3, .int (enc ((i : Int)))), (4, .int (enc ((len M (i : Int)) + (s (((endF M (i : Int) p) * 10) + g))))), (7, .int (enc ((len M (i : Int)) + (s (((endF M (i : Int) p) * 10) + g))))), (6, .int (enc (endF M (i : Int) p))), (0, .ref (q 0)), (1, .int (enc (p))), (2, .int (enc (g)))]) X dX3_roadToward_96 rfl rfl (by decide) rfl ?_
              refine tw_goto (tgt := 9) X dX3_roadToward_99 (by decide) ?_
              refine Tsub (lv' := [(0, .ref (q 0)), (1, .int (enc (p))), (2, .int (enc (g))), (3, .int (enc ((i : Int)))), (4, .int (enc ((len M (i : Int)) + (s (((endF M (i : Int) p) * 10) + g))))), (5, .int (enc ((i : Int) + 1)))]) [5, 6, 7, 1, 2, 0] rfl ?_
              refine Teq (ws' := wV cy q M s o) (lv' := [(0, .ref (q 0)), (1, .int (enc (p))), (2, .int (enc (g))), (3, .int (enc ((twd M p g (i + 1)).1))), (4, .int (enc ((twd M p g (i + 1)).2))), (5, .int (enc (((i + 1 : Nat) : Int))))]) (st' := []) (rfl) (lvk (lvk (lvk (lvc (by rw [eT]) (lvc (by rw [eT]) (lvc (i_succ i) (rfl))))))) rfl (ih9 (i + 1) (by omega) (by omega))
        · skip
          refine tw_iconst X dX3_roadToward_34 ?_
          refine tw_goto (tgt := 48) X dX3_roadToward_35 (by decide) ?_
          refine tw_istore (lv' := [(6, .int (enc (-1))), (0, .ref (q 0)), (1, .int (enc (p))), (2, .int (enc (g))), (3, .int (enc ((twd M p g i).1))), (4, .int (enc ((twd M p g i).2))), (5, .int (enc ((i : Int))))]) X dX3_roadToward_48 (by decide) rfl ?_
          refine tw_iload X dX3_roadToward_50 0 rfl ?_
          refine tw_if_lt (tgt := 96) X (In_of (by first | decide | (have := hB 0 (i : Int); have := hB 1 (i : Int); unfold endF; repeat' split <;> omega)) (by first | decide | (have := hB 0 (i : Int); have := hB 1 (i : Int); unfold endF; repeat' split <;> omega))) dX3_roadToward_52 (by decide) (fun c52 => ?_) (fun c52 => ?_)
          · skip
            have eT : twd M p g (i + 1) = twd M p g i := twd_n (fun z => by omega)
            refine tw_iinc (q := 6) (x := (i : Int)) (y := (i : Int) + 1) (lv' := [(5, .int (enc ((i : Int) + 1))), (6, .int (enc (-1))), (0, .ref (q 0)), (1, .int (enc (p))), (2, .int (enc (g))), (3, .int (enc ((twd M p g i).1))), (4, .int (enc ((twd M p g i).2)))]) X dX3_roadToward_96 rfl rfl (by decide) rfl ?_
            refine tw_goto (tgt := 9) X dX3_roadToward_99 (by decide) ?_
            refine Tsub (lv' := [(0, .ref (q 0)), (1, .int (enc (p))), (2, .int (enc (g))), (3, .int (enc ((twd M p g i).1))), (4, .int (enc ((twd M p g i).2))), (5, .int (enc ((i : Int) + 1)))]) [2, 3, 4, 5, 6, 0] rfl ?_
            refine Teq (ws' := wV cy q M s o) (lv' := [(0, .ref (q 0)), (1, .int (enc (p))), (2, .int (enc (g))), (3, .int (enc ((twd M p g (i + 1)).1))), (4, .int (enc ((twd M p g (i + 1)).2))), (5, .int (enc (((i + 1 : Nat) : Int))))]) (st' := []) (rfl) (lvk (lvk (lvk (lvc (by rw [eT]) (lvc (by rw [eT]) (lvc (i_succ i) (rfl))))))) rfl (ih9 (i + 1) (by omega) (by omega))
          · exact absurd c52 (by decide)
  refine Tsub (lv' := [(0, .ref (q 0)), (1, .int (enc (p))), (2, .int (enc (g))), (3, .int (enc (-1))), (4, .int (enc (1000000))), (5, .int (enc (0)))]) [3, 4, 5, 2, 1, 0] rfl ?_
  refine Teq (ws' := wV cy q M s o) (lv' := [(0, .ref (q 0)), (1, .int (enc (p))), (2, .int (enc (g))), (3, .int (enc ((twd M p g 0).1))), (4, .int (enc ((twd M p g 0).2))), (5, .int (enc (((0 : Nat) : Int))))]) (st' := []) (rfl) (rfl) rfl (L9 (M 16 0 + 1).toNat 0 (by omega) (by omega))
set_option maxRecDepth 100000 in
set_option maxHeartbeats 4000000 in
theorem m_X3_setOut {G : va_G} {cy : ClassId} {q : Nat → Nat} (M : MT) (s : Int → Int) (o : Int) (t : Int) (B : Int) (hF : WF M B) (hB2 : B ≤ 1000000) (ht : 0 ≤ t ∧ t < M 17 0) (hd : M 15 t < 0) (hV : WV M true s) : Ct G cy yX3_setOut cX3_setOut 4 none ({ frames := 2, cells := 0, slots := 0, locals := 49 } : Room) 0 0 [.ref (q 0), .int (enc (t))] (wV cy q M s o) (fun v w1 => v = none ∧ w1 = wV cy q (outT M t) s o) := by
  refine Ct.ofV (by decide) (Nat.le_of_ble_eq_true rfl) rfl rfl ?_
  intro c X ret
  have hB := hF.bd (by omega)
  have hTI := hF.2.2.2.2.2.2.2.2.2.1 t ht.1 ht.2
  have h17 := hF.2.2.2.2.2.2.1
  unfold TI at hTI
  obtain ⟨w0, w1, w2, w3, w4⟩ := hF.r
  have hto := toward_ok hF.r (M 7 t) (M 11 t)
  refine Tlv (lv' := [(0, .ref (q 0)), (1, .int (enc (t)))]) rfl ?_
  refine tw_aload_n X dX3_setOut_0 0 rfl rfl ?_
  refine gf_X3_21 X (v := .ref (q 9)) 0 rfl rfl dX3_setOut_1 ?_
  refine gf_X3_108 X (v := .ref (q 10)) 9 rfl rfl dX3_setOut_4 ?_
  refine tw_iload_n X dX3_setOut_7 1 rfl rfl ?_
  refine tw_iald X (N := 12) (f := (M 7)) 10 rfl (by decide) (by omega) dX3_setOut_8 ?_
  refine Tst (st' := [.int (enc (M 7 t))]) rfl ?_
  have b1 := hB 7 t
  refine tw_istore_n (lv' := [(2, .int (enc (M 7 t))), (0, .ref (q 0)), (1, .int (enc (t)))]) X dX3_setOut_9 rfl (by decide) rfl ?_
  refine tw_iload_n X dX3_setOut_10 0 rfl rfl ?_
  refine tw_if_ge (tgt := 15) X (In_of (by omega) (by omega)) dX3_setOut_11 (by decide) (fun c11 => ?_) (fun c11 => ?_)
  · skip
    refine tw_aload_n X dX3_setOut_15 1 rfl rfl ?_
    refine tw_iload_n X dX3_setOut_16 0 rfl rfl ?_
    refine tw_aload_n X dX3_setOut_17 1 rfl rfl ?_
    refine gf_X3_21 X (v := .ref (q 9)) 0 rfl rfl dX3_setOut_18 ?_
    refine gf_X3_111 X (v := .ref (q 14)) 9 rfl rfl dX3_setOut_21 ?_
    refine tw_iload_n X dX3_setOut_24 2 rfl rfl ?_
    refine tw_iald X (N := 12) (f := (M 11)) 14 rfl (by decide) (by omega) dX3_setOut_25 ?_
    refine Tst (st' := [.int (enc (M 11 t)), .int (enc (M 7 t)), .ref (q 0)]) rfl ?_
    have b2 := hB 11 t
    refine tw_callV X (As := [.int (enc (M 7 t)), .int (enc (M 11 t))]) (st := []) vw_X3_114 (m_X3_roadToward (q := q) M s o (M 7 t) (M 11 t) hF.r hB (fun r => (hF.2.2.2.1 r).2.1) hV (by omega) (by omega)) ([]) ([]) rfl rfl (q0 := 0) rfl rfl rfl ⟨rfl, rfl, Nat.le_of_ble_eq_true rfl, Nat.le_of_ble_eq_true rfl⟩ ⟨Nat.le_of_ble_eq_true rfl, Nat.le_of_ble_eq_true rfl⟩ (Nat.le_of_ble_eq_true rfl) dX3_setOut_26 (fun v w1 hp => ?_)
    obtain ⟨rfl, rfl⟩ := hp
    refine Teq (ws' := wV cy q M s o) (lv' := [(2, .int (enc (M 7 t))), (0, .ref (q 0)), (1, .int (enc (t)))]) (st' := [.int (enc (toward M (M 7 t) (M 11 t)))]) rfl rfl rfl ?_
    refine tw_istore_n (lv' := [(3, .int (enc (toward M (M 7 t) (M 11 t)))), (2, .int (enc (M 7 t))), (0, .ref (q 0)), (1, .int (enc (t)))]) X dX3_setOut_29 rfl (by decide) rfl ?_
    refine tw_iload_n X dX3_setOut_30 0 rfl rfl ?_
    refine tw_if_lt (tgt := 103) X (In_of (by omega) (by omega)) dX3_setOut_31 (by decide) (fun c31 => ?_) (fun c31 => ?_)
    · skip
      exact ret _ _ _ dX3_setOut_103 (by first | exact ⟨rfl, by unfold outT; rw [if_neg (Int.not_lt.mpr c11), if_pos c31]⟩ | exact ⟨rfl, by unfold outT; rw [if_neg (Int.not_lt.mpr c11), if_neg (Int.not_lt.mpr c31)]; rfl⟩)
    · skip
      refine tw_aload_n X dX3_setOut_34 2 rfl rfl ?_
      refine gf_X3_21 X (v := .ref (q 9)) 0 rfl rfl dX3_setOut_35 ?_
      refine tw_iload_n X dX3_setOut_38 3 rfl rfl ?_
      refine tw_iload_n X dX3_setOut_39 0 rfl rfl ?_
      refine tw_aload_n X dX3_setOut_40 2 rfl rfl ?_
      refine gf_X3_12 X (v := .ref (q 1)) 0 rfl rfl dX3_setOut_41 ?_
      refine tw_iload_n X dX3_setOut_44 0 rfl rfl ?_
      refine tw_iload_n X dX3_setOut_45 1 rfl rfl ?_
      refine tw_callV X (As := [.int (enc (toward M (M 7 t) (M 11 t))), .int (enc (M 7 t))]) (st := [.int (enc (toward M (M 7 t) (M 11 t))), .int (enc (t)), .ref (q 9)]) vw_X3_72 (m_X0_endFrom (q := (fun i => q (1 + i))) M (toward M (M 7 t) (M 11 t)) (M 7 t) hB (by omega) (by omega)) (([(q 0, .inr (3, [.ref (q 1), .ref (q 9), .ref (q 19), .int (enc (M 19 0)), .int (enc (M 20 0)), .int (enc (o))]))])) ((wT cy (fun i => q (9 + i)) M) ++ (wY cy (fun i => q (19 + i)) s)) rfl rfl (q0 := 0) rfl rfl rfl ⟨rfl, rfl, Nat.le_of_ble_eq_true rfl, Nat.le_of_ble_eq_true rfl⟩ ⟨Nat.le_of_ble_eq_true rfl, Nat.le_of_ble_eq_true rfl⟩ (Nat.le_of_ble_eq_true rfl) dX3_setOut_46 (fun v w1 hp => ?_)
      obtain ⟨rfl, rfl⟩ := hp
      refine Teq (ws' := wV cy q M s o) (lv' := [(3, .int (enc (toward M (M 7 t) (M 11 t)))), (2, .int (enc (M 7 t))), (0, .ref (q 0)), (1, .int (enc (t)))]) (st' := [.int (enc (endF M (toward M (M 7 t) (M 11 t)) (M 7 t))), .int (enc (toward M (M 7 t) (M 11 t))), .int (enc (t)), .ref (q 9)]) rfl rfl rfl ?_
      refine tw_aload_n X dX3_setOut_49 2 rfl rfl ?_
      refine gf_X3_12 X (v := .ref (q 1)) 0 rfl rfl dX3_setOut_50 ?_
      refine tw_iload_n X dX3_setOut_53 0 rfl rfl ?_
      refine tw_callV X (As := [.int (enc (toward M (M 7 t) (M 11 t)))]) (st := [.int (enc (endF M (toward M (M 7 t) (M 11 t)) (M 7 t))), .int (enc (toward M (M 7 t) (M 11 t))), .int (enc (t)), .ref (q 9)]) vw_X3_76 (m_X0_lengthNow (q := (fun i => q (1 + i))) M (toward M (M 7 t) (M 11 t)) (by omega)) (([(q 0, .inr (3, [.ref (q 1), .ref (q 9), .ref (q 19), .int (enc (M 19 0)), .int (enc (M 20 0)), .int (enc (o))]))])) ((wT cy (fun i => q (9 + i)) M) ++ (wY cy (fun i => q (19 + i)) s)) rfl rfl (q0 := 0) rfl rfl rfl ⟨rfl, rfl, Nat.le_of_ble_eq_true rfl, Nat.le_of_ble_eq_true rfl⟩ ⟨Nat.le_of_ble_eq_true rfl, Nat.le_of_ble_eq_true rfl⟩ (Nat.le_of_ble_eq_true rfl) dX3_setOut_54 (fun v w1 hp => ?_)
      obtain ⟨rfl, rfl⟩ := hp
      refine Teq (ws' := wV cy q M s o) (lv' := [(3, .int (enc (toward M (M 7 t) (M 11 t)))), (2, .int (enc (M 7 t))), (0, .ref (q 0)), (1, .int (enc (t)))]) (st' := [.int (enc (len M (toward M (M 7 t) (M 11 t)))), .int (enc (endF M (toward M (M 7 t) (M 11 t)) (M 7 t))), .int (enc (toward M (M 7 t) (M 11 t))), .int (enc (t)), .ref (q 9)]) rfl rfl rfl ?_
      refine tw_callV X (As := [.int (enc (t)), .int (enc (toward M (M 7 t) (M 11 t))), .int (enc (endF M (toward M (M 7 t) (M 11 t)) (M 7 t))), .int (enc (len M (toward M (M 7 t) (M 11 t))))]) (st := []) vw_X3_117 (m_X1_take (q := (fun i => q (9 + i))) M (t) (toward M (M 7 t) (M 11 t)) (endF M (toward M (M 7 t) (M 11 t)) (M 7 t)) (len M (toward M (M 7 t) (M 11 t))) (by omega)) (([(q 0, .inr (3, [.ref (q 1), .ref (q 9), .ref (q 19), .int (enc (M 19 0)), .int (enc (M 20 0)), .int (enc (o))]))]) ++ (wR cy (fun i => q (1 + i)) M)) ((wY cy (fun i => q (19 + i)) s)) rfl rfl (q0 := 0) rfl rfl rfl ⟨rfl, rfl, Nat.le_of_ble_eq_true rfl, Nat.le_of_ble_eq_true rfl⟩ ⟨Nat.le_of_ble_eq_true rfl, Nat.le_of_ble_eq_true rfl⟩ (Nat.le_of_ble_eq_true rfl) dX3_setOut_57 (fun v w1 hp => ?_)
      obtain ⟨rfl, rfl⟩ := hp
      refine Teq (ws' := wV cy q (takeT M t (toward M (M 7 t) (M 11 t)) (endF M (toward M (M 7 t) (M 11 t)) (M 7 t)) (len M (toward M (M 7 t) (M 11 t)))) s o) (lv' := [(3, .int (enc (toward M (M 7 t) (M 11 t)))), (2, .int (enc (M 7 t))), (0, .ref (q 0)), (1, .int (enc (t)))]) (st' := []) rfl rfl rfl ?_
      refine tw_aload_n X dX3_setOut_60 2 rfl rfl ?_
      refine gf_X3_21 X (v := .ref (q 9)) 0 rfl rfl dX3_setOut_61 ?_
      refine gf_X3_121 X (v := .ref (q 15)) 9 rfl rfl dX3_setOut_64 ?_
      refine tw_iload_n X dX3_setOut_67 3 rfl rfl ?_
      refine tw_aload_n X dX3_setOut_68 2 rfl rfl ?_
      refine gf_X3_21 X (v := .ref (q 9)) 0 rfl rfl dX3_setOut_69 ?_
      refine gf_X3_121 X (v := .ref (q 15)) 9 rfl rfl dX3_setOut_72 ?_
      refine tw_iload_n X dX3_setOut_75 3 rfl rfl ?_
      refine tw_iald X (N := 12) (f := (M 12)) 15 rfl (by decide) (by omega) dX3_setOut_76 ?_
      refine Tst (st' := [.int (enc (M 12 t)), .int (enc (t)), .ref (q 15)]) rfl ?_
      have b3 := hB 12 t
      refine tw_aload_n X dX3_setOut_77 2 rfl rfl ?_
      refine gf_X3_12 X (v := .ref (q 1)) 0 rfl rfl dX3_setOut_78 ?_
      refine gf_X3_124 X (v := .ref (q 5)) 1 rfl rfl dX3_setOut_81 ?_
      refine tw_iload_n X dX3_setOut_84 0 rfl rfl ?_
      refine tw_iald X (N := 20) (f := (M 3)) 5 rfl (by decide) (by omega) dX3_setOut_85 ?_
      refine Tst (st' := [.int (enc (M 3 (toward M (M 7 t) (M 11 t)))), .int (enc (M 12 t)), .int (enc (t)), .ref (q 15)]) rfl ?_
      have b4 := hB 3 ((toward M (M 7 t) (M 11 t)))
      refine tw_callS X (As := [.int (enc (M 12 t)), .int (enc (M 3 (toward M (M 7 t) (M 11 t))))]) (st := [.int (enc (t)), .ref (q 15)]) sw_X3_125 (m_X3_mixed (M 12 t) (M 3 (toward M (M 7 t) (M 11 t))) (by omega) (hF.2.2.2.2.1 (toward M (M 7 t) (M 11 t)) (by omega) (by omega))) ([]) (wV cy q (takeT M t (toward M (M 7 t) (M 11 t)) (endF M (toward M (M 7 t) (M 11 t)) (M 7 t)) (len M (toward M (M 7 t) (M 11 t)))) s o) rfl rfl rfl ⟨rfl, rfl, Nat.le_of_ble_eq_true rfl, Nat.le_of_ble_eq_true rfl⟩ ⟨Nat.le_of_ble_eq_true rfl, Nat.le_of_ble_eq_true rfl⟩ (Nat.le_of_ble_eq_true rfl) dX3_setOut_86 (fun v w1 hp => ?_)
      obtain ⟨rfl, rfl⟩ := hp
      refine Teq (ws' := wV cy q (takeT M t (toward M (M 7 t) (M 11 t)) (endF M (toward M (M 7 t) (M 11 t)) (M 7 t)) (len M (toward M (M 7 t) (M 11 t)))) s o) (lv' := [(3, .int (enc (toward M (M 7 t) (M 11 t)))), (2, .int (enc (M 7 t))), (0, .ref (q 0)), (1, .int (enc (t)))]) (st' := [.int (enc (mixD (M 12 t) (M 3 (toward M (M 7 t) (M 11 t))))), .int (enc (t)), .ref (q 15)]) rfl rfl rfl ?_
      refine tw_iast X (N := 12) (f := (M 12)) (ws' := wV cy q (up (takeT M t (toward M (M 7 t) (M 11 t)) (endF M (toward M (M 7 t) (M 11 t)) (M 7 t)) (len M (toward M (M 7 t) (M 11 t)))) 12 (t) (mixD (M 12 t) (M 3 (toward M (M 7 t) (M 11 t))))) s o) 15 rfl (by decide) (by omega) dX3_setOut_89 rfl ?_
      refine tw_aload_n X dX3_setOut_90 2 rfl rfl ?_
      refine gf_X3_12 X (v := .ref (q 1)) 0 rfl rfl dX3_setOut_91 ?_
      refine gf_X3_128 X (v := .ref (q 6)) 1 rfl rfl dX3_setOut_94 ?_
      refine tw_iload_n X dX3_setOut_97 0 rfl rfl ?_
      refine tw_dup2 X dX3_setOut_98 rfl rfl ?_
      refine tw_iald X (N := 20) (f := (M 4)) 6 rfl (by decide) (by omega) dX3_setOut_99 ?_
      refine Tst (st' := [.int (enc (M 4 (toward M (M 7 t) (M 11 t)))), .int (enc (toward M (M 7 t) (M 11 t))), .ref (q 6)]) rfl ?_
      have b5 := hB 4 ((toward M (M 7 t) (M 11 t)))
      refine tw_iconst X dX3_setOut_100 ?_
      refine tw_iadd (z := (M 4 (toward M (M 7 t) (M 11 t))) + 1) X dX3_setOut_101 rfl ?_
      refine tw_iast X (N := 20) (f := (M 4)) (ws' := wV cy q (up (up (takeT M t (toward M (M 7 t) (M 11 t)) (endF M (toward M (M 7 t) (M 11 t)) (M 7 t)) (len M (toward M (M 7 t) (M 11 t)))) 12 (t) (mixD (M 12 t) (M 3 (toward M (M 7 t) (M 11 t))))) 4 (toward M (M 7 t) (M 11 t)) ((M 4 (toward M (M 7 t) (M 11 t))) + 1)) s o) 6 rfl (by decide) (by omega) dX3_setOut_102 rfl ?_
      exact ret _ _ _ dX3_setOut_103 (by first | exact ⟨rfl, by unfold outT; rw [if_neg (Int.not_lt.mpr c11), if_pos c31]⟩ | exact ⟨rfl, by unfold outT; rw [if_neg (Int.not_lt.mpr c11), if_neg (Int.not_lt.mpr c31)]; rfl⟩)
  · skip
    exact ret _ _ _ dX3_setOut_14 ⟨rfl, by unfold outT; rw [if_pos c11]⟩
set_option maxRecDepth 100000 in
set_option maxHeartbeats 4000000 in
theorem m_X3_closeWornRoads {G : va_G} {cy : ClassId} {q : Nat → Nat} (M : MT) (s : Int → Int) (o : Int) (B : Int) (hF : WF M B) (hB2 : B ≤ 2000000) (hV : WVo M s o) : Ct G cy yX3_closeWornRoads cX3_closeWornRoads 2 none ({ frames := 1, cells := 0, slots := 0, locals := 23 } : Room) 0 0 [.ref (q 0)] (wV cy q M s o) (fun v w1 => v = none ∧ ∃ o', WVo (closeI M (M 16 0).toNat) s o' ∧ w1 = wV cy q (closeI M (M 16 0).toNat) s o') := by
  refine Ct.ofV (by decide) (Nat.le_of_ble_eq_true rfl) rfl rfl ?_
  intro c X ret
  obtain ⟨w0, w1, w2, w3, w4⟩ := hF.r
  have h17 := hF.2.2.2.2.2.1
  have h172 := hF.2.2.2.2.2.2.1
  refine Tlv (lv' := [(0, .ref (q 0))]) rfl ?_
  refine tw_iconst X dX3_closeWornRoads_0 ?_
  refine tw_istore_n (lv' := [(1, .int (enc (0))), (0, .ref (q 0))]) X dX3_closeWornRoads_1 rfl (by decide) rfl ?_
  have L2 : ∀ (fu i : Nat) (o1 : Int), (i : Int) ≤ M 16 0 → M 16 0 + 1 ≤ (i : Int) + fu → WVo (closeI M i) s o1 → T G c ({ frames := 1, cells := 0, slots := 0, locals := 23 } : Room) 2 0 0 (wV cy q (closeI M i) s o1) 2 [(0, .ref (q 0)), (1, .int (enc ((i : Int))))] [] := by
    intro fu
    induction fu with
    | zero =>
      intro i o1 hi0 hi1
      exact absurd hi1 (by omega)
    | succ fu ih2 =>
      intro i o1 hi0_2 hi1_2 hVi
      have hBi := (hF.k_closeI i).bd hB2
      have e16 : closeI M i 16 0 = M 16 0 := by rw [closeI_fix M (by omega) i]
      have e17 : closeI M i 17 0 = M 17 0 := by rw [closeI_fix M (by omega) i]
      refine tw_iload_n X dX3_closeWornRoads_2 1 rfl rfl ?_
      refine tw_aload_n X dX3_closeWornRoads_3 0 rfl rfl ?_
      refine gf_X3_12 X (v := .ref (q 1)) 0 rfl rfl dX3_closeWornRoads_4 ?_
      refine gf_X3_69 X (v := .int (enc ((closeI M i) 16 0))) 1 rfl rfl dX3_closeWornRoads_7 ?_
      have b1 := hBi 16 0
      refine tw_icmp_ge (tgt := 61) X (In_of (by omega) (by omega)) (In_of (by omega) (by omega)) dX3_closeWornRoads_10 (by decide) (fun c10 => ?_) (fun c10 => ?_)
      · skip
        exact ret _ _ _ dX3_closeWornRoads_61 ⟨rfl, o1, by rw [show (M 16 0).toNat = i by omega]; exact hVi, by rw [show (M 16 0).toNat = i by omega]⟩
      · skip
        refine tw_aload_n X dX3_closeWornRoads_13 0 rfl rfl ?_
        refine gf_X3_12 X (v := .ref (q 1)) 0 rfl rfl dX3_closeWornRoads_14 ?_
        refine gf_X3_57 X (v := .ref (q 8)) 1 rfl rfl dX3_closeWornRoads_17 ?_
        refine tw_iload_n X dX3_closeWornRoads_20 1 rfl rfl ?_
        refine tw_iald X (N := 20) (f := ((closeI M i) 6)) 8 rfl (by decide) (by omega) dX3_closeWornRoads_21 ?_
        refine Tst (st' := [.int (enc ((closeI M i) 6 (i : Int)))]) rfl ?_
        have b2 := hBi 6 (i : Int)
        refine tw_if_ne (tgt := 55) X (In_of (by omega) (by omega)) dX3_closeWornRoads_22 (by decide) (fun c22 => ?_) (fun c22 => ?_)
        · skip
          have eM : closeI M (i + 1) = closeI M i := by rw [closeI_s, close1_no (fun z => c22 z.1)]
          have hVn := hVi
          refine tw_iinc (q := 1) (x := (i : Int)) (y := (i : Int) + 1) (lv' := [(1, .int (enc ((i : Int) + 1))), (0, .ref (q 0))]) X dX3_closeWornRoads_55 rfl rfl (by decide) rfl ?_
          refine tw_goto (tgt := 2) X dX3_closeWornRoads_58 (by decide) ?_
          refine Tsub (lv' := [(0, .ref (q 0)), (1, .int (enc ((i : Int) + 1)))]) [1, 0] rfl ?_
          refine Teq (ws' := wV cy q (closeI M (i + 1)) s (o1)) (lv' := [(0, .ref (q 0)), (1, .int (enc (((i + 1 : Nat) : Int))))]) (st' := []) (by rw [eM]) (lvk (lvc (i_succ i) (rfl))) rfl (ih2 (i + 1) (o1) (by omega) (by omega) (by rw [eM]; exact hVn))
        · skip
          refine tw_aload_n X dX3_closeWornRoads_25 0 rfl rfl ?_
          refine gf_X3_12 X (v := .ref (q 1)) 0 rfl rfl dX3_closeWornRoads_26 ?_
          refine gf_X3_128 X (v := .ref (q 6)) 1 rfl rfl dX3_closeWornRoads_29 ?_
          refine tw_iload_n X dX3_closeWornRoads_32 1 rfl rfl ?_
          refine tw_iald X (N := 20) (f := ((closeI M i) 4)) 6 rfl (by decide) (by omega) dX3_closeWornRoads_33 ?_
          refine Tst (st' := [.int (enc ((closeI M i) 4 (i : Int)))]) rfl ?_
          have b3 := hBi 4 (i : Int)
          refine tw_iconst X dX3_closeWornRoads_34 ?_
          refine tw_icmp_lt (tgt := 55) X (In_of (by omega) (by omega)) (In_of (by omega) (by omega)) dX3_closeWornRoads_35 (by decide) (fun c35 => ?_) (fun c35 => ?_)
          · skip
            have eM : closeI M (i + 1) = closeI M i := by rw [closeI_s, close1_no (fun z => by omega)]
            have hVn := hVi
            refine tw_iinc (q := 1) (x := (i : Int)) (y := (i : Int) + 1) (lv' := [(1, .int (enc ((i : Int) + 1))), (0, .ref (q 0))]) X dX3_closeWornRoads_55 rfl rfl (by decide) rfl ?_
            refine tw_goto (tgt := 2) X dX3_closeWornRoads_58 (by decide) ?_
            refine Tsub (lv' := [(0, .ref (q 0)), (1, .int (enc ((i : Int) + 1)))]) [1, 0] rfl ?_
            refine Teq (ws' := wV cy q (closeI M (i + 1)) s (o1)) (lv' := [(0, .ref (q 0)), (1, .int (enc (((i + 1 : Nat) : Int))))]) (st' := []) (by rw [eM]) (lvk (lvc (i_succ i) (rfl))) rfl (ih2 (i + 1) (o1) (by omega) (by omega) (by rw [eM]; exact hVn))
          · skip
            refine tw_aload_n X dX3_closeWornRoads_38 0 rfl rfl ?_
            refine gf_X3_21 X (v := .ref (q 9)) 0 rfl rfl dX3_closeWornRoads_39 ?_
            refine tw_iload_n X dX3_closeWornRoads_42 1 rfl rfl ?_
            refine tw_callV X (As := [.int (enc ((i : Int)))]) (st := []) vw_X3_131 (m_X1_countOn (q := (fun i => q (9 + i))) (closeI M i) ((i : Int)) hBi (by omega) (by omega)) (([(q 0, .inr (3, [.ref (q 1), .ref (q 9), .ref (q 19), .int (enc ((closeI M i) 19 0)), .int (enc ((closeI M i) 20 0)), .int (enc (o1))]))]) ++ (wR cy (fun i => q (1 + i)) (closeI M i))) ((wY cy (fun i => q (19 + i)) s)) rfl rfl (q0 := 0) rfl rfl rfl ⟨rfl, rfl, Nat.le_of_ble_eq_true rfl, Nat.le_of_ble_eq_true rfl⟩ ⟨Nat.le_of_ble_eq_true rfl, Nat.le_of_ble_eq_true rfl⟩ (Nat.le_of_ble_eq_true rfl) dX3_closeWornRoads_43 (fun v w1 hp => ?_)
            obtain ⟨rfl, rfl⟩ := hp
            refine Teq (ws' := wV cy q (closeI M i) s o1) (lv' := [(0, .ref (q 0)), (1, .int (enc ((i : Int))))]) (st' := [.int (enc (onR (closeI M i) (i : Int) ((closeI M i) 17 0).toNat))]) rfl rfl rfl ?_
            have on := onR_rng (closeI M i) (i : Int) (closeI M i 17 0).toNat
            refine tw_if_ne (tgt := 55) X (In_of (by omega) (by omega)) dX3_closeWornRoads_46 (by decide) (fun c46 => ?_) (fun c46 => ?_)
            · skip
              have eM : closeI M (i + 1) = closeI M i := by rw [closeI_s, close1_no (fun z => c46 z.2.2)]
              have hVn := hVi
              refine tw_iinc (q := 1) (x := (i : Int)) (y := (i : Int) + 1) (lv' := [(1, .int (enc ((i : Int) + 1))), (0, .ref (q 0))]) X dX3_closeWornRoads_55 rfl rfl (by decide) rfl ?_
              refine tw_goto (tgt := 2) X dX3_closeWornRoads_58 (by decide) ?_
              refine Tsub (lv' := [(0, .ref (q 0)), (1, .int (enc ((i : Int) + 1)))]) [1, 0] rfl ?_
              refine Teq (ws' := wV cy q (closeI M (i + 1)) s (o1)) (lv' := [(0, .ref (q 0)), (1, .int (enc (((i + 1 : Nat) : Int))))]) (st' := []) (by rw [eM]) (lvk (lvc (i_succ i) (rfl))) rfl (ih2 (i + 1) (o1) (by omega) (by omega) (by rw [eM]; exact hVn))
            · skip
              have eM : closeI M (i + 1) = up (closeI M i) 6 (i : Int) 4 := by rw [closeI_s, close1_y ⟨c22, c35, c46⟩]
              have hVn : WVo (up (closeI M i) 6 (i : Int) 4) s 1 := WVo.old
              refine tw_aload_n X dX3_closeWornRoads_49 0 rfl rfl ?_
              refine tw_iload_n X dX3_closeWornRoads_50 1 rfl rfl ?_
              refine tw_iconst X dX3_closeWornRoads_51 ?_
              refine tw_callV X (As := [.int (enc ((i : Int))), .int (enc (4))]) (st := []) vw_X3_134 (m_X3_closeRoad (q := q) (closeI M i) s o1 ((i : Int)) (4) (by omega)) ([]) ([]) rfl rfl (q0 := 0) rfl rfl rfl ⟨rfl, rfl, Nat.le_of_ble_eq_true rfl, Nat.le_of_ble_eq_true rfl⟩ ⟨Nat.le_of_ble_eq_true rfl, Nat.le_of_ble_eq_true rfl⟩ (Nat.le_of_ble_eq_true rfl) dX3_closeWornRoads_52 (fun v w1 hp => ?_)
              obtain ⟨rfl, rfl⟩ := hp
              refine Teq (ws' := wV cy q (up (closeI M i) 6 ((i : Int)) (4)) s 1) (lv' := [(0, .ref (q 0)), (1, .int (enc ((i : Int))))]) (st' := []) rfl rfl rfl ?_
              refine tw_iinc (q := 1) (x := (i : Int)) (y := (i : Int) + 1) (lv' := [(1, .int (enc ((i : Int) + 1))), (0, .ref (q 0))]) X dX3_closeWornRoads_55 rfl rfl (by decide) rfl ?_
              refine tw_goto (tgt := 2) X dX3_closeWornRoads_58 (by decide) ?_
              refine Tsub (lv' := [(0, .ref (q 0)), (1, .int (enc ((i : Int) + 1)))]) [1, 0] rfl ?_
              refine Teq (ws' := wV cy q (closeI M (i + 1)) s (1)) (lv' := [(0, .ref (q 0)), (1, .int (enc (((i + 1 : Nat) : Int))))]) (st' := []) (by rw [eM]) (lvk (lvc (i_succ i) (rfl))) rfl (ih2 (i + 1) (1) (by omega) (by omega) (by rw [eM]; exact hVn))
  refine Tsub (lv' := [(0, .ref (q 0)), (1, .int (enc (0)))]) [1, 0] rfl ?_
  refine Teq (ws' := wV cy q (closeI M 0) s (o)) (lv' := [(0, .ref (q 0)), (1, .int (enc (((0 : Nat) : Int))))]) (st' := []) (rfl) (rfl) rfl (L2 (M 16 0 + 1).toNat 0 (o) (by omega) (by omega) (hV))
theorem wR_congr {cy : ClassId} {q : Nat → Nat} {M N : MT} (h : ∀ k : Nat, k < 7 → N k = M k) (h16 : N 16 0 = M 16 0) : wR cy q N = wR cy q M := by
  unfold wR
  rw [h 0 (by decide), h 1 (by decide), h 2 (by decide), h 3 (by decide), h 4 (by decide), h 5 (by decide), h 6 (by decide), h16]
theorem wV_walk {cy : ClassId} {q : Nat → Nat} (N : MT) (t h : Int) (s : Int → Int) (o : Int) : ([(q 0, .inr (3, [.ref (q 1), .ref (q 9), .ref (q 19), .int (enc (N 19 0)), .int (enc (N 20 0)), .int (enc o)]))] ++ wR cy (fun i => q (1 + i)) N) ++ (wT cy (fun i => q (9 + i)) (walkT N t h) ++ wY cy (fun i => q (19 + i)) s) = wV cy q (walkT N t h) s o := by
  unfold wV
  rw [wR_congr (M := N) (N := walkT N t h) (fun k hk => walkT_fix N t h (by omega)) (by rw [walkT_fix N t h (by omega)]), walkT_fix N t h (k := 19) (by omega), walkT_fix N t h (k := 20) (by omega)]
  rfl
theorem tour1_in {M : MT} {t : Int} (h : 0 ≤ M 15 t) : tour1 M t = M := if_pos h
theorem tour1_go {M : MT} {t : Int} (h : ¬ 0 ≤ M 15 t) : tour1 M t = walkT (outT M t) t (M 20 0) := if_neg h
set_option maxRecDepth 100000 in
set_option maxHeartbeats 4000000 in
theorem m_X3_letHourGoBy {G : va_G} {cy : ClassId} {q : Nat → Nat} (M : MT) (s : Int → Int) (o : Int) (B : Int) (hF : WF M B) (hB2 : B ≤ 900000) (hV : WVo M s o) : Ct G cy yX3_letHourGoBy cX3_letHourGoBy 2 none ({ frames := 3, cells := 0, slots := 0, locals := 72 } : Room) 0 0 [.ref (q 0)] (wV cy q M s o) (fun v w1 => v = none ∧ ∃ s' o', WVo (hourM M) s' o' ∧ w1 = wV cy q (hourM M) s' o') := by
  refine Ct.ofV (by decide) (Nat.le_of_ble_eq_true rfl) rfl rfl ?_
  intro c X ret
  have hA := hF.k_mendI (M 16 0).toNat
  have a16 : mendI M (M 16 0).toNat 16 0 = M 16 0 := by rw [mendI_eq M (by omega)]
  have a17 : mendI M (M 16 0).toNat 17 0 = M 17 0 := by rw [mendI_eq M (by omega)]
  have a19 : mendI M (M 16 0).toNat 19 0 = M 19 0 := by rw [mendI_eq M (by omega)]
  have a20 : mendI M (M 16 0).toNat 20 0 = M 20 0 := by rw [mendI_eq M (by omega)]
  have h17 := hF.2.2.2.2.2.1
  have h172 := hF.2.2.2.2.2.2.1
  generalize hAe : mendI M (M 16 0).toNat = A at hA a16 a17 a19 a20
  refine Tlv (lv' := [(0, .ref (q 0))]) rfl ?_
  refine tw_aload_n X dX3_letHourGoBy_0 0 rfl rfl ?_
  refine tw_callV X (As := []) (st := []) vw_X3_83 (m_X3_goOnMending (q := q) M s o B hF (by omega) hV) ([]) ([]) rfl rfl (q0 := 0) rfl rfl rfl ⟨rfl, rfl, Nat.le_of_ble_eq_true rfl, Nat.le_of_ble_eq_true rfl⟩ ⟨Nat.le_of_ble_eq_true rfl, Nat.le_of_ble_eq_true rfl⟩ (Nat.le_of_ble_eq_true rfl) dX3_letHourGoBy_1 (fun v w1 hp => ?_)
  obtain ⟨rfl, om, hVm, rfl⟩ := hp
  refine Teq (ws' := wV cy q (mendI M (M 16 0).toNat) s om) (lv' := [(0, .ref (q 0))]) (st' := []) rfl rfl rfl ?_
  refine tw_aload_n X dX3_letHourGoBy_4 0 rfl rfl ?_
  refine tw_callV X (As := []) (st := []) vw_X3_86 (m_X3_findOpenWays (q := q) (mendI M (M 16 0).toNat) s om (by rw [hAe]; exact hA.r) (by rw [hAe]; exact hA.bd (by omega)) hVm) ([]) ([]) rfl rfl (q0 := 0) rfl rfl rfl ⟨rfl, rfl, Nat.le_of_ble_eq_true rfl, Nat.le_of_ble_eq_true rfl⟩ ⟨Nat.le_of_ble_eq_true rfl, Nat.le_of_ble_eq_true rfl⟩ (Nat.le_of_ble_eq_true rfl) dX3_letHourGoBy_5 (fun v w1 hp => ?_)
  obtain ⟨rfl, sf, hVf, rfl⟩ := hp
  refine Teq (ws' := wV cy q (mendI M (M 16 0).toNat) sf 0) (lv' := [(0, .ref (q 0))]) (st' := []) rfl rfl rfl ?_
  rw [hAe] at hVf
  refine tw_iconst X dX3_letHourGoBy_8 ?_
  refine tw_istore_n (lv' := [(1, .int (enc (0))), (0, .ref (q 0))]) X dX3_letHourGoBy_9 rfl (by decide) rfl ?_
  have L10 : ∀ (fu i : Nat), (i : Int) ≤ M 17 0 → M 17 0 + 1 ≤ (i : Int) + fu → T G c ({ frames := 3, cells := 0, slots := 0, locals := 72 } : Room) 2 0 0 (wV cy q (tourI A i) sf 0) 10 [(0, .ref (q 0)), (1, .int (enc ((i : Int))))] [] := by
    intro fu
    induction fu with
    | zero =>
      intro i  hi0 hi1
      exact absurd hi1 (by omega)
    | succ fu ih10 =>
      intro i  hi0_10 hi1_10 
      have hFi := hA.k_tourI i (by omega)
      have hBi := hFi.bd (by omega)
      have e17 : tourI A i 17 0 = M 17 0 := by rw [tourI_fix A (by omega), a17]
      refine tw_iload_n X dX3_letHourGoBy_10 1 rfl rfl ?_
      refine tw_aload_n X dX3_letHourGoBy_11 0 rfl rfl ?_
      refine gf_X3_21 X (v := .ref (q 9)) 0 rfl rfl dX3_letHourGoBy_12 ?_
      refine gf_X3_89 X (v := .int (enc ((tourI A i) 17 0))) 9 rfl rfl dX3_letHourGoBy_15 ?_
      have b1 := hBi 17 0
      refine tw_icmp_ge (tgt := 55) X (In_of (by omega) (by omega)) (In_of (by omega) (by omega)) dX3_letHourGoBy_18 (by decide) (fun c18 => ?_) (fun c18 => ?_)
      · skip
        refine tw_aload_n X dX3_letHourGoBy_55 0 rfl rfl ?_
        have ei : (M 17 0).toNat = i := by omega
        refine tw_callV X (As := []) (st := []) vw_X3_102 (m_X3_closeWornRoads (q := q) (tourI A i) sf 0 (B + 2 * i) hFi (by omega) ⟨Or.inl rfl, fun _ => hVf.congr (by rw [tourI_fix A (by omega)]) (by rw [tourI_fix A (by omega)]) (by rw [tourI_fix A (by omega)]) (by rw [tourI_fix A (by omega)]) (fun r => by rw [tourI_fix A (by omega)]) (by rw [tourI_fix A (by omega)]) (by rw [tourI_fix A (by omega)])⟩) ([]) ([]) rfl rfl (q0 := 0) rfl rfl rfl ⟨rfl, rfl, Nat.le_of_ble_eq_true rfl, Nat.le_of_ble_eq_true rfl⟩ ⟨Nat.le_of_ble_eq_true rfl, Nat.le_of_ble_eq_true rfl⟩ (Nat.le_of_ble_eq_true rfl) dX3_letHourGoBy_56 (fun v w1 hp => ?_)
        obtain ⟨rfl, oc, hVc, rfl⟩ := hp
        refine Teq (ws' := wV cy q (closeI (tourI A i) ((tourI A i) 16 0).toNat) sf oc) (lv' := [(0, .ref (q 0)), (1, .int (enc ((i : Int))))]) (st' := []) rfl rfl rfl ?_
        have t16 : tourI A i 16 0 = M 16 0 := by rw [tourI_fix A (by omega), a16]
        refine tw_aload_n X dX3_letHourGoBy_59 0 rfl rfl ?_
        refine tw_dup X dX3_letHourGoBy_60 rfl ?_
        refine gf_X3_46 X (v := .int (enc ((closeI (tourI A i) ((tourI A i) 16 0).toNat) 20 0))) 0 rfl rfl dX3_letHourGoBy_61 ?_
        refine tw_iconst X dX3_letHourGoBy_64 ?_
        refine tw_iadd (z := ((closeI (tourI A i) ((tourI A i) 16 0).toNat) 20 0) + 1) X dX3_letHourGoBy_65 rfl ?_
        refine pf_X3_46 X (ws' := wV cy q (upc (closeI (tourI A i) ((tourI A i) 16 0).toNat) 20 (((closeI (tourI A i) ((tourI A i) 16 0).toNat) 20 0) + 1)) sf oc) 0 rfl (Nat.le_of_ble_eq_true rfl) rfl rfl dX3_letHourGoBy_66 rfl ?_
        have eH : hourM M = upc (closeI (tourI A i) (tourI A i 16 0).toNat) 20 (closeI (tourI A i) (tourI A i 16 0).toNat 20 0 + 1) := by unfold hourM; rw [hAe, ei, t16, closeI_fix (k := 20) _ (by omega), tourI_fix A (k := 20) (by omega), a20]
        exact ret _ _ _ dX3_letHourGoBy_69 ⟨rfl, sf, oc, by rw [eH]; exact hVc.congr rfl rfl rfl rfl (fun r => Iff.rfl) rfl rfl, by rw [eH]⟩
      · skip
        refine tw_aload_n X dX3_letHourGoBy_21 0 rfl rfl ?_
        refine gf_X3_21 X (v := .ref (q 9)) 0 rfl rfl dX3_letHourGoBy_22 ?_
        refine tw_iload_n X dX3_letHourGoBy_25 1 rfl rfl ?_
        refine tw_callV X (As := [.int (enc ((i : Int)))]) (st := []) vw_X3_90 (m_X1_isIn (q := (fun i => q (9 + i))) (tourI A i) ((i : Int)) hBi (by omega)) (([(q 0, .inr (3, [.ref (q 1), .ref (q 9), .ref (q 19), .int (enc ((tourI A i) 19 0)), .int (enc ((tourI A i) 20 0)), .int (enc (0))]))]) ++ (wR cy (fun i => q (1 + i)) (tourI A i))) ((wY cy (fun i => q (19 + i)) sf)) rfl rfl (q0 := 0) rfl rfl rfl ⟨rfl, rfl, Nat.le_of_ble_eq_true rfl, Nat.le_of_ble_eq_true rfl⟩ ⟨Nat.le_of_ble_eq_true rfl, Nat.le_of_ble_eq_true rfl⟩ (Nat.le_of_ble_eq_true rfl) dX3_letHourGoBy_26 (fun v w1 hp => ?_)
        obtain ⟨rfl, rfl⟩ := hp
        refine Teq (ws' := wV cy q (tourI A i) sf 0) (lv' := [(0, .ref (q 0)), (1, .int (enc ((i : Int))))]) (st' := [.int (enc (if 0 ≤ (tourI A i) 15 (i : Int) then 1 else 0))]) rfl rfl rfl ?_
        refine tw_if_ne (tgt := 49) X In_b dX3_letHourGoBy_29 (by decide) (fun c29 => ?_) (fun c29 => ?_)
        · skip
          have c29 := b01n.mp c29
          have eM : tourI A (i + 1) = tourI A i := by rw [tourI_s, tour1_in c29]
          refine tw_iinc (q := 1) (x := (i : Int)) (y := (i : Int) + 1) (lv' := [(1, .int (enc ((i : Int) + 1))), (0, .ref (q 0))]) X dX3_letHourGoBy_49 rfl rfl (by decide) rfl ?_
          refine tw_goto (tgt := 10) X dX3_letHourGoBy_52 (by decide) ?_
          refine Tsub (lv' := [(0, .ref (q 0)), (1, .int (enc ((i : Int) + 1)))]) [1, 0] rfl ?_
          refine Teq (ws' := wV cy q (tourI A (i + 1)) sf 0) (lv' := [(0, .ref (q 0)), (1, .int (enc (((i + 1 : Nat) : Int))))]) (st' := []) (by rw [eM]) (lvk (lvc (i_succ i) (rfl))) rfl (ih10 (i + 1) (by omega) (by omega))
        · skip
          have c29 := b01.mp c29
          have hFo := hFi.k_outT (t := (i : Int)) (by omega) (by omega)
          have hBo := hFo.bd (by omega)
          have eM : tourI A (i + 1) = walkT (outT (tourI A i) (i : Int)) (i : Int) (outT (tourI A i) (i : Int) 20 0) := by rw [tourI_s, tour1_go c29, outT_fix (k := 20) _ _ (by omega)]
          have h20 := hFi.2.2.2.2.2.2.2.1
          have e20 : outT (tourI A i) (i : Int) 20 0 = tourI A i 20 0 := by rw [outT_fix (k := 20) _ _ (by omega)]
          refine tw_aload_n X dX3_letHourGoBy_32 0 rfl rfl ?_
          refine tw_iload_n X dX3_letHourGoBy_33 1 rfl rfl ?_
          refine tw_callV X (As := [.int (enc ((i : Int)))]) (st := []) vw_X3_94 (m_X3_setOut (q := q) (tourI A i) sf 0 ((i : Int)) (B + 2 * i) hFi (by omega) (by omega) (by omega) (hVf.congr (by rw [tourI_fix A (by omega)]) (by rw [tourI_fix A (by omega)]) (by rw [tourI_fix A (by omega)]) (by rw [tourI_fix A (by omega)]) (fun r => by rw [tourI_fix A (by omega)]) (by rw [tourI_fix A (by omega)]) (by rw [tourI_fix A (by omega)]))) ([]) ([]) rfl rfl (q0 := 0) rfl rfl rfl ⟨rfl, rfl, Nat.le_of_ble_eq_true rfl, Nat.le_of_ble_eq_true rfl⟩ ⟨Nat.le_of_ble_eq_true rfl, Nat.le_of_ble_eq_true rfl⟩ (Nat.le_of_ble_eq_true rfl) dX3_letHourGoBy_34 (fun v w1 hp => ?_)
          obtain ⟨rfl, rfl⟩ := hp
          refine Teq (ws' := wV cy q (outT (tourI A i) (i : Int)) sf 0) (lv' := [(0, .ref (q 0)), (1, .int (enc ((i : Int))))]) (st' := []) rfl rfl rfl ?_
          refine tw_aload_n X dX3_letHourGoBy_37 0 rfl rfl ?_
          refine gf_X3_21 X (v := .ref (q 9)) 0 rfl rfl dX3_letHourGoBy_38 ?_
          refine tw_iload_n X dX3_letHourGoBy_41 1 rfl rfl ?_
          refine tw_aload_n X dX3_letHourGoBy_42 0 rfl rfl ?_
          refine gf_X3_46 X (v := .int (enc ((outT (tourI A i) (i : Int)) 20 0))) 0 rfl rfl dX3_letHourGoBy_43 ?_
          have b2 := hBo 20 0
          refine tw_callV X (As := [.int (enc ((i : Int))), .int (enc ((outT (tourI A i) (i : Int)) 20 0))]) (st := []) vw_X3_98 (m_X1_walk (q := (fun i => q (9 + i))) (outT (tourI A i) (i : Int)) ((i : Int)) ((outT (tourI A i) (i : Int)) 20 0) hBo (by omega) (by omega)) (([(q 0, .inr (3, [.ref (q 1), .ref (q 9), .ref (q 19), .int (enc ((outT (tourI A i) (i : Int)) 19 0)), .int (enc ((outT (tourI A i) (i : Int)) 20 0)), .int (enc (0))]))]) ++ (wR cy (fun i => q (1 + i)) (outT (tourI A i) (i : Int)))) ((wY cy (fun i => q (19 + i)) sf)) rfl rfl (q0 := 0) rfl rfl rfl ⟨rfl, rfl, Nat.le_of_ble_eq_true rfl, Nat.le_of_ble_eq_true rfl⟩ ⟨Nat.le_of_ble_eq_true rfl, Nat.le_of_ble_eq_true rfl⟩ (Nat.le_of_ble_eq_true rfl) dX3_letHourGoBy_46 (fun v w1 hp => ?_)
          obtain ⟨rfl, rfl⟩ := hp
          refine Teq (ws' := wV cy q (walkT (outT (tourI A i) (i : Int)) (i : Int) ((outT (tourI A i) (i : Int)) 20 0)) sf 0) (lv' := [(0, .ref (q 0)), (1, .int (enc ((i : Int))))]) (st' := []) (wV_walk _ _ _ _ _) rfl rfl ?_
          refine tw_iinc (q := 1) (x := (i : Int)) (y := (i : Int) + 1) (lv' := [(1, .int (enc ((i : Int) + 1))), (0, .ref (q 0))]) X dX3_letHourGoBy_49 rfl rfl (by decide) rfl ?_
          refine tw_goto (tgt := 10) X dX3_letHourGoBy_52 (by decide) ?_
          refine Tsub (lv' := [(0, .ref (q 0)), (1, .int (enc ((i : Int) + 1)))]) [1, 0] rfl ?_
          refine Teq (ws' := wV cy q (tourI A (i + 1)) sf 0) (lv' := [(0, .ref (q 0)), (1, .int (enc (((i + 1 : Nat) : Int))))]) (st' := []) (by rw [eM]) (lvk (lvc (i_succ i) (rfl))) rfl (ih10 (i + 1) (by omega) (by omega))
  refine Tsub (lv' := [(0, .ref (q 0)), (1, .int (enc (0)))]) [1, 0] rfl ?_
  refine Teq (ws' := wV cy q (tourI A 0) sf 0) (lv' := [(0, .ref (q 0)), (1, .int (enc (((0 : Nat) : Int))))]) (st' := []) (by rw [hAe]; rfl) (rfl) rfl (L10 (M 17 0 + 1).toNat 0 (by omega) (by omega))
