/-! ROADS -/
def len (M : MT) (r : Int) : Int := M 2 r + M 5 r
def endF (M : MT) (r c : Int) : Int := if M 0 r = c then M 1 r else if M 1 r = c then M 0 r else -1
def cntC (M : MT) : Nat → Int
  | 0 => 0
  | i + 1 => cntC M i + (if 0 < M 6 i then 1 else 0)
theorem cntC_s (M : MT) (i : Nat) : cntC M (i + 1) = cntC M i + (if 0 < M 6 i then 1 else 0) := rfl
def mostW (M : MT) : Nat → Int × Int
  | 0 => (-1, -1)
  | i + 1 => if M 6 i = 0 ∧ (mostW M i).2 < M 4 i then ((i : Int), M 4 i) else mostW M i
theorem mostW_bd {M : MT} (hB : Bd M) (i : Nat) : -1 ≤ (mostW M i).2 ∧ (mostW M i).2 ≤ 2000000 := by
  induction i with
  | zero => exact ⟨by show (-1 : Int) ≤ -1; decide, by show (-1 : Int) ≤ 2000000; decide⟩
  | succ i ih =>
    have := hB 4 i
    unfold mostW
    split
    · exact ⟨by omega, by omega⟩
    · exact ih
theorem mostW_y {M : MT} {i : Nat} (h1 : M 6 i = 0) (h2 : (mostW M i).2 < M 4 i) : mostW M (i + 1) = ((i : Int), M 4 i) := if_pos ⟨h1, h2⟩
theorem mostW_n {M : MT} {i : Nat} (h : M 6 i ≠ 0 ∨ M 4 i ≤ (mostW M i).2) : mostW M (i + 1) = mostW M i := if_neg (fun q => by omega)
theorem i_succ (i : Nat) : (i : Int) + 1 = ((i + 1 : Nat) : Int) := rfl
/-- a new road -/
def putR (M : MT) (a b l d : Int) : MT := upc (up (up (up (up M 0 (M 16 0) a) 1 (M 16 0) b) 2 (M 16 0) l) 3 (M 16 0) d) 16 (M 16 0 + 1)
/-- a road opens again -/
def reop (M : MT) (r : Int) : MT := up (up M 4 r 0) 5 r (if M 5 r < 3 then M 5 r + 1 else M 5 r)
theorem up_self (M : MT) (k : Nat) (i : Int) : up M k i (M k i) = M := by
  funext k' j
  rw [up_eq]
  split
  · rename_i q; rw [q.1, q.2]
  · rfl
set_option maxRecDepth 100000 in
set_option maxHeartbeats 4000000 in
theorem m_X0_lengthNow {G : va_G} {cy : ClassId} {q : Nat → Nat} (M : MT) (r : Int) (hr : 0 ≤ r ∧ r < 20) : Ct G cy yX0_lengthNow cX0_lengthNow 2 (some .int) ({ frames := 0, cells := 0, slots := 0, locals := 0 } : Room) 0 0 [.ref (q 0), .int (enc (r))] (wR cy q M) (fun v w1 => v = some (.int (enc (len M r))) ∧ w1 = wR cy q M) := by
  refine Ct.ofI (by decide) (Nat.le_of_ble_eq_true rfl) rfl rfl (fun _ _ _ => rfl) ?_
  intro c X ret
  refine Tlv (lv' := [(0, .ref (q 0)), (1, .int (enc (r)))]) rfl ?_
  refine tw_aload_n X dX0_lengthNow_0 0 rfl rfl ?_
  refine gf_X0_18 X (v := .ref (q 3)) 0 rfl rfl dX0_lengthNow_1 ?_
  refine tw_iload_n X dX0_lengthNow_4 1 rfl rfl ?_
  refine tw_iald X (N := 20) (f := (M 2)) 3 rfl (by decide) (by omega) dX0_lengthNow_5 ?_
  refine Tst (st' := [.int (enc (M 2 r))]) rfl ?_
  refine tw_aload_n X dX0_lengthNow_6 0 rfl rfl ?_
  refine gf_X0_27 X (v := .ref (q 6)) 0 rfl rfl dX0_lengthNow_7 ?_
  refine tw_iload_n X dX0_lengthNow_10 1 rfl rfl ?_
  refine tw_iald X (N := 20) (f := (M 5)) 6 rfl (by decide) (by omega) dX0_lengthNow_11 ?_
  refine Tst (st' := [.int (enc (M 5 r)), .int (enc (M 2 r))]) rfl ?_
  refine tw_iadd (z := (M 2 r) + (M 5 r)) X dX0_lengthNow_12 rfl ?_
  exact ret _ _ _ _ dX0_lengthNow_13 ⟨rfl, rfl⟩
set_option maxRecDepth 100000 in
set_option maxHeartbeats 4000000 in
theorem m_X0_endFrom {G : va_G} {cy : ClassId} {q : Nat → Nat} (M : MT) (r c1 : Int) (hB : Bd M) (hr : 0 ≤ r ∧ r < 20) (hc : -10 ≤ c1 ∧ c1 ≤ 20) : Ct G cy yX0_endFrom cX0_endFrom 3 (some .int) ({ frames := 0, cells := 0, slots := 0, locals := 0 } : Room) 0 0 [.ref (q 0), .int (enc (r)), .int (enc (c1))] (wR cy q M) (fun v w1 => v = some (.int (enc (endF M r c1))) ∧ w1 = wR cy q M) := by
  refine Ct.ofI (by decide) (Nat.le_of_ble_eq_true rfl) rfl rfl (fun _ _ _ => rfl) ?_
  intro c X ret
  refine Tlv (lv' := [(0, .ref (q 0)), (1, .int (enc (r))), (2, .int (enc (c1)))]) rfl ?_
  refine tw_aload_n X dX0_endFrom_0 0 rfl rfl ?_
  refine gf_X0_9 X (v := .ref (q 1)) 0 rfl rfl dX0_endFrom_1 ?_
  refine tw_iload_n X dX0_endFrom_4 1 rfl rfl ?_
  refine tw_iald X (N := 20) (f := (M 0)) 1 rfl (by decide) (by omega) dX0_endFrom_5 ?_
  refine Tst (st' := [.int (enc (M 0 r))]) rfl ?_
  have b1 := hB 0 r
  refine tw_iload_n X dX0_endFrom_6 2 rfl rfl ?_
  refine tw_icmp_ne (tgt := 17) X (In_of (by omega) (by omega)) (In_of (by omega) (by omega)) dX0_endFrom_7 (by decide) (fun c7 => ?_) (fun c7 => ?_)
  · skip
    refine tw_aload_n X dX0_endFrom_17 0 rfl rfl ?_
    refine gf_X0_15 X (v := .ref (q 2)) 0 rfl rfl dX0_endFrom_18 ?_
    refine tw_iload_n X dX0_endFrom_21 1 rfl rfl ?_
    refine tw_iald X (N := 20) (f := (M 1)) 2 rfl (by decide) (by omega) dX0_endFrom_22 ?_
    refine Tst (st' := [.int (enc (M 1 r))]) rfl ?_
    have b2 := hB 1 r
    refine tw_iload_n X dX0_endFrom_23 2 rfl rfl ?_
    refine tw_icmp_ne (tgt := 34) X (In_of (by omega) (by omega)) (In_of (by omega) (by omega)) dX0_endFrom_24 (by decide) (fun c24 => ?_) (fun c24 => ?_)
    · skip
      refine tw_iconst X dX0_endFrom_34 ?_
      exact ret _ _ _ _ dX0_endFrom_35 ⟨by unfold endF; rw [if_neg c7, if_neg c24], rfl⟩
    · skip
      refine tw_aload_n X dX0_endFrom_27 0 rfl rfl ?_
      refine gf_X0_9 X (v := .ref (q 1)) 0 rfl rfl dX0_endFrom_28 ?_
      refine tw_iload_n X dX0_endFrom_31 1 rfl rfl ?_
      refine tw_iald X (N := 20) (f := (M 0)) 1 rfl (by decide) (by omega) dX0_endFrom_32 ?_
      refine Tst (st' := [.int (enc (M 0 r))]) rfl ?_
      have b3 := hB 0 r
      exact ret _ _ _ _ dX0_endFrom_33 ⟨by unfold endF; rw [if_neg c7, if_pos c24], rfl⟩
  · skip
    refine tw_aload_n X dX0_endFrom_10 0 rfl rfl ?_
    refine gf_X0_15 X (v := .ref (q 2)) 0 rfl rfl dX0_endFrom_11 ?_
    refine tw_iload_n X dX0_endFrom_14 1 rfl rfl ?_
    refine tw_iald X (N := 20) (f := (M 1)) 2 rfl (by decide) (by omega) dX0_endFrom_15 ?_
    refine Tst (st' := [.int (enc (M 1 r))]) rfl ?_
    have b4 := hB 1 r
    exact ret _ _ _ _ dX0_endFrom_16 ⟨by unfold endF; rw [if_pos c7], rfl⟩
set_option maxRecDepth 100000 in
set_option maxHeartbeats 4000000 in
theorem m_X0_reopen {G : va_G} {cy : ClassId} {q : Nat → Nat} (M : MT) (r : Int) (hB : Bd M) (hr : 0 ≤ r ∧ r < 20) : Ct G cy yX0_reopen cX0_reopen 2 none ({ frames := 0, cells := 0, slots := 0, locals := 0 } : Room) 0 0 [.ref (q 0), .int (enc (r))] (wR cy q M) (fun v w1 => v = none ∧ w1 = wR cy q (reop M r)) := by
  refine Ct.ofV (by decide) (Nat.le_of_ble_eq_true rfl) rfl rfl ?_
  intro c X ret
  refine Tlv (lv' := [(0, .ref (q 0)), (1, .int (enc (r)))]) rfl ?_
  refine tw_aload_n X dX0_reopen_0 0 rfl rfl ?_
  refine gf_X0_24 X (v := .ref (q 5)) 0 rfl rfl dX0_reopen_1 ?_
  refine tw_iload_n X dX0_reopen_4 1 rfl rfl ?_
  refine tw_iconst X dX0_reopen_5 ?_
  refine tw_iast X (N := 20) (f := (M 4)) (ws' := wR cy q (up M 4 (r) (0))) 5 rfl (by decide) (by omega) dX0_reopen_6 rfl ?_
  refine tw_aload_n X dX0_reopen_7 0 rfl rfl ?_
  refine gf_X0_27 X (v := .ref (q 6)) 0 rfl rfl dX0_reopen_8 ?_
  refine tw_iload_n X dX0_reopen_11 1 rfl rfl ?_
  refine tw_iald X (N := 20) (f := (M 5)) 6 rfl (by decide) (by omega) dX0_reopen_12 ?_
  refine Tst (st' := [.int (enc (M 5 r))]) rfl ?_
  have b1 := hB 5 r
  refine tw_iconst X dX0_reopen_13 ?_
  refine tw_icmp_ge (tgt := 27) X (In_of (by omega) (by omega)) (In_of (by omega) (by omega)) dX0_reopen_14 (by decide) (fun c14 => ?_) (fun c14 => ?_)
  · skip
    exact ret _ _ _ dX0_reopen_27 ⟨rfl, by unfold reop; first | rw [if_pos c14] | (rw [if_neg (Int.not_lt.mpr c14), show M 5 r = up M 4 r 0 5 r from rfl, up_self])⟩
  · skip
    refine tw_aload_n X dX0_reopen_17 0 rfl rfl ?_
    refine gf_X0_27 X (v := .ref (q 6)) 0 rfl rfl dX0_reopen_18 ?_
    refine tw_iload_n X dX0_reopen_21 1 rfl rfl ?_
    refine tw_dup2 X dX0_reopen_22 rfl rfl ?_
    refine tw_iald X (N := 20) (f := (M 5)) 6 rfl (by decide) (by omega) dX0_reopen_23 ?_
    refine Tst (st' := [.int (enc (M 5 r)), .int (enc (r)), .ref (q 6)]) rfl ?_
    have b2 := hB 5 r
    refine tw_iconst X dX0_reopen_24 ?_
    refine tw_iadd (z := (M 5 r) + 1) X dX0_reopen_25 rfl ?_
    refine tw_iast X (N := 20) (f := (M 5)) (ws' := wR cy q (up (up M 4 (r) (0)) 5 (r) ((M 5 r) + 1))) 6 rfl (by decide) (by omega) dX0_reopen_26 rfl ?_
    exact ret _ _ _ dX0_reopen_27 ⟨rfl, by unfold reop; first | rw [if_pos c14] | (rw [if_neg (Int.not_lt.mpr c14), show M 5 r = up M 4 r 0 5 r from rfl, up_self])⟩
set_option maxRecDepth 100000 in
set_option maxHeartbeats 4000000 in
theorem m_X0_put {G : va_G} {cy : ClassId} {q : Nat → Nat} (M : MT) (a b l d : Int) (h : 0 ≤ M 16 0 ∧ M 16 0 < 20) : Ct G cy yX0_put cX0_put 6 (some .int) ({ frames := 0, cells := 0, slots := 0, locals := 0 } : Room) 0 0 [.ref (q 0), .int (enc (a)), .int (enc (b)), .int (enc (l)), .int (enc (d))] (wR cy q M) (fun v w1 => v = some (.int (enc (M 16 0))) ∧ w1 = wR cy q (putR M a b l d)) := by
  refine Ct.ofI (by decide) (Nat.le_of_ble_eq_true rfl) rfl rfl (fun _ _ _ => rfl) ?_
  intro c X ret
  refine Tlv (lv' := [(0, .ref (q 0)), (1, .int (enc (a))), (2, .int (enc (b))), (3, .int (enc (l))), (4, .int (enc (d)))]) rfl ?_
  refine tw_aload_n X dX0_put_0 0 rfl rfl ?_
  refine gf_X0_39 X (v := .int (enc (M 16 0))) 0 rfl rfl dX0_put_1 ?_
  refine tw_istore (lv' := [(5, .int (enc (M 16 0))), (0, .ref (q 0)), (1, .int (enc (a))), (2, .int (enc (b))), (3, .int (enc (l))), (4, .int (enc (d)))]) X dX0_put_4 (by decide) rfl ?_
  refine tw_aload_n X dX0_put_6 1 rfl rfl ?_
  refine gf_X0_9 X (v := .ref (q 1)) 0 rfl rfl dX0_put_7 ?_
  refine tw_iload X dX0_put_10 0 rfl ?_
  refine tw_iload_n X dX0_put_12 2 rfl rfl ?_
  refine tw_iast X (N := 20) (f := (M 0)) (ws' := wR cy q (up M 0 (M 16 0) (a))) 1 rfl (by decide) (by omega) dX0_put_13 rfl ?_
  refine tw_aload_n X dX0_put_14 1 rfl rfl ?_
  refine gf_X0_15 X (v := .ref (q 2)) 0 rfl rfl dX0_put_15 ?_
  refine tw_iload X dX0_put_18 0 rfl ?_
  refine tw_iload_n X dX0_put_20 3 rfl rfl ?_
  refine tw_iast X (N := 20) (f := (M 1)) (ws' := wR cy q (up (up M 0 (M 16 0) (a)) 1 (M 16 0) (b))) 2 rfl (by decide) (by omega) dX0_put_21 rfl ?_
  refine tw_aload_n X dX0_put_22 1 rfl rfl ?_
  refine gf_X0_18 X (v := .ref (q 3)) 0 rfl rfl dX0_put_23 ?_
  refine tw_iload X dX0_put_26 0 rfl ?_
  refine tw_iload_n X dX0_put_28 4 rfl rfl ?_
  refine tw_iast X (N := 20) (f := (M 2)) (ws' := wR cy q (up (up (up M 0 (M 16 0) (a)) 1 (M 16 0) (b)) 2 (M 16 0) (l))) 3 rfl (by decide) (by omega) dX0_put_29 rfl ?_
  refine tw_aload_n X dX0_put_30 1 rfl rfl ?_
  refine gf_X0_21 X (v := .ref (q 4)) 0 rfl rfl dX0_put_31 ?_
  refine tw_iload X dX0_put_34 0 rfl ?_
  refine tw_iload X dX0_put_36 5 rfl ?_
  refine tw_iast X (N := 20) (f := (M 3)) (ws' := wR cy q (up (up (up (up M 0 (M 16 0) (a)) 1 (M 16 0) (b)) 2 (M 16 0) (l)) 3 (M 16 0) (d))) 4 rfl (by decide) (by omega) dX0_put_38 rfl ?_
  refine tw_aload_n X dX0_put_39 1 rfl rfl ?_
  refine tw_dup X dX0_put_40 rfl ?_
  refine gf_X0_39 X (v := .int (enc (M 16 0))) 0 rfl rfl dX0_put_41 ?_
  refine tw_iconst X dX0_put_44 ?_
  refine tw_iadd (z := (M 16 0) + 1) X dX0_put_45 rfl ?_
  refine pf_X0_39 X (ws' := wR cy q (upc (up (up (up (up M 0 (M 16 0) (a)) 1 (M 16 0) (b)) 2 (M 16 0) (l)) 3 (M 16 0) (d)) 16 ((M 16 0) + 1))) 0 rfl (Nat.le_of_ble_eq_true rfl) rfl rfl dX0_put_46 rfl ?_
  refine tw_iload X dX0_put_49 0 rfl ?_
  exact ret _ _ _ _ dX0_put_51 ⟨rfl, rfl⟩
set_option maxRecDepth 100000 in
set_option maxHeartbeats 4000000 in
theorem m_X0_countClosed {G : va_G} {cy : ClassId} {q : Nat → Nat} (M : MT) (hB : Bd M) (h : 0 ≤ M 16 0 ∧ M 16 0 ≤ 20) : Ct G cy yX0_countClosed cX0_countClosed 3 (some .int) ({ frames := 0, cells := 0, slots := 0, locals := 0 } : Room) 0 0 [.ref (q 0)] (wR cy q M) (fun v w1 => v = some (.int (enc (cntC M (M 16 0).toNat))) ∧ w1 = wR cy q M) := by
  refine Ct.ofI (by decide) (Nat.le_of_ble_eq_true rfl) rfl rfl (fun _ _ _ => rfl) ?_
  intro c X ret
  refine Tlv (lv' := [(0, .ref (q 0))]) rfl ?_
  refine tw_iconst X dX0_countClosed_0 ?_
  refine tw_istore_n (lv' := [(1, .int (enc (0))), (0, .ref (q 0))]) X dX0_countClosed_1 rfl (by decide) rfl ?_
  refine tw_iconst X dX0_countClosed_2 ?_
  refine tw_istore_n (lv' := [(2, .int (enc (0))), (1, .int (enc (0))), (0, .ref (q 0))]) X dX0_countClosed_3 rfl (by decide) rfl ?_
  have L4 : ∀ (fu i : Nat), (i : Int) ≤ M 16 0 → M 16 0 + 1 ≤ (i : Int) + fu → T G c ({ frames := 0, cells := 0, slots := 0, locals := 0 } : Room) 3 0 0 (wR cy q M) 4 [(0, .ref (q 0)), (1, .int (enc (cntC M i))), (2, .int (enc ((i : Int))))] [] := by
    intro fu
    induction fu with
    | zero =>
      intro i  hi0 hi1
      exact absurd hi1 (by omega)
    | succ fu ih4 =>
      intro i  hi0_4 hi1_4 
      refine tw_iload_n X dX0_countClosed_4 2 rfl rfl ?_
      refine tw_aload_n X dX0_countClosed_5 0 rfl rfl ?_
      refine gf_X0_39 X (v := .int (enc (M 16 0))) 0 rfl rfl dX0_countClosed_6 ?_
      have b1 := hB 16 0
      refine tw_icmp_ge (tgt := 30) X (In_of (by omega) (by omega)) (In_of (by omega) (by omega)) dX0_countClosed_9 (by decide) (fun c9 => ?_) (fun c9 => ?_)
      · skip
        refine tw_iload_n X dX0_countClosed_30 1 rfl rfl ?_
        exact ret _ _ _ _ dX0_countClosed_31 ⟨by rw [show (M 16 0).toNat = i by omega], rfl⟩
      · skip
        refine tw_aload_n X dX0_countClosed_12 0 rfl rfl ?_
        refine gf_X0_30 X (v := .ref (q 7)) 0 rfl rfl dX0_countClosed_13 ?_
        refine tw_iload_n X dX0_countClosed_16 2 rfl rfl ?_
        refine tw_iald X (N := 20) (f := (M 6)) 7 rfl (by decide) (by omega) dX0_countClosed_17 ?_
        refine Tst (st' := [.int (enc (M 6 (i : Int)))]) rfl ?_
        have b2 := hB 6 (i : Int)
        refine tw_if_le (tgt := 24) X (In_of (by omega) (by omega)) dX0_countClosed_18 (by decide) (fun c18 => ?_) (fun c18 => ?_)
        · skip
          refine tw_iinc (q := 2) (x := (i : Int)) (y := (i : Int) + 1) (lv' := [(2, .int (enc ((i : Int) + 1))), (0, .ref (q 0)), (1, .int (enc (cntC M i)))]) X dX0_countClosed_24 rfl rfl (by decide) rfl ?_
          refine tw_goto (tgt := 4) X dX0_countClosed_27 (by decide) ?_
          refine Tsub (lv' := [(0, .ref (q 0)), (1, .int (enc (cntC M i))), (2, .int (enc ((i : Int) + 1)))]) [1, 2, 0] rfl ?_
          refine Teq (ws' := wR cy q M) (lv' := [(0, .ref (q 0)), (1, .int (enc (cntC M (i + 1)))), (2, .int (enc (((i + 1 : Nat) : Int))))]) (st' := []) (rfl) (lvk (lvc (by rw [cntC_s]; first | rw [if_pos (by omega)] | (rw [if_neg (by omega)]; omega)) (lvc (i_succ i) (rfl)))) rfl (ih4 (i + 1) (by omega) (by omega))
        · skip
          refine tw_iinc (q := 1) (x := cntC M i) (y := cntC M i + 1) (lv' := [(1, .int (enc (cntC M i + 1))), (0, .ref (q 0)), (2, .int (enc ((i : Int))))]) X dX0_countClosed_21 rfl rfl (by decide) rfl ?_
          refine tw_iinc (q := 2) (x := (i : Int)) (y := (i : Int) + 1) (lv' := [(2, .int (enc ((i : Int) + 1))), (1, .int (enc (cntC M i + 1))), (0, .ref (q 0))]) X dX0_countClosed_24 rfl rfl (by decide) rfl ?_
          refine tw_goto (tgt := 4) X dX0_countClosed_27 (by decide) ?_
          refine Tsub (lv' := [(0, .ref (q 0)), (1, .int (enc (cntC M i + 1))), (2, .int (enc ((i : Int) + 1)))]) [2, 1, 0] rfl ?_
          refine Teq (ws' := wR cy q M) (lv' := [(0, .ref (q 0)), (1, .int (enc (cntC M (i + 1)))), (2, .int (enc (((i + 1 : Nat) : Int))))]) (st' := []) (rfl) (lvk (lvc (by rw [cntC_s]; first | rw [if_pos (by omega)] | (rw [if_neg (by omega)]; omega)) (lvc (i_succ i) (rfl)))) rfl (ih4 (i + 1) (by omega) (by omega))
  refine Tsub (lv' := [(0, .ref (q 0)), (1, .int (enc (0))), (2, .int (enc (0)))]) [2, 1, 0] rfl ?_
  refine Teq (ws' := wR cy q M) (lv' := [(0, .ref (q 0)), (1, .int (enc (cntC M 0))), (2, .int (enc (((0 : Nat) : Int))))]) (st' := []) (rfl) (rfl) rfl (L4 (M 16 0 + 1).toNat 0 (by omega) (by omega))
set_option maxRecDepth 100000 in
set_option maxHeartbeats 4000000 in
theorem m_X0_openWithMostWear {G : va_G} {cy : ClassId} {q : Nat → Nat} (M : MT) (hB : Bd M) (h : 0 ≤ M 16 0 ∧ M 16 0 ≤ 20) : Ct G cy yX0_openWithMostWear cX0_openWithMostWear 4 (some .int) ({ frames := 0, cells := 0, slots := 0, locals := 0 } : Room) 0 0 [.ref (q 0)] (wR cy q M) (fun v w1 => v = some (.int (enc (mostW M (M 16 0).toNat).1)) ∧ w1 = wR cy q M) := by
  refine Ct.ofI (by decide) (Nat.le_of_ble_eq_true rfl) rfl rfl (fun _ _ _ => rfl) ?_
  intro c X ret
  refine Tlv (lv' := [(0, .ref (q 0))]) rfl ?_
  refine tw_iconst X dX0_openWithMostWear_0 ?_
  refine tw_istore_n (lv' := [(1, .int (enc (-1))), (0, .ref (q 0))]) X dX0_openWithMostWear_1 rfl (by decide) rfl ?_
  refine tw_iconst X dX0_openWithMostWear_2 ?_
  refine tw_istore_n (lv' := [(2, .int (enc (-1))), (1, .int (enc (-1))), (0, .ref (q 0))]) X dX0_openWithMostWear_3 rfl (by decide) rfl ?_
  refine tw_iconst X dX0_openWithMostWear_4 ?_
  refine tw_istore_n (lv' := [(3, .int (enc (0))), (2, .int (enc (-1))), (1, .int (enc (-1))), (0, .ref (q 0))]) X dX0_openWithMostWear_5 rfl (by decide) rfl ?_
  have L6 : ∀ (fu i : Nat), (i : Int) ≤ M 16 0 → M 16 0 + 1 ≤ (i : Int) + fu → T G c ({ frames := 0, cells := 0, slots := 0, locals := 0 } : Room) 4 0 0 (wR cy q M) 6 [(0, .ref (q 0)), (1, .int (enc ((mostW M i).1))), (2, .int (enc ((mostW M i).2))), (3, .int (enc ((i : Int))))] [] := by
    intro fu
    induction fu with
    | zero =>
      intro i  hi0 hi1
      exact absurd hi1 (by omega)
    | succ fu ih6 =>
      intro i  hi0_6 hi1_6 
      refine tw_iload_n X dX0_openWithMostWear_6 3 rfl rfl ?_
      refine tw_aload_n X dX0_openWithMostWear_7 0 rfl rfl ?_
      refine gf_X0_39 X (v := .int (enc (M 16 0))) 0 rfl rfl dX0_openWithMostWear_8 ?_
      have b1 := hB 16 0
      refine tw_icmp_ge (tgt := 48) X (In_of (by omega) (by omega)) (In_of (by omega) (by omega)) dX0_openWithMostWear_11 (by decide) (fun c11 => ?_) (fun c11 => ?_)
      · skip
        refine tw_iload_n X dX0_openWithMostWear_48 1 rfl rfl ?_
        exact ret _ _ _ _ dX0_openWithMostWear_49 ⟨by rw [show (M 16 0).toNat = i by omega], rfl⟩
      · skip
        refine tw_aload_n X dX0_openWithMostWear_14 0 rfl rfl ?_
        refine gf_X0_30 X (v := .ref (q 7)) 0 rfl rfl dX0_openWithMostWear_15 ?_
        refine tw_iload_n X dX0_openWithMostWear_18 3 rfl rfl ?_
        refine tw_iald X (N := 20) (f := (M 6)) 7 rfl (by decide) (by omega) dX0_openWithMostWear_19 ?_
        refine Tst (st' := [.int (enc (M 6 (i : Int)))]) rfl ?_
        have b2 := hB 6 (i : Int)
        refine tw_if_ne (tgt := 42) X (In_of (by omega) (by omega)) dX0_openWithMostWear_20 (by decide) (fun c20 => ?_) (fun c20 => ?_)
        · skip
          refine tw_iinc (q := 3) (x := (i : Int)) (y := (i : Int) + 1) (lv' := [(3, .int (enc ((i : Int) + 1))), (0, .ref (q 0)), (1, .int (enc ((mostW M i).1))), (2, .int (enc ((mostW M i).2)))]) X dX0_openWithMostWear_42 rfl rfl (by decide) rfl ?_
          refine tw_goto (tgt := 6) X dX0_openWithMostWear_45 (by decide) ?_
          refine Tsub (lv' := [(0, .ref (q 0)), (1, .int (enc ((mostW M i).1))), (2, .int (enc ((mostW M i).2))), (3, .int (enc ((i : Int) + 1)))]) [1, 2, 3, 0] rfl ?_
          refine Teq (ws' := wR cy q M) (lv' := [(0, .ref (q 0)), (1, .int (enc ((mostW M (i + 1)).1))), (2, .int (enc ((mostW M (i + 1)).2))), (3, .int (enc (((i + 1 : Nat) : Int))))]) (st' := []) (rfl) (lvk (lvc (by first | rw [mostW_y c20 c30] | rw [mostW_n (by omega)]) (lvc (by first | rw [mostW_y c20 c30] | rw [mostW_n (by omega)]) (lvc (i_succ i) (rfl))))) rfl (ih6 (i + 1) (by omega) (by omega))
        · skip
          refine tw_aload_n X dX0_openWithMostWear_23 0 rfl rfl ?_
          refine gf_X0_24 X (v := .ref (q 5)) 0 rfl rfl dX0_openWithMostWear_24 ?_
          refine tw_iload_n X dX0_openWithMostWear_27 3 rfl rfl ?_
          have bm := mostW_bd hB i
          refine tw_iald X (N := 20) (f := (M 4)) 5 rfl (by decide) (by omega) dX0_openWithMostWear_28 ?_
          refine Tst (st' := [.int (enc (M 4 (i : Int)))]) rfl ?_
          have b3 := hB 4 (i : Int)
          refine tw_iload_n X dX0_openWithMostWear_29 2 rfl rfl ?_
          refine tw_icmp_le (tgt := 42) X (In_of (by omega) (by omega)) (In_of (by omega) (by omega)) dX0_openWithMostWear_30 (by decide) (fun c30 => ?_) (fun c30 => ?_)
          · skip
            refine tw_iinc (q := 3) (x := (i : Int)) (y := (i : Int) + 1) (lv' := [(3, .int (enc ((i : Int) + 1))), (0, .ref (q 0)), (1, .int (enc ((mostW M i).1))), (2, .int (enc ((mostW M i).2)))]) X dX0_openWithMostWear_42 rfl rfl (by decide) rfl ?_
            refine tw_goto (tgt := 6) X dX0_openWithMostWear_45 (by decide) ?_
            refine Tsub (lv' := [(0, .ref (q 0)), (1, .int (enc ((mostW M i).1))), (2, .int (enc ((mostW M i).2))), (3, .int (enc ((i : Int) + 1)))]) [1, 2, 3, 0] rfl ?_
            refine Teq (ws' := wR cy q M) (lv' := [(0, .ref (q 0)), (1, .int (enc ((mostW M (i + 1)).1))), (2, .int (enc ((mostW M (i + 1)).2))), (3, .int (enc (((i + 1 : Nat) : Int))))]) (st' := []) (rfl) (lvk (lvc (by first | rw [mostW_y c20 c30] | rw [mostW_n (by omega)]) (lvc (by first | rw [mostW_y c20 c30] | rw [mostW_n (by omega)]) (lvc (i_succ i) (rfl))))) rfl (ih6 (i + 1) (by omega) (by omega))
          · skip
            refine tw_aload_n X dX0_openWithMostWear_33 0 rfl rfl ?_
            refine gf_X0_24 X (v := .ref (q 5)) 0 rfl rfl dX0_openWithMostWear_34 ?_
            refine tw_iload_n X dX0_openWithMostWear_37 3 rfl rfl ?_
            refine tw_iald X (N := 20) (f := (M 4)) 5 rfl (by decide) (by omega) dX0_openWithMostWear_38 ?_
            refine Tst (st' := [.int (enc (M 4 (i : Int)))]) rfl ?_
            have b4 := hB 4 (i : Int)
            refine tw_istore_n (lv' := [(2, .int (enc (M 4 (i : Int)))), (0, .ref (q 0)), (1, .int (enc ((mostW M i).1))), (3, .int (enc ((i : Int))))]) X dX0_openWithMostWear_39 rfl (by decide) rfl ?_
            refine tw_iload_n X dX0_openWithMostWear_40 3 rfl rfl ?_
            refine tw_istore_n (lv' := [(1, .int (enc ((i : Int)))), (2, .int (enc (M 4 (i : Int)))), (0, .ref (q 0)), (3, .int (enc ((i : Int))))]) X dX0_openWithMostWear_41 rfl (by decide) rfl ?_
            refine tw_iinc (q := 3) (x := (i : Int)) (y := (i : Int) + 1) (lv' := [(3, .int (enc ((i : Int) + 1))), (1, .int (enc ((i : Int)))), (2, .int (enc (M 4 (i : Int)))), (0, .ref (q 0))]) X dX0_openWithMostWear_42 rfl rfl (by decide) rfl ?_
            refine tw_goto (tgt := 6) X dX0_openWithMostWear_45 (by decide) ?_
            refine Tsub (lv' := [(0, .ref (q 0)), (1, .int (enc ((i : Int)))), (2, .int (enc (M 4 (i : Int)))), (3, .int (enc ((i : Int) + 1)))]) [3, 1, 2, 0] rfl ?_
            refine Teq (ws' := wR cy q M) (lv' := [(0, .ref (q 0)), (1, .int (enc ((mostW M (i + 1)).1))), (2, .int (enc ((mostW M (i + 1)).2))), (3, .int (enc (((i + 1 : Nat) : Int))))]) (st' := []) (rfl) (lvk (lvc (by first | rw [mostW_y c20 c30] | rw [mostW_n (by omega)]) (lvc (by first | rw [mostW_y c20 c30] | rw [mostW_n (by omega)]) (lvc (i_succ i) (rfl))))) rfl (ih6 (i + 1) (by omega) (by omega))
  refine Tsub (lv' := [(0, .ref (q 0)), (1, .int (enc (-1))), (2, .int (enc (-1))), (3, .int (enc (0)))]) [3, 2, 1, 0] rfl ?_
  refine Teq (ws' := wR cy q M) (lv' := [(0, .ref (q 0)), (1, .int (enc ((mostW M 0).1))), (2, .int (enc ((mostW M 0).2))), (3, .int (enc (((0 : Nat) : Int))))]) (st' := []) (rfl) (rfl) rfl (L6 (M 16 0 + 1).toNat 0 (by omega) (by omega))
def upf (M : MT) (k : Nat) (f : Int → Int) : MT := fun k' => cond (Nat.beq k' k) f (M k')
-- none: X0 copyFrom
