/-! TOURISTS -/
def onR (M : MT) (r : Int) : Nat → Int
  | 0 => 0
  | t + 1 => onR M r t + (if M 8 t = r then 1 else 0)
theorem onR_s (M : MT) (r : Int) (t : Nat) : onR M r (t + 1) = onR M r t + (if M 8 t = r then 1 else 0) := rfl
theorem onR_rng (M : MT) (r : Int) : ∀ t : Nat, 0 ≤ onR M r t ∧ onR M r t ≤ t
  | 0 => ⟨Int.le_refl _, Int.le_refl _⟩
  | t + 1 => by
    have := onR_rng M r t
    rw [onR_s]
    split <;> omega
def mx0 (z : Int) : Int := if 0 < z then z else 0
def frayAt (M : MT) (t h : Int) : Int := mx0 ((if 0 ≤ M 15 t then M 15 t else h - M 13 t) - M 14 t)
def frA (M : MT) (h : Int) : Nat → Int
  | 0 => 0
  | t + 1 => frA M h t + frayAt M t h
theorem frA_s (M : MT) (h : Int) (t : Nat) : frA M h (t + 1) = frA M h t + frayAt M t h := rfl
def frI (M : MT) : Nat → Int
  | 0 => 0
  | t + 1 => frI M t + (if 0 ≤ M 15 t then mx0 (M 15 t - M 14 t) else 0)
theorem frI_s (M : MT) (t : Nat) : frI M (t + 1) = frI M t + (if 0 ≤ M 15 t then mx0 (M 15 t - M 14 t) else 0) := rfl
def takeT (M : MT) (t r e h : Int) : MT := up (up (up (up M 7 t (-1)) 8 t r) 9 t e) 10 t h
def walkT (M : MT) (t h : Int) : MT := if M 8 t < 0 then M else if 0 < M 10 t - 1 then up M 10 t (M 10 t - 1) else if M 9 t = M 11 t then upc (up (up (up (up M 10 t (M 10 t - 1)) 7 t (M 9 t)) 8 t (-1)) 15 t (h + 1 - M 13 t)) 18 (M 18 0 + 1) else up (up (up M 10 t (M 10 t - 1)) 7 t (M 9 t)) 8 t (-1)
def putT (M : MT) (a g s h : Int) : MT := upc (up (up (up (up (up (up (up M 7 (M 17 0) a) 8 (M 17 0) (-1)) 11 (M 17 0) g) 12 (M 17 0) 0) 13 (M 17 0) h) 14 (M 17 0) s) 15 (M 17 0) (-1)) 17 (M 17 0 + 1)
set_option maxRecDepth 100000 in
set_option maxHeartbeats 4000000 in
theorem m_X1_isIn {G : va_G} {cy : ClassId} {q : Nat → Nat} (M : MT) (t : Int) (hB : Bd M) (ht : 0 ≤ t ∧ t < 12) : Ct G cy yX1_isIn cX1_isIn 2 (some .boolean) ({ frames := 0, cells := 0, slots := 0, locals := 0 } : Room) 0 0 [.ref (q 0), .int (enc (t))] (wT cy q M) (fun v w1 => v = some (.int (enc (if 0 ≤ M 15 t then 1 else 0))) ∧ w1 = wT cy q M) := by
  refine Ct.ofI (by decide) (Nat.le_of_ble_eq_true rfl) rfl rfl (fun x w1 h => by obtain ⟨h1, -⟩ := h; cases h1; exact nar_b) ?_
  intro c X ret
  refine Tlv (lv' := [(0, .ref (q 0)), (1, .int (enc (t)))]) rfl ?_
  refine tw_aload_n X dX1_isIn_0 0 rfl rfl ?_
  refine gf_X1_36 X (v := .ref (q 9)) 0 rfl rfl dX1_isIn_1 ?_
  refine tw_iload_n X dX1_isIn_4 1 rfl rfl ?_
  refine tw_iald X (N := 12) (f := (M 15)) 9 rfl (by decide) (by omega) dX1_isIn_5 ?_
  refine Tst (st' := [.int (enc (M 15 t))]) rfl ?_
  have b1 := hB 15 t
  refine tw_if_lt (tgt := 13) X (In_of (by omega) (by omega)) dX1_isIn_6 (by decide) (fun c6 => ?_) (fun c6 => ?_)
  · skip
    refine tw_iconst X dX1_isIn_13 ?_
    exact ret _ _ _ _ dX1_isIn_14 ⟨by first | rw [if_pos c6] | rw [if_neg (Int.not_le.mpr c6)], rfl⟩
  · skip
    refine tw_iconst X dX1_isIn_9 ?_
    refine tw_goto (tgt := 14) X dX1_isIn_10 (by decide) ?_
    exact ret _ _ _ _ dX1_isIn_14 ⟨by first | rw [if_pos c6] | rw [if_neg (Int.not_le.mpr c6)], rfl⟩
set_option maxRecDepth 100000 in
set_option maxHeartbeats 4000000 in
theorem m_X1_take {G : va_G} {cy : ClassId} {q : Nat → Nat} (M : MT) (t r e h : Int) (ht : 0 ≤ t ∧ t < 12) : Ct G cy yX1_take cX1_take 5 none ({ frames := 0, cells := 0, slots := 0, locals := 0 } : Room) 0 0 [.ref (q 0), .int (enc (t)), .int (enc (r)), .int (enc (e)), .int (enc (h))] (wT cy q M) (fun v w1 => v = none ∧ w1 = wT cy q (takeT M t r e h)) := by
  refine Ct.ofV (by decide) (Nat.le_of_ble_eq_true rfl) rfl rfl ?_
  intro c X ret
  refine Tlv (lv' := [(0, .ref (q 0)), (1, .int (enc (t))), (2, .int (enc (r))), (3, .int (enc (e))), (4, .int (enc (h)))]) rfl ?_
  refine tw_aload_n X dX1_take_0 0 rfl rfl ?_
  refine gf_X1_9 X (v := .ref (q 1)) 0 rfl rfl dX1_take_1 ?_
  refine tw_iload_n X dX1_take_4 1 rfl rfl ?_
  refine tw_iconst X dX1_take_5 ?_
  refine tw_iast X (N := 12) (f := (M 7)) (ws' := wT cy q (up M 7 (t) (-1))) 1 rfl (by decide) (by omega) dX1_take_6 rfl ?_
  refine tw_aload_n X dX1_take_7 0 rfl rfl ?_
  refine gf_X1_15 X (v := .ref (q 2)) 0 rfl rfl dX1_take_8 ?_
  refine tw_iload_n X dX1_take_11 1 rfl rfl ?_
  refine tw_iload_n X dX1_take_12 2 rfl rfl ?_
  refine tw_iast X (N := 12) (f := (M 8)) (ws' := wT cy q (up (up M 7 (t) (-1)) 8 (t) (r))) 2 rfl (by decide) (by omega) dX1_take_13 rfl ?_
  refine tw_aload_n X dX1_take_14 0 rfl rfl ?_
  refine gf_X1_18 X (v := .ref (q 3)) 0 rfl rfl dX1_take_15 ?_
  refine tw_iload_n X dX1_take_18 1 rfl rfl ?_
  refine tw_iload_n X dX1_take_19 3 rfl rfl ?_
  refine tw_iast X (N := 12) (f := (M 9)) (ws' := wT cy q (up (up (up M 7 (t) (-1)) 8 (t) (r)) 9 (t) (e))) 3 rfl (by decide) (by omega) dX1_take_20 rfl ?_
  refine tw_aload_n X dX1_take_21 0 rfl rfl ?_
  refine gf_X1_21 X (v := .ref (q 4)) 0 rfl rfl dX1_take_22 ?_
  refine tw_iload_n X dX1_take_25 1 rfl rfl ?_
  refine tw_iload X dX1_take_26 4 rfl ?_
  refine tw_iast X (N := 12) (f := (M 10)) (ws' := wT cy q (up (up (up (up M 7 (t) (-1)) 8 (t) (r)) 9 (t) (e)) 10 (t) (h))) 4 rfl (by decide) (by omega) dX1_take_28 rfl ?_
  exact ret _ _ _ dX1_take_29 ⟨rfl, rfl⟩
set_option maxRecDepth 100000 in
set_option maxHeartbeats 4000000 in
theorem m_X1_put {G : va_G} {cy : ClassId} {q : Nat → Nat} (M : MT) (a g s h : Int) (ht : 0 ≤ M 17 0 ∧ M 17 0 < 12) : Ct G cy yX1_put cX1_put 6 (some .int) ({ frames := 0, cells := 0, slots := 0, locals := 0 } : Room) 0 0 [.ref (q 0), .int (enc (a)), .int (enc (g)), .int (enc (s)), .int (enc (h))] (wT cy q M) (fun v w1 => v = some (.int (enc (M 17 0))) ∧ w1 = wT cy q (putT M a g s h)) := by
  refine Ct.ofI (by decide) (Nat.le_of_ble_eq_true rfl) rfl rfl (fun _ _ _ => rfl) ?_
  intro c X ret
  refine Tlv (lv' := [(0, .ref (q 0)), (1, .int (enc (a))), (2, .int (enc (g))), (3, .int (enc (s))), (4, .int (enc (h)))]) rfl ?_
  refine tw_aload_n X dX1_put_0 0 rfl rfl ?_
  refine gf_X1_45 X (v := .int (enc (M 17 0))) 0 rfl rfl dX1_put_1 ?_
  refine tw_istore (lv' := [(5, .int (enc (M 17 0))), (0, .ref (q 0)), (1, .int (enc (a))), (2, .int (enc (g))), (3, .int (enc (s))), (4, .int (enc (h)))]) X dX1_put_4 (by decide) rfl ?_
  refine tw_aload_n X dX1_put_6 1 rfl rfl ?_
  refine gf_X1_9 X (v := .ref (q 1)) 0 rfl rfl dX1_put_7 ?_
  refine tw_iload X dX1_put_10 0 rfl ?_
  refine tw_iload_n X dX1_put_12 2 rfl rfl ?_
  refine tw_iast X (N := 12) (f := (M 7)) (ws' := wT cy q (up M 7 (M 17 0) (a))) 1 rfl (by decide) (by omega) dX1_put_13 rfl ?_
  refine tw_aload_n X dX1_put_14 1 rfl rfl ?_
  refine gf_X1_15 X (v := .ref (q 2)) 0 rfl rfl dX1_put_15 ?_
  refine tw_iload X dX1_put_18 0 rfl ?_
  refine tw_iconst X dX1_put_20 ?_
  refine tw_iast X (N := 12) (f := (M 8)) (ws' := wT cy q (up (up M 7 (M 17 0) (a)) 8 (M 17 0) (-1))) 2 rfl (by decide) (by omega) dX1_put_21 rfl ?_
  refine tw_aload_n X dX1_put_22 1 rfl rfl ?_
  refine gf_X1_24 X (v := .ref (q 5)) 0 rfl rfl dX1_put_23 ?_
  refine tw_iload X dX1_put_26 0 rfl ?_
  refine tw_iload_n X dX1_put_28 3 rfl rfl ?_
  refine tw_iast X (N := 12) (f := (M 11)) (ws' := wT cy q (up (up (up M 7 (M 17 0) (a)) 8 (M 17 0) (-1)) 11 (M 17 0) (g))) 5 rfl (by decide) (by omega) dX1_put_29 rfl ?_
  refine tw_aload_n X dX1_put_30 1 rfl rfl ?_
  refine gf_X1_27 X (v := .ref (q 6)) 0 rfl rfl dX1_put_31 ?_
  refine tw_iload X dX1_put_34 0 rfl ?_
  refine tw_iconst X dX1_put_36 ?_
  refine tw_iast X (N := 12) (f := (M 12)) (ws' := wT cy q (up (up (up (up M 7 (M 17 0) (a)) 8 (M 17 0) (-1)) 11 (M 17 0) (g)) 12 (M 17 0) (0))) 6 rfl (by decide) (by omega) dX1_put_37 rfl ?_
  refine tw_aload_n X dX1_put_38 1 rfl rfl ?_
  refine gf_X1_30 X (v := .ref (q 7)) 0 rfl rfl dX1_put_39 ?_
  refine tw_iload X dX1_put_42 0 rfl ?_
  refine tw_iload X dX1_put_44 5 rfl ?_
  refine tw_iast X (N := 12) (f := (M 13)) (ws' := wT cy q (up (up (up (up (up M 7 (M 17 0) (a)) 8 (M 17 0) (-1)) 11 (M 17 0) (g)) 12 (M 17 0) (0)) 13 (M 17 0) (h))) 7 rfl (by decide) (by omega) dX1_put_46 rfl ?_
  refine tw_aload_n X dX1_put_47 1 rfl rfl ?_
  refine gf_X1_33 X (v := .ref (q 8)) 0 rfl rfl dX1_put_48 ?_
  refine tw_iload X dX1_put_51 0 rfl ?_
  refine tw_iload_n X dX1_put_53 4 rfl rfl ?_
  refine tw_iast X (N := 12) (f := (M 14)) (ws' := wT cy q (up (up (up (up (up (up M 7 (M 17 0) (a)) 8 (M 17 0) (-1)) 11 (M 17 0) (g)) 12 (M 17 0) (0)) 13 (M 17 0) (h)) 14 (M 17 0) (s))) 8 rfl (by decide) (by omega) dX1_put_54 rfl ?_
  refine tw_aload_n X dX1_put_55 1 rfl rfl ?_
  refine gf_X1_36 X (v := .ref (q 9)) 0 rfl rfl dX1_put_56 ?_
  refine tw_iload X dX1_put_59 0 rfl ?_
  refine tw_iconst X dX1_put_61 ?_
  refine tw_iast X (N := 12) (f := (M 15)) (ws' := wT cy q (up (up (up (up (up (up (up M 7 (M 17 0) (a)) 8 (M 17 0) (-1)) 11 (M 17 0) (g)) 12 (M 17 0) (0)) 13 (M 17 0) (h)) 14 (M 17 0) (s)) 15 (M 17 0) (-1))) 9 rfl (by decide) (by omega) dX1_put_62 rfl ?_
  refine tw_aload_n X dX1_put_63 1 rfl rfl ?_
  refine tw_dup X dX1_put_64 rfl ?_
  refine gf_X1_45 X (v := .int (enc (M 17 0))) 0 rfl rfl dX1_put_65 ?_
  refine tw_iconst X dX1_put_68 ?_
  refine tw_iadd (z := (M 17 0) + 1) X dX1_put_69 rfl ?_
  refine pf_X1_45 X (ws' := wT cy q (upc (up (up (up (up (up (up (up M 7 (M 17 0) (a)) 8 (M 17 0) (-1)) 11 (M 17 0) (g)) 12 (M 17 0) (0)) 13 (M 17 0) (h)) 14 (M 17 0) (s)) 15 (M 17 0) (-1)) 17 ((M 17 0) + 1))) 0 rfl (Nat.le_of_ble_eq_true rfl) rfl rfl dX1_put_70 rfl ?_
  refine tw_iload X dX1_put_73 0 rfl ?_
  exact ret _ _ _ _ dX1_put_75 ⟨rfl, rfl⟩
set_option maxRecDepth 100000 in
set_option maxHeartbeats 4000000 in
theorem m_X1_walk {G : va_G} {cy : ClassId} {q : Nat → Nat} (M : MT) (t h : Int) (hB : Bd M) (ht : 0 ≤ t ∧ t < 12) (hh : 0 ≤ h ∧ h ≤ 2000000) : Ct G cy yX1_walk cX1_walk 3 none ({ frames := 0, cells := 0, slots := 0, locals := 0 } : Room) 0 0 [.ref (q 0), .int (enc (t)), .int (enc (h))] (wT cy q M) (fun v w1 => v = none ∧ w1 = wT cy q (walkT M t h)) := by
  refine Ct.ofV (by decide) (Nat.le_of_ble_eq_true rfl) rfl rfl ?_
  intro c X ret
  refine Tlv (lv' := [(0, .ref (q 0)), (1, .int (enc (t))), (2, .int (enc (h)))]) rfl ?_
  refine tw_aload_n X dX1_walk_0 0 rfl rfl ?_
  refine gf_X1_15 X (v := .ref (q 2)) 0 rfl rfl dX1_walk_1 ?_
  refine tw_iload_n X dX1_walk_4 1 rfl rfl ?_
  refine tw_iald X (N := 12) (f := (M 8)) 2 rfl (by decide) (by omega) dX1_walk_5 ?_
  refine Tst (st' := [.int (enc (M 8 t))]) rfl ?_
  have b1 := hB 8 t
  refine tw_if_ge (tgt := 10) X (In_of (by omega) (by omega)) dX1_walk_6 (by decide) (fun c6 => ?_) (fun c6 => ?_)
  · skip
    refine tw_aload_n X dX1_walk_10 0 rfl rfl ?_
    refine gf_X1_21 X (v := .ref (q 4)) 0 rfl rfl dX1_walk_11 ?_
    refine tw_iload_n X dX1_walk_14 1 rfl rfl ?_
    refine tw_dup2 X dX1_walk_15 rfl rfl ?_
    refine tw_iald X (N := 12) (f := (M 10)) 4 rfl (by decide) (by omega) dX1_walk_16 ?_
    refine Tst (st' := [.int (enc (M 10 t)), .int (enc (t)), .ref (q 4)]) rfl ?_
    have b2 := hB 10 t
    refine tw_iconst X dX1_walk_17 ?_
    refine tw_isub (z := (M 10 t) - 1) X dX1_walk_18 rfl ?_
    refine tw_iast X (N := 12) (f := (M 10)) (ws' := wT cy q (up M 10 (t) ((M 10 t) - 1))) 4 rfl (by decide) (by omega) dX1_walk_19 rfl ?_
    refine tw_aload_n X dX1_walk_20 0 rfl rfl ?_
    refine gf_X1_21 X (v := .ref (q 4)) 0 rfl rfl dX1_walk_21 ?_
    refine tw_iload_n X dX1_walk_24 1 rfl rfl ?_
    refine tw_iald X (N := 12) (f := (ups (M 10) (t) ((M 10 t) - 1))) 4 rfl (by decide) (by omega) dX1_walk_25 ?_
    refine Tst (st' := [.int (enc ((M 10 t) - 1))]) (by rw [ups_same]) ?_
    refine tw_if_le (tgt := 30) X (In_of (by omega) (by omega)) dX1_walk_26 (by decide) (fun c26 => ?_) (fun c26 => ?_)
    · skip
      refine tw_aload_n X dX1_walk_30 0 rfl rfl ?_
      refine gf_X1_9 X (v := .ref (q 1)) 0 rfl rfl dX1_walk_31 ?_
      refine tw_iload_n X dX1_walk_34 1 rfl rfl ?_
      refine tw_aload_n X dX1_walk_35 0 rfl rfl ?_
      refine gf_X1_18 X (v := .ref (q 3)) 0 rfl rfl dX1_walk_36 ?_
      refine tw_iload_n X dX1_walk_39 1 rfl rfl ?_
      refine tw_iald X (N := 12) (f := (M 9)) 3 rfl (by decide) (by omega) dX1_walk_40 ?_
      refine Tst (st' := [.int (enc (M 9 t)), .int (enc (t)), .ref (q 1)]) rfl ?_
      have b3 := hB 9 t
      refine tw_iast X (N := 12) (f := (M 7)) (ws' := wT cy q (up (up M 10 (t) ((M 10 t) - 1)) 7 (t) (M 9 t))) 1 rfl (by decide) (by omega) dX1_walk_41 rfl ?_
      refine tw_aload_n X dX1_walk_42 0 rfl rfl ?_
      refine gf_X1_15 X (v := .ref (q 2)) 0 rfl rfl dX1_walk_43 ?_
      refine tw_iload_n X dX1_walk_46 1 rfl rfl ?_
      refine tw_iconst X dX1_walk_47 ?_
      refine tw_iast X (N := 12) (f := (M 8)) (ws' := wT cy q (up (up (up M 10 (t) ((M 10 t) - 1)) 7 (t) (M 9 t)) 8 (t) (-1))) 2 rfl (by decide) (by omega) dX1_walk_48 rfl ?_
      refine tw_aload_n X dX1_walk_49 0 rfl rfl ?_
      refine gf_X1_9 X (v := .ref (q 1)) 0 rfl rfl dX1_walk_50 ?_
      refine tw_iload_n X dX1_walk_53 1 rfl rfl ?_
      refine tw_iald X (N := 12) (f := (ups (M 7) (t) (M 9 t))) 1 rfl (by decide) (by omega) dX1_walk_54 ?_
      refine Tst (st' := [.int (enc (M 9 t))]) (by rw [ups_same]) ?_
      have b4 := hB 9 t
      refine tw_aload_n X dX1_walk_55 0 rfl rfl ?_
      refine gf_X1_24 X (v := .ref (q 5)) 0 rfl rfl dX1_walk_56 ?_
      refine tw_iload_n X dX1_walk_59 1 rfl rfl ?_
      refine tw_iald X (N := 12) (f := (M 11)) 5 rfl (by decide) (by omega) dX1_walk_60 ?_
      refine Tst (st' := [.int (enc (M 11 t)), .int (enc (M 9 t))]) rfl ?_
      have b5 := hB 11 t
      refine tw_icmp_ne (tgt := 90) X (In_of (by omega) (by omega)) (In_of (by omega) (by omega)) dX1_walk_61 (by decide) (fun c61 => ?_) (fun c61 => ?_)
      · skip
        exact ret _ _ _ dX1_walk_90 ⟨rfl, by unfold walkT; rw [if_neg (Int.not_lt.mpr c6), if_neg (Int.not_lt.mpr c26)]; first | rw [if_pos c61] | rw [if_neg c61]⟩
      · skip
        refine tw_aload_n X dX1_walk_64 0 rfl rfl ?_
        refine gf_X1_36 X (v := .ref (q 9)) 0 rfl rfl dX1_walk_65 ?_
        refine tw_iload_n X dX1_walk_68 1 rfl rfl ?_
        refine tw_iload_n X dX1_walk_69 2 rfl rfl ?_
        refine tw_iconst X dX1_walk_70 ?_
        refine tw_iadd (z := h + 1) X dX1_walk_71 rfl ?_
        refine tw_aload_n X dX1_walk_72 0 rfl rfl ?_
        refine gf_X1_30 X (v := .ref (q 7)) 0 rfl rfl dX1_walk_73 ?_
        refine tw_iload_n X dX1_walk_76 1 rfl rfl ?_
        refine tw_iald X (N := 12) (f := (M 13)) 7 rfl (by decide) (by omega) dX1_walk_77 ?_
        refine Tst (st' := [.int (enc (M 13 t)), .int (enc (h + 1)), .int (enc (t)), .ref (q 9)]) rfl ?_
        have b6 := hB 13 t
        refine tw_isub (z := (h + 1) - (M 13 t)) X dX1_walk_78 rfl ?_
        refine tw_iast X (N := 12) (f := (M 15)) (ws' := wT cy q (up (up (up (up M 10 (t) ((M 10 t) - 1)) 7 (t) (M 9 t)) 8 (t) (-1)) 15 (t) ((h + 1) - (M 13 t)))) 9 rfl (by decide) (by omega) dX1_walk_79 rfl ?_
        refine tw_aload_n X dX1_walk_80 0 rfl rfl ?_
        refine tw_dup X dX1_walk_81 rfl ?_
        refine gf_X1_49 X (v := .int (enc (M 18 0))) 0 rfl rfl dX1_walk_82 ?_
        have b7 := hB 18 0
        refine tw_iconst X dX1_walk_85 ?_
        refine tw_iadd (z := (M 18 0) + 1) X dX1_walk_86 rfl ?_
        refine pf_X1_49 X (ws' := wT cy q (upc (up (up (up (up M 10 (t) ((M 10 t) - 1)) 7 (t) (M 9 t)) 8 (t) (-1)) 15 (t) ((h + 1) - (M 13 t))) 18 ((M 18 0) + 1))) 0 rfl (Nat.le_of_ble_eq_true rfl) rfl rfl dX1_walk_87 rfl ?_
        exact ret _ _ _ dX1_walk_90 ⟨rfl, by unfold walkT; rw [if_neg (Int.not_lt.mpr c6), if_neg (Int.not_lt.mpr c26)]; first | rw [if_pos c61] | rw [if_neg c61]⟩
    · skip
      exact ret _ _ _ dX1_walk_29 ⟨rfl, by unfold walkT; rw [if_neg (Int.not_lt.mpr c6), if_pos c26]⟩
  · skip
    exact ret _ _ _ dX1_walk_9 ⟨rfl, by unfold walkT; rw [if_pos c6]⟩
set_option maxRecDepth 100000 in
set_option maxHeartbeats 4000000 in
theorem m_X1_countOn {G : va_G} {cy : ClassId} {q : Nat → Nat} (M : MT) (r : Int) (hB : Bd M) (h : 0 ≤ M 17 0 ∧ M 17 0 ≤ 12) (hr : -2000000 ≤ r ∧ r ≤ 2000000) : Ct G cy yX1_countOn cX1_countOn 4 (some .int) ({ frames := 0, cells := 0, slots := 0, locals := 0 } : Room) 0 0 [.ref (q 0), .int (enc (r))] (wT cy q M) (fun v w1 => v = some (.int (enc (onR M r (M 17 0).toNat))) ∧ w1 = wT cy q M) := by
  refine Ct.ofI (by decide) (Nat.le_of_ble_eq_true rfl) rfl rfl (fun _ _ _ => rfl) ?_
  intro c X ret
  refine Tlv (lv' := [(0, .ref (q 0)), (1, .int (enc (r)))]) rfl ?_
  refine tw_iconst X dX1_countOn_0 ?_
  refine tw_istore_n (lv' := [(2, .int (enc (0))), (0, .ref (q 0)), (1, .int (enc (r)))]) X dX1_countOn_1 rfl (by decide) rfl ?_
  refine tw_iconst X dX1_countOn_2 ?_
  refine tw_istore_n (lv' := [(3, .int (enc (0))), (2, .int (enc (0))), (0, .ref (q 0)), (1, .int (enc (r)))]) X dX1_countOn_3 rfl (by decide) rfl ?_
  have L4 : ∀ (fu i : Nat), (i : Int) ≤ M 17 0 → M 17 0 + 1 ≤ (i : Int) + fu → T G c ({ frames := 0, cells := 0, slots := 0, locals := 0 } : Room) 4 0 0 (wT cy q M) 4 [(0, .ref (q 0)), (1, .int (enc (r))), (2, .int (enc (onR M r i))), (3, .int (enc ((i : Int))))] [] := by
    intro fu
    induction fu with
    | zero =>
      intro i  hi0 hi1
      exact absurd hi1 (by omega)
    | succ fu ih4 =>
      intro i  hi0_4 hi1_4 
      refine tw_iload_n X dX1_countOn_4 3 rfl rfl ?_
      refine tw_aload_n X dX1_countOn_5 0 rfl rfl ?_
      refine gf_X1_45 X (v := .int (enc (M 17 0))) 0 rfl rfl dX1_countOn_6 ?_
      have b1 := hB 17 0
      refine tw_icmp_ge (tgt := 31) X (In_of (by omega) (by omega)) (In_of (by omega) (by omega)) dX1_countOn_9 (by decide) (fun c9 => ?_) (fun c9 => ?_)
      · skip
        refine tw_iload_n X dX1_countOn_31 2 rfl rfl ?_
        exact ret _ _ _ _ dX1_countOn_32 ⟨by rw [show (M 17 0).toNat = i by omega], rfl⟩
      · skip
        refine tw_aload_n X dX1_countOn_12 0 rfl rfl ?_
        refine gf_X1_15 X (v := .ref (q 2)) 0 rfl rfl dX1_countOn_13 ?_
        refine tw_iload_n X dX1_countOn_16 3 rfl rfl ?_
        refine tw_iald X (N := 12) (f := (M 8)) 2 rfl (by decide) (by omega) dX1_countOn_17 ?_
        refine Tst (st' := [.int (enc (M 8 (i : Int)))]) rfl ?_
        have b2 := hB 8 (i : Int)
        refine tw_iload_n X dX1_countOn_18 1 rfl rfl ?_
        refine tw_icmp_ne (tgt := 25) X (In_of (by omega) (by omega)) (In_of (by omega) (by omega)) dX1_countOn_19 (by decide) (fun c19 => ?_) (fun c19 => ?_)
        · skip
          refine tw_iinc (q := 3) (x := (i : Int)) (y := (i : Int) + 1) (lv' := [(3, .int (enc ((i : Int) + 1))), (0, .ref (q 0)), (1, .int (enc (r))), (2, .int (enc (onR M r i)))]) X dX1_countOn_25 rfl rfl (by decide) rfl ?_
          refine tw_goto (tgt := 4) X dX1_countOn_28 (by decide) ?_
          refine Tsub (lv' := [(0, .ref (q 0)), (1, .int (enc (r))), (2, .int (enc (onR M r i))), (3, .int (enc ((i : Int) + 1)))]) [1, 2, 3, 0] rfl ?_
          refine Teq (ws' := wT cy q M) (lv' := [(0, .ref (q 0)), (1, .int (enc (r))), (2, .int (enc (onR M r (i + 1)))), (3, .int (enc (((i + 1 : Nat) : Int))))]) (st' := []) (rfl) (lvk (lvk (lvc (by rw [onR_s]; first | rw [if_pos c19] | (rw [if_neg c19]; omega)) (lvc (i_succ i) (rfl))))) rfl (ih4 (i + 1) (by omega) (by omega))
        · skip
          refine tw_iinc (q := 2) (x := onR M r i) (y := onR M r i + 1) (lv' := [(2, .int (enc (onR M r i + 1))), (0, .ref (q 0)), (1, .int (enc (r))), (3, .int (enc ((i : Int))))]) X dX1_countOn_22 rfl rfl (by decide) rfl ?_
          refine tw_iinc (q := 3) (x := (i : Int)) (y := (i : Int) + 1) (lv' := [(3, .int (enc ((i : Int) + 1))), (2, .int (enc (onR M r i + 1))), (0, .ref (q 0)), (1, .int (enc (r)))]) X dX1_countOn_25 rfl rfl (by decide) rfl ?_
          refine tw_goto (tgt := 4) X dX1_countOn_28 (by decide) ?_
          refine Tsub (lv' := [(0, .ref (q 0)), (1, .int (enc (r))), (2, .int (enc (onR M r i + 1))), (3, .int (enc ((i : Int) + 1)))]) [2, 3, 1, 0] rfl ?_
          refine Teq (ws' := wT cy q M) (lv' := [(0, .ref (q 0)), (1, .int (enc (r))), (2, .int (enc (onR M r (i + 1)))), (3, .int (enc (((i + 1 : Nat) : Int))))]) (st' := []) (rfl) (lvk (lvk (lvc (by rw [onR_s]; first | rw [if_pos c19] | (rw [if_neg c19]; omega)) (lvc (i_succ i) (rfl))))) rfl (ih4 (i + 1) (by omega) (by omega))
  refine Tsub (lv' := [(0, .ref (q 0)), (1, .int (enc (r))), (2, .int (enc (0))), (3, .int (enc (0)))]) [2, 3, 1, 0] rfl ?_
  refine Teq (ws' := wT cy q M) (lv' := [(0, .ref (q 0)), (1, .int (enc (r))), (2, .int (enc (onR M r 0))), (3, .int (enc (((0 : Nat) : Int))))]) (st' := []) (rfl) (rfl) rfl (L4 (M 17 0 + 1).toNat 0 (by omega) (by omega))
set_option maxRecDepth 100000 in
set_option maxHeartbeats 4000000 in
theorem m_X1_frayAt {G : va_G} {cy : ClassId} {q : Nat → Nat} (M : MT) (t h : Int) (hB : Bd M) (ht : 0 ≤ t ∧ t < 12) (hh : 0 ≤ h ∧ h ≤ 2000000) : Ct G cy yX1_frayAt cX1_frayAt 4 (some .int) ({ frames := 1, cells := 0, slots := 0, locals := 21 } : Room) 0 0 [.ref (q 0), .int (enc (t)), .int (enc (h))] (wT cy q M) (fun v w1 => v = some (.int (enc (frayAt M t h))) ∧ w1 = wT cy q M) := by
  refine Ct.ofI (by decide) (Nat.le_of_ble_eq_true rfl) rfl rfl (fun _ _ _ => rfl) ?_
  intro c X ret
  refine Tlv (lv' := [(0, .ref (q 0)), (1, .int (enc (t))), (2, .int (enc (h)))]) rfl ?_
  refine tw_aload_n X dX1_frayAt_0 0 rfl rfl ?_
  refine tw_iload_n X dX1_frayAt_1 1 rfl rfl ?_
  refine tw_callV X (As := [.int (enc (t))]) (st := []) vw_X1_52 (m_X1_isIn (q := q) M (t) hB (by omega)) ([]) ([]) rfl rfl (q0 := 0) rfl rfl rfl ⟨rfl, rfl, Nat.le_of_ble_eq_true rfl, Nat.le_of_ble_eq_true rfl⟩ ⟨Nat.le_of_ble_eq_true rfl, Nat.le_of_ble_eq_true rfl⟩ (Nat.le_of_ble_eq_true rfl) dX1_frayAt_2 (fun v w1 hp => ?_)
  obtain ⟨rfl, rfl⟩ := hp
  refine Teq (ws' := wT cy q M) (lv' := [(0, .ref (q 0)), (1, .int (enc (t))), (2, .int (enc (h)))]) (st' := [.int (enc (if 0 ≤ M 15 t then 1 else 0))]) rfl rfl rfl ?_
  refine tw_if_eq (tgt := 17) X In_b dX1_frayAt_5 (by decide) (fun c5 => ?_) (fun c5 => ?_)
  · skip
    have c5 := b01.mp c5
    refine tw_iload_n X dX1_frayAt_17 2 rfl rfl ?_
    refine tw_aload_n X dX1_frayAt_18 0 rfl rfl ?_
    refine gf_X1_30 X (v := .ref (q 7)) 0 rfl rfl dX1_frayAt_19 ?_
    refine tw_iload_n X dX1_frayAt_22 1 rfl rfl ?_
    refine tw_iald X (N := 12) (f := (M 13)) 7 rfl (by decide) (by omega) dX1_frayAt_23 ?_
    refine Tst (st' := [.int (enc (M 13 t)), .int (enc (h))]) rfl ?_
    have b1 := hB 13 t
    refine tw_isub (z := h - (M 13 t)) X dX1_frayAt_24 rfl ?_
    refine tw_istore_n (lv' := [(3, .int (enc (h - (M 13 t)))), (0, .ref (q 0)), (1, .int (enc (t))), (2, .int (enc (h)))]) X dX1_frayAt_25 rfl (by decide) rfl ?_
    refine tw_iconst X dX1_frayAt_26 ?_
    refine tw_iload_n X dX1_frayAt_27 0 rfl rfl ?_
    refine tw_aload_n X dX1_frayAt_28 1 rfl rfl ?_
    refine gf_X1_33 X (v := .ref (q 8)) 0 rfl rfl dX1_frayAt_29 ?_
    refine tw_iload_n X dX1_frayAt_32 2 rfl rfl ?_
    refine tw_iald X (N := 12) (f := (M 14)) 8 rfl (by decide) (by omega) dX1_frayAt_33 ?_
    refine Tst (st' := [.int (enc (M 14 t)), .int (enc (h - (M 13 t))), .int (enc (0))]) rfl ?_
    have b2 := hB 14 t
    refine tw_isub (z := (h - (M 13 t)) - (M 14 t)) X dX1_frayAt_34 rfl ?_
    refine tw_max (z := if 0 < (h - (M 13 t)) - (M 14 t) then (h - (M 13 t)) - (M 14 t) else 0) X (In_of (by omega) (by omega)) (In_of (by omega) (by omega)) wl_X1_56 wm_max_s wm_i wm_max_c (Nat.le_of_ble_eq_true rfl) (Nat.le_of_ble_eq_true rfl) ⟨Nat.le_of_ble_eq_true rfl, Nat.le_of_ble_eq_true rfl⟩ dX1_frayAt_35 rfl ?_
    exact ret _ _ _ _ dX1_frayAt_38 ⟨by unfold frayAt mx0; first | rw [if_pos c5] | rw [if_neg c5], rfl⟩
  · skip
    have c5 := b01n.mp c5
    refine tw_aload_n X dX1_frayAt_8 0 rfl rfl ?_
    refine gf_X1_36 X (v := .ref (q 9)) 0 rfl rfl dX1_frayAt_9 ?_
    refine tw_iload_n X dX1_frayAt_12 1 rfl rfl ?_
    refine tw_iald X (N := 12) (f := (M 15)) 9 rfl (by decide) (by omega) dX1_frayAt_13 ?_
    refine Tst (st' := [.int (enc (M 15 t))]) rfl ?_
    have b3 := hB 15 t
    refine tw_goto (tgt := 25) X dX1_frayAt_14 (by decide) ?_
    refine tw_istore_n (lv' := [(3, .int (enc (M 15 t))), (0, .ref (q 0)), (1, .int (enc (t))), (2, .int (enc (h)))]) X dX1_frayAt_25 rfl (by decide) rfl ?_
    refine tw_iconst X dX1_frayAt_26 ?_
    refine tw_iload_n X dX1_frayAt_27 0 rfl rfl ?_
    refine tw_aload_n X dX1_frayAt_28 1 rfl rfl ?_
    refine gf_X1_33 X (v := .ref (q 8)) 0 rfl rfl dX1_frayAt_29 ?_
    refine tw_iload_n X dX1_frayAt_32 2 rfl rfl ?_
    refine tw_iald X (N := 12) (f := (M 14)) 8 rfl (by decide) (by omega) dX1_frayAt_33 ?_
    refine Tst (st' := [.int (enc (M 14 t)), .int (enc (M 15 t)), .int (enc (0))]) rfl ?_
    have b4 := hB 14 t
    refine tw_isub (z := (M 15 t) - (M 14 t)) X dX1_frayAt_34 rfl ?_
    refine tw_max (z := if 0 < (M 15 t) - (M 14 t) then (M 15 t) - (M 14 t) else 0) X (In_of (by omega) (by omega)) (In_of (by omega) (by omega)) wl_X1_56 wm_max_s wm_i wm_max_c (Nat.le_of_ble_eq_true rfl) (Nat.le_of_ble_eq_true rfl) ⟨Nat.le_of_ble_eq_true rfl, Nat.le_of_ble_eq_true rfl⟩ dX1_frayAt_35 rfl ?_
    exact ret _ _ _ _ dX1_frayAt_38 ⟨by unfold frayAt mx0; first | rw [if_pos c5] | rw [if_neg c5], rfl⟩
-- none: X1 frayOfAll
set_option maxRecDepth 100000 in
set_option maxHeartbeats 4000000 in
theorem m_X1_frayOfThoseIn {G : va_G} {cy : ClassId} {q : Nat → Nat} (M : MT) (hB : Bd M) (h : 0 ≤ M 17 0 ∧ M 17 0 ≤ 12) : Ct G cy yX1_frayOfThoseIn cX1_frayOfThoseIn 3 (some .int) ({ frames := 1, cells := 0, slots := 0, locals := 21 } : Room) 0 0 [.ref (q 0)] (wT cy q M) (fun v w1 => v = some (.int (enc (frI M (M 17 0).toNat))) ∧ w1 = wT cy q M) := by
  refine Ct.ofI (by decide) (Nat.le_of_ble_eq_true rfl) rfl rfl (fun _ _ _ => rfl) ?_
  intro c X ret
  refine Tlv (lv' := [(0, .ref (q 0))]) rfl ?_
  refine tw_iconst X dX1_frayOfThoseIn_0 ?_
  refine tw_istore_n (lv' := [(1, .int (enc (0))), (0, .ref (q 0))]) X dX1_frayOfThoseIn_1 rfl (by decide) rfl ?_
  refine tw_iconst X dX1_frayOfThoseIn_2 ?_
  refine tw_istore_n (lv' := [(2, .int (enc (0))), (1, .int (enc (0))), (0, .ref (q 0))]) X dX1_frayOfThoseIn_3 rfl (by decide) rfl ?_
  have L4 : ∀ (fu i : Nat), (i : Int) ≤ M 17 0 → M 17 0 + 1 ≤ (i : Int) + fu → T G c ({ frames := 1, cells := 0, slots := 0, locals := 21 } : Room) 3 0 0 (wT cy q M) 4 [(0, .ref (q 0)), (1, .int (enc (frI M i))), (2, .int (enc ((i : Int))))] [] := by
    intro fu
    induction fu with
    | zero =>
      intro i  hi0 hi1
      exact absurd hi1 (by omega)
    | succ fu ih4 =>
      intro i  hi0_4 hi1_4 
      refine tw_iload_n X dX1_frayOfThoseIn_4 2 rfl rfl ?_
      refine tw_aload_n X dX1_frayOfThoseIn_5 0 rfl rfl ?_
      refine gf_X1_45 X (v := .int (enc (M 17 0))) 0 rfl rfl dX1_frayOfThoseIn_6 ?_
      have b1 := hB 17 0
      refine tw_icmp_ge (tgt := 46) X (In_of (by omega) (by omega)) (In_of (by omega) (by omega)) dX1_frayOfThoseIn_9 (by decide) (fun c9 => ?_) (fun c9 => ?_)
      · skip
        refine tw_iload_n X dX1_frayOfThoseIn_46 1 rfl rfl ?_
        exact ret _ _ _ _ dX1_frayOfThoseIn_47 ⟨by rw [show (M 17 0).toNat = i by omega], rfl⟩
      · skip
        refine tw_aload_n X dX1_frayOfThoseIn_12 0 rfl rfl ?_
        refine tw_iload_n X dX1_frayOfThoseIn_13 2 rfl rfl ?_
        refine tw_callV X (As := [.int (enc ((i : Int)))]) (st := []) vw_X1_52 (m_X1_isIn (q := q) M ((i : Int)) hB (by omega)) ([]) ([]) rfl rfl (q0 := 0) rfl rfl rfl ⟨rfl, rfl, Nat.le_of_ble_eq_true rfl, Nat.le_of_ble_eq_true rfl⟩ ⟨Nat.le_of_ble_eq_true rfl, Nat.le_of_ble_eq_true rfl⟩ (Nat.le_of_ble_eq_true rfl) dX1_frayOfThoseIn_14 (fun v w1 hp => ?_)
        obtain ⟨rfl, rfl⟩ := hp
        refine Teq (ws' := wT cy q M) (lv' := [(0, .ref (q 0)), (1, .int (enc (frI M i))), (2, .int (enc ((i : Int))))]) (st' := [.int (enc (if 0 ≤ M 15 (i : Int) then 1 else 0))]) rfl rfl rfl ?_
        refine tw_if_eq (tgt := 40) X In_b dX1_frayOfThoseIn_17 (by decide) (fun c17 => ?_) (fun c17 => ?_)
        · skip
          have c17 := b01.mp c17
          refine tw_iinc (q := 2) (x := (i : Int)) (y := (i : Int) + 1) (lv' := [(2, .int (enc ((i : Int) + 1))), (0, .ref (q 0)), (1, .int (enc (frI M i)))]) X dX1_frayOfThoseIn_40 rfl rfl (by decide) rfl ?_
          refine tw_goto (tgt := 4) X dX1_frayOfThoseIn_43 (by decide) ?_
          refine Tsub (lv' := [(0, .ref (q 0)), (1, .int (enc (frI M i))), (2, .int (enc ((i : Int) + 1)))]) [1, 2, 0] rfl ?_
          refine Teq (ws' := wT cy q M) (lv' := [(0, .ref (q 0)), (1, .int (enc (frI M (i + 1)))), (2, .int (enc (((i + 1 : Nat) : Int))))]) (st' := []) (rfl) (lvk (lvc (by rw [frI_s]; first | (rw [if_pos c17]; rfl) | (rw [if_neg c17]; omega)) (lvc (i_succ i) (rfl)))) rfl (ih4 (i + 1) (by omega) (by omega))
        · skip
          have c17 := b01n.mp c17
          refine tw_iload_n X dX1_frayOfThoseIn_20 1 rfl rfl ?_
          refine tw_iconst X dX1_frayOfThoseIn_21 ?_
          refine tw_aload_n X dX1_frayOfThoseIn_22 0 rfl rfl ?_
          refine gf_X1_36 X (v := .ref (q 9)) 0 rfl rfl dX1_frayOfThoseIn_23 ?_
          refine tw_iload_n X dX1_frayOfThoseIn_26 2 rfl rfl ?_
          refine tw_iald X (N := 12) (f := (M 15)) 9 rfl (by decide) (by omega) dX1_frayOfThoseIn_27 ?_
          refine Tst (st' := [.int (enc (M 15 (i : Int))), .int (enc (0)), .int (enc (frI M i))]) rfl ?_
          have b2 := hB 15 (i : Int)
          refine tw_aload_n X dX1_frayOfThoseIn_28 0 rfl rfl ?_
          refine gf_X1_33 X (v := .ref (q 8)) 0 rfl rfl dX1_frayOfThoseIn_29 ?_
          refine tw_iload_n X dX1_frayOfThoseIn_32 2 rfl rfl ?_
          refine tw_iald X (N := 12) (f := (M 14)) 8 rfl (by decide) (by omega) dX1_frayOfThoseIn_33 ?_
          refine Tst (st' := [.int (enc (M 14 (i : Int))), .int (enc (M 15 (i : Int))), .int (enc (0)), .int (enc (frI M i))]) rfl ?_
          have b3 := hB 14 (i : Int)
          refine tw_isub (z := (M 15 (i : Int)) - (M 14 (i : Int))) X dX1_frayOfThoseIn_34 rfl ?_
          refine tw_max (z := if 0 < (M 15 (i : Int)) - (M 14 (i : Int)) then (M 15 (i : Int)) - (M 14 (i : Int)) else 0) X (In_of (by omega) (by omega)) (In_of (by omega) (by omega)) wl_X1_56 wm_max_s wm_i wm_max_c (Nat.le_of_ble_eq_true rfl) (Nat.le_of_ble_eq_true rfl) ⟨Nat.le_of_ble_eq_true rfl, Nat.le_of_ble_eq_true rfl⟩ dX1_frayOfThoseIn_35 rfl ?_
          refine tw_iadd (z := (frI M i) + (if 0 < (M 15 (i : Int)) - (M 14 (i : Int)) then (M 15 (i : Int)) - (M 14 (i : Int)) else 0)) X dX1_frayOfThoseIn_38 rfl ?_
          refine tw_istore_n (lv' := [(1, .int (enc ((frI M i) + (if 0 < (M 15 (i : Int)) - (M 14 (i : Int)) then (M 15 (i : Int)) - (M 14 (i : Int)) else 0)))), (0, .ref (q 0)), (2, .int (enc ((i : Int))))]) X dX1_frayOfThoseIn_39 rfl (by decide) rfl ?_
          refine tw_iinc (q := 2) (x := (i : Int)) (y := (i : Int) + 1) (lv' := [(2, .int (enc ((i : Int) + 1))), (1, .int (enc ((frI M i) + (if 0 < (M 15 (i : Int)) - (M 14 (i : Int)) then (M 15 (i : Int)) - (M 14 (i : Int)) else 0)))), (0, .ref (q 0))]) X dX1_frayOfThoseIn_40 rfl rfl (by decide) rfl ?_
          refine tw_goto (tgt := 4) X dX1_frayOfThoseIn_43 (by decide) ?_
          refine Tsub (lv' := [(0, .ref (q 0)), (1, .int (enc ((frI M i) + (if 0 < (M 15 (i : Int)) - (M 14 (i : Int)) then (M 15 (i : Int)) - (M 14 (i : Int)) else 0)))), (2, .int (enc ((i : Int) + 1)))]) [2, 1, 0] rfl ?_
          refine Teq (ws' := wT cy q M) (lv' := [(0, .ref (q 0)), (1, .int (enc (frI M (i + 1)))), (2, .int (enc (((i + 1 : Nat) : Int))))]) (st' := []) (rfl) (lvk (lvc (by rw [frI_s]; first | (rw [if_pos c17]; rfl) | (rw [if_neg c17]; omega)) (lvc (i_succ i) (rfl)))) rfl (ih4 (i + 1) (by omega) (by omega))
  refine Tsub (lv' := [(0, .ref (q 0)), (1, .int (enc (0))), (2, .int (enc (0)))]) [2, 1, 0] rfl ?_
  refine Teq (ws' := wT cy q M) (lv' := [(0, .ref (q 0)), (1, .int (enc (frI M 0))), (2, .int (enc (((0 : Nat) : Int))))]) (st' := []) (rfl) (rfl) rfl (L4 (M 17 0 + 1).toNat 0 (by omega) (by omega))
-- none: X1 copyFrom
