/-! THE SIM'S METHODS -/
set_option maxRecDepth 100000 in
theorem m_X5_length {G : va_G} {cy : ClassId} (a : Nat) (f : Int → Int) : Ct G cy yX5_length cX5_length 1 (some .int) ({ frames := 0, cells := 0, slots := 0, locals := 0 } : Room) 0 0 [.ref a] [(a, arI cy 7 f)] (fun v w1 => v = some (.int (enc (f 2 + f 6))) ∧ w1 = [(a, arI cy 7 f)]) := by
  refine Ct.ofI (by decide) (Nat.le_of_ble_eq_true rfl) rfl rfl (fun _ _ _ => rfl) ?_
  intro c X ret
  refine Tlv (lv' := [(0, .ref a)]) rfl ?_
  refine tw_aload_n X dX5_length_0 0 rfl rfl ?_
  refine tw_iconst X dX5_length_1 ?_
  refine tw_iald X (N := 7) (f := f) 0 rfl (by decide) (by decide) dX5_length_2 ?_
  refine tw_aload_n X dX5_length_3 0 rfl rfl ?_
  refine tw_bipush X dX5_length_4 (by decide) ?_
  refine tw_iald X (N := 7) (f := f) 0 rfl (by decide) (by decide) dX5_length_6 ?_
  refine tw_iadd (z := f 2 + f 6) X dX5_length_7 rfl ?_
  exact ret _ _ _ _ dX5_length_8 ⟨rfl, rfl⟩
theorem sr_length {G : va_G} {cy : ClassId} {c : Cx} {cc : ByteArray} {own : String} {nL : Nat} {R : Room} {k n : Nat} {ws : va_W} {pc : Nat} {lv : List (Nat × Value)} {st : List Value} {q rr tt : Nat → Nat} {M : MT} {g : Int → Int} (X : Ok G cy c cc own nL R) {idx : Nat} (hV : SW own idx yX5_length cX5_length 1 (some .int) 1) (Y : va_W) (hws : ws = Y ++ wS G cy q rr tt M g) {r : Int} (hr : 0 ≤ r ∧ r < M 16 0)
    (hf : 1 ≤ R.frames) (hlo : 20 ≤ R.locals) (hk : k ≤ R.cells ∧ n ≤ R.slots) (hcat : (st.map fun v => v.category).sum ≤ 8) (d : decode cc pc = .ok (.invokestatic idx, 3)) (kk : T G c R nL k n ws (pc + 3) lv (.int (enc (len M r)) :: st)) : T G c R nL k n ws pc lv (.ref (rr r.toNat) :: st) :=
  tw_one X hV (i := Y.length + (3 + r.toNat)) (e := (rr r.toNat, arI cy 7 (rowR M r))) (by rw [hws]; exact seg_l (wS_R G cy q rr tt M g hr)) (m_X5_length _ _) (As := [.ref (rr r.toNat)]) rfl rfl ⟨rfl, rfl, hf, hlo⟩ hk hcat d kk
theorem mixD_own {a b : Int} (h : b = 0 ∨ a = b) : mixD a b = a := by
  unfold mixD
  by_cases z : a = 0 ∨ a = b
  · rw [if_pos z]; omega
  · rw [if_neg z, if_pos (by omega)]
theorem arrT_ok {M : MT} {B t : Int} (hF : WF M B) (ht : 0 ≤ t ∧ t < M 17 0) : ((M 15 t < 0 ∧ arrT M t = -1) ∨ (0 ≤ M 15 t ∧ arrT M t = M 13 t + M 15 t ∧ 0 ≤ arrT M t)) ∧ -B ≤ M 13 t ∧ M 13 t ≤ B ∧ -B ≤ M 15 t ∧ M 15 t ≤ B := by
  have hTI := hF.2.2.2.2.2.2.2.2.2.1 t ht.1 ht.2
  unfold TI at hTI
  have b13 := hF.1 13 t
  have b15 := hF.1 15 t
  refine ⟨?_, b13.1, b13.2, b15.1, b15.2⟩
  unfold arrT
  by_cases h : M 15 t < 0
  · rw [if_pos h]; exact Or.inl ⟨h, rfl⟩
  · rw [if_neg h]; exact Or.inr ⟨by omega, rfl, by omega⟩
set_option maxRecDepth 100000 in
set_option maxHeartbeats 4000000 in
theorem m_X5_mixed {G : va_G} {cy : ClassId} (a b : Int) (ha : 0 ≤ a ∧ a ≤ 3) (hb : 0 ≤ b ∧ b ≤ 3) : Ct G cy yX5_mixed cX5_mixed 3 (some .int) ({ frames := 0, cells := 0, slots := 0, locals := 0 } : Room) 0 0 [.int (enc (a)), .int (enc (b))] ([]) (fun v w1 => v = some (.int (enc (mixD a b))) ∧ w1 = []) := by
  refine Ct.ofI (by decide) (Nat.le_of_ble_eq_true rfl) rfl rfl (fun _ _ _ => rfl) ?_
  intro c X ret
  refine Tlv (lv' := [(0, .int (enc (a))), (1, .int (enc (b)))]) rfl ?_
  refine tw_iload_n X dX5_mixed_0 0 rfl rfl ?_
  refine tw_if_ne (tgt := 6) X (In_of (by omega) (by omega)) dX5_mixed_1 (by decide) (fun c1 => ?_) (fun c1 => ?_)
  · skip
    refine tw_iload_n X dX5_mixed_6 1 rfl rfl ?_
    refine tw_if_eq (tgt := 15) X (In_of (by omega) (by omega)) dX5_mixed_7 (by decide) (fun c7 => ?_) (fun c7 => ?_)
    · skip
      refine tw_iload_n X dX5_mixed_15 0 rfl rfl ?_
      exact ret _ _ _ _ dX5_mixed_16 ⟨by rw [mixD_own (by omega)], rfl⟩
    · skip
      refine tw_iload_n X dX5_mixed_10 0 rfl rfl ?_
      refine tw_iload_n X dX5_mixed_11 1 rfl rfl ?_
      refine tw_icmp_ne (tgt := 17) X (In_of (by omega) (by omega)) (In_of (by omega) (by omega)) dX5_mixed_12 (by decide) (fun c12 => ?_) (fun c12 => ?_)
      · skip
        refine tw_iconst X dX5_mixed_17 ?_
        refine tw_istore_n (lv' := [(2, .int (enc (1))), (0, .int (enc (a))), (1, .int (enc (b)))]) X dX5_mixed_18 rfl (by decide) rfl ?_
        have L19 : ∀ (fu i : Nat), (i : Int) ≤ (4 : Int) → (4 : Int) + 1 ≤ (i : Int) + fu → ((1 < (i : Int) → 1 = a ∨ 1 = b) ∧ (2 < (i : Int) → 2 = a ∨ 2 = b) ∧ (3 < (i : Int) → 3 = a ∨ 3 = b)) ∧ 1 ≤ (i : Int) → T G c ({ frames := 0, cells := 0, slots := 0, locals := 0 } : Room) 3 0 0 ([]) 19 [(0, .int (enc (a))), (1, .int (enc (b))), (2, .int (enc ((i : Int))))] [] := by
          intro fu
          induction fu with
          | zero =>
            intro i  hi0 hi1
            exact absurd hi1 (by omega)
          | succ fu ih19 =>
            intro i  hi0_19 hi1_19 hI
            refine tw_iload_n X dX5_mixed_19 2 rfl rfl ?_
            refine tw_iconst X dX5_mixed_20 ?_
            refine tw_icmp_ge (tgt := 42) X (In_of (by omega) (by omega)) (In_of (by omega) (by omega)) dX5_mixed_21 (by decide) (fun c21 => ?_) (fun c21 => ?_)
            · skip
              exact (show False by omega).elim
            · skip
              refine tw_iload_n X dX5_mixed_24 2 rfl rfl ?_
              refine tw_iload_n X dX5_mixed_25 0 rfl rfl ?_
              refine tw_icmp_eq (tgt := 36) X (In_of (by omega) (by omega)) (In_of (by omega) (by omega)) dX5_mixed_26 (by decide) (fun c26 => ?_) (fun c26 => ?_)
              · skip
                refine tw_iinc (q := 2) (x := (i : Int)) (y := (i : Int) + 1) (lv' := [(2, .int (enc ((i : Int) + 1))), (0, .int (enc (a))), (1, .int (enc (b)))]) X dX5_mixed_36 rfl rfl (by decide) rfl ?_
                refine tw_goto (tgt := 19) X dX5_mixed_39 (by decide) ?_
                refine Tsub (lv' := [(0, .int (enc (a))), (1, .int (enc (b))), (2, .int (enc ((i : Int) + 1)))]) [1, 2, 0] rfl ?_
                refine Teq (ws' := []) (lv' := [(0, .int (enc (a))), (1, .int (enc (b))), (2, .int (enc (((i + 1 : Nat) : Int))))]) (st' := []) (rfl) (lvk (lvk (lvc (i_succ i) (rfl)))) rfl (ih19 (i + 1) (by omega) (by omega) ((by omega)))
              · skip
                refine tw_iload_n X dX5_mixed_29 2 rfl rfl ?_
                refine tw_iload_n X dX5_mixed_30 1 rfl rfl ?_
                refine tw_icmp_eq (tgt := 36) X (In_of (by omega) (by omega)) (In_of (by omega) (by omega)) dX5_mixed_31 (by decide) (fun c31 => ?_) (fun c31 => ?_)
                · skip
                  refine tw_iinc (q := 2) (x := (i : Int)) (y := (i : Int) + 1) (lv' := [(2, .int (enc ((i : Int) + 1))), (0, .int (enc (a))), (1, .int (enc (b)))]) X dX5_mixed_36 rfl rfl (by decide) rfl ?_
                  refine tw_goto (tgt := 19) X dX5_mixed_39 (by decide) ?_
                  refine Tsub (lv' := [(0, .int (enc (a))), (1, .int (enc (b))), (2, .int (enc ((i : Int) + 1)))]) [1, 2, 0] rfl ?_
                  refine Teq (ws' := []) (lv' := [(0, .int (enc (a))), (1, .int (enc (b))), (2, .int (enc (((i + 1 : Nat) : Int))))]) (st' := []) (rfl) (lvk (lvk (lvc (i_succ i) (rfl)))) rfl (ih19 (i + 1) (by omega) (by omega) ((by omega)))
                · skip
                  refine tw_iload_n X dX5_mixed_34 2 rfl rfl ?_
                  exact ret _ _ _ _ dX5_mixed_35 ⟨by unfold mixD; rw [if_neg (by omega), if_neg (by omega), show (i : Int) = 6 - a - b by omega], rfl⟩
        refine Tsub (lv' := [(0, .int (enc (a))), (1, .int (enc (b))), (2, .int (enc (1)))]) [1, 2, 0] rfl ?_
        refine Teq (ws' := []) (lv' := [(0, .int (enc (a))), (1, .int (enc (b))), (2, .int (enc (((1 : Nat) : Int))))]) (st' := []) (rfl) (rfl) rfl (L19 ((4 : Int) + 1).toNat 1 (by omega) (by omega) ((by omega)))
      · skip
        refine tw_iload_n X dX5_mixed_15 0 rfl rfl ?_
        exact ret _ _ _ _ dX5_mixed_16 ⟨by rw [mixD_own (by omega)], rfl⟩
  · skip
    refine tw_iload_n X dX5_mixed_4 1 rfl rfl ?_
    exact ret _ _ _ _ dX5_mixed_5 ⟨by unfold mixD; rw [if_pos (Or.inl c1)], rfl⟩
set_option maxRecDepth 100000 in
set_option maxHeartbeats 4000000 in
theorem m_X5_on {G : va_G} {cy : ClassId} {q rr tt : Nat → Nat} (M : MT) (g : Int → Int) (B : Int) (hF : WF M B) (hB2 : B ≤ 900000) (r : Int) (hr : -1 ≤ r ∧ r ≤ 20) : Ct G cy yX5_on cX5_on 7 (some .int) ({ frames := 0, cells := 0, slots := 0, locals := 0 } : Room) 0 0 [.ref (q 0), .int (enc (r))] (wS G cy q rr tt M g) (fun v w1 => v = some (.int (enc (onR M r (M 17 0).toNat))) ∧ w1 = wS G cy q rr tt M g) := by
  refine Ct.ofI (by decide) (Nat.le_of_ble_eq_true rfl) rfl rfl (fun _ _ _ => rfl) ?_
  intro c X ret
  have hB := hF.bd (by omega)
  obtain ⟨w0, w1, w2, w3, w4⟩ := hF.r
  have h17 := hF.2.2.2.2.2.1
  have h172 := hF.2.2.2.2.2.2.1
  have h20 := hF.2.2.2.2.2.2.2.1
  refine Tlv (lv' := [(0, .ref (q 0)), (1, .int (enc (r)))]) rfl ?_
  refine tw_iconst X dX5_on_0 ?_
  refine tw_istore_n (lv' := [(2, .int (enc (0))), (0, .ref (q 0)), (1, .int (enc (r)))]) X dX5_on_1 rfl (by decide) rfl ?_
  refine tw_aload_n X dX5_on_2 1 rfl rfl ?_
  refine gf_X5_15 X (v := .ref (q 2)) 0 rfl rfl dX5_on_3 ?_
  refine tw_astore_n (lv' := [(3, .ref (q 2)), (2, .int (enc (0))), (0, .ref (q 0)), (1, .int (enc (r)))]) X dX5_on_6 rfl (by decide) rfl ?_
  refine tw_aload_n X dX5_on_7 0 rfl rfl ?_
  refine sr_lenT X (g := g) ([]) rfl (by omega) dX5_on_8 ?_
  refine tw_istore (lv' := [(4, .int (enc (M 17 0))), (3, .ref (q 2)), (2, .int (enc (0))), (0, .ref (q 0)), (1, .int (enc (r)))]) X dX5_on_9 (by decide) rfl ?_
  refine tw_iconst X dX5_on_11 ?_
  refine tw_istore (lv' := [(5, .int (enc (0))), (4, .int (enc (M 17 0))), (3, .ref (q 2)), (2, .int (enc (0))), (0, .ref (q 0)), (1, .int (enc (r)))]) X dX5_on_12 (by decide) rfl ?_
  have L14 : ∀ (fu i : Nat), (i : Int) ≤ M 17 0 → M 17 0 + 1 ≤ (i : Int) + fu → T G c ({ frames := 0, cells := 0, slots := 0, locals := 0 } : Room) 7 0 0 (wS G cy q rr tt M g) 14 [(0, .ref (q 0)), (1, .int (enc (r))), (2, .int (enc (onR M r i))), (3, .ref (q 2)), (4, .int (enc (M 17 0))), (5, .int (enc ((i : Int))))] [] := by
    intro fu
    induction fu with
    | zero =>
      intro i  hi0 hi1
      exact absurd hi1 (by omega)
    | succ fu ih14 =>
      intro i  hi0_14 hi1_14 
      refine tw_iload X dX5_on_14 5 rfl ?_
      refine tw_iload X dX5_on_16 4 rfl ?_
      refine tw_icmp_ge (tgt := 44) X (In_of (by omega) (by omega)) (In_of (by omega) (by omega)) dX5_on_18 (by decide) (fun c18 => ?_) (fun c18 => ?_)
      · skip
        refine tw_iload_n X dX5_on_44 2 rfl rfl ?_
        exact ret _ _ _ _ dX5_on_45 ⟨by rw [show (M 17 0).toNat = i by omega], rfl⟩
      · skip
        refine tw_aload_n X dX5_on_21 3 rfl rfl ?_
        refine tw_iload X dX5_on_22 5 rfl ?_
        refine sr_aaT X (g := g) (M := M) (t := (i : Int)) ([]) rfl (by omega) (by omega) dX5_on_24 ?_
        refine tw_astore (lv' := [(6, .ref (tt ((i : Int)).toNat)), (0, .ref (q 0)), (1, .int (enc (r))), (2, .int (enc (onR M r i))), (3, .ref (q 2)), (4, .int (enc (M 17 0))), (5, .int (enc ((i : Int))))]) X dX5_on_25 (by decide) rfl ?_
        refine tw_aload X dX5_on_27 0 rfl ?_
        refine tw_iconst X dX5_on_29 ?_
        refine sr_ldT X (g := g) (M := M) (t := (i : Int)) (v := M 8 (i : Int)) ([]) rfl (by omega) (by decide) rfl dX5_on_30 ?_
        have b1 := hB 8 (i : Int)
        refine tw_iload_n X dX5_on_31 2 rfl rfl ?_
        refine tw_icmp_ne (tgt := 38) X (In_of (by omega) (by omega)) (In_of (by omega) (by omega)) dX5_on_32 (by decide) (fun c32 => ?_) (fun c32 => ?_)
        · skip
          refine tw_iinc (q := 6) (x := (i : Int)) (y := (i : Int) + 1) (lv' := [(5, .int (enc ((i : Int) + 1))), (6, .ref (tt ((i : Int)).toNat)), (0, .ref (q 0)), (1, .int (enc (r))), (2, .int (enc (onR M r i))), (3, .ref (q 2)), (4, .int (enc (M 17 0)))]) X dX5_on_38 rfl rfl (by decide) rfl ?_
          refine tw_goto (tgt := 14) X dX5_on_41 (by decide) ?_
          refine Tsub (lv' := [(0, .ref (q 0)), (1, .int (enc (r))), (2, .int (enc (onR M r i))), (3, .ref (q 2)), (4, .int (enc (M 17 0))), (5, .int (enc ((i : Int) + 1)))]) [2, 3, 4, 5, 6, 0] rfl ?_
          refine Teq (ws' := wS G cy q rr tt M g) (lv' := [(0, .ref (q 0)), (1, .int (enc (r))), (2, .int (enc (onR M r (i + 1)))), (3, .ref (q 2)), (4, .int (enc (M 17 0))), (5, .int (enc (((i + 1 : Nat) : Int))))]) (st' := []) (rfl) (lvk (lvk (lvc (by rw [onR_s]; first | rw [if_pos c32] | (rw [if_neg c32]; omega)) (lvk (lvk (lvc (i_succ i) (rfl))))))) rfl (ih14 (i + 1) (by omega) (by omega))
        · skip
          refine tw_iinc (q := 3) (x := onR M r i) (y := onR M r i + 1) (lv' := [(2, .int (enc (onR M r i + 1))), (6, .ref (tt ((i : Int)).toNat)), (0, .ref (q 0)), (1, .int (enc (r))), (3, .ref (q 2)), (4, .int (enc (M 17 0))), (5, .int (enc ((i : Int))))]) X dX5_on_35 rfl rfl (by decide) rfl ?_
          refine tw_iinc (q := 6) (x := (i : Int)) (y := (i : Int) + 1) (lv' := [(5, .int (enc ((i : Int) + 1))), (2, .int (enc (onR M r i + 1))), (6, .ref (tt ((i : Int)).toNat)), (0, .ref (q 0)), (1, .int (enc (r))), (3, .ref (q 2)), (4, .int (enc (M 17 0)))]) X dX5_on_38 rfl rfl (by decide) rfl ?_
          refine tw_goto (tgt := 14) X dX5_on_41 (by decide) ?_
          refine Tsub (lv' := [(0, .ref (q 0)), (1, .int (enc (r))), (2, .int (enc (onR M r i + 1))), (3, .ref (q 2)), (4, .int (enc (M 17 0))), (5, .int (enc ((i : Int) + 1)))]) [3, 4, 1, 5, 6, 0] rfl ?_
          refine Teq (ws' := wS G cy q rr tt M g) (lv' := [(0, .ref (q 0)), (1, .int (enc (r))), (2, .int (enc (onR M r (i + 1)))), (3, .ref (q 2)), (4, .int (enc (M 17 0))), (5, .int (enc (((i + 1 : Nat) : Int))))]) (st' := []) (rfl) (lvk (lvk (lvc (by rw [onR_s]; first | rw [if_pos c32] | (rw [if_neg c32]; omega)) (lvk (lvk (lvc (i_succ i) (rfl))))))) rfl (ih14 (i + 1) (by omega) (by omega))
  refine Tsub (lv' := [(0, .ref (q 0)), (1, .int (enc (r))), (2, .int (enc (0))), (3, .ref (q 2)), (4, .int (enc (M 17 0))), (5, .int (enc (0)))]) [4, 5, 3, 2, 1, 0] rfl ?_
  refine Teq (ws' := wS G cy q rr tt M g) (lv' := [(0, .ref (q 0)), (1, .int (enc (r))), (2, .int (enc (onR M r 0))), (3, .ref (q 2)), (4, .int (enc (M 17 0))), (5, .int (enc (((0 : Nat) : Int))))]) (st' := []) (rfl) (rfl) rfl (L14 (M 17 0 + 1).toNat 0 (by omega) (by omega))
set_option maxRecDepth 100000 in
set_option maxHeartbeats 4000000 in
theorem m_X5_arrived {G : va_G} {cy : ClassId} {q rr tt : Nat → Nat} (M : MT) (g : Int → Int) (B : Int) (hF : WF M B) (hB2 : B ≤ 900000) : Ct G cy yX5_arrived cX5_arrived 6 (some .int) ({ frames := 0, cells := 0, slots := 0, locals := 0 } : Room) 0 0 [.ref (q 0)] (wS G cy q rr tt M g) (fun v w1 => v = some (.int (enc (cntIn M (M 17 0).toNat))) ∧ w1 = wS G cy q rr tt M g) := by
  refine Ct.ofI (by decide) (Nat.le_of_ble_eq_true rfl) rfl rfl (fun _ _ _ => rfl) ?_
  intro c X ret
  have hB := hF.bd (by omega)
  obtain ⟨w0, w1, w2, w3, w4⟩ := hF.r
  have h17 := hF.2.2.2.2.2.1
  have h172 := hF.2.2.2.2.2.2.1
  have h20 := hF.2.2.2.2.2.2.2.1
  refine Tlv (lv' := [(0, .ref (q 0))]) rfl ?_
  refine tw_iconst X dX5_arrived_0 ?_
  refine tw_istore_n (lv' := [(1, .int (enc (0))), (0, .ref (q 0))]) X dX5_arrived_1 rfl (by decide) rfl ?_
  refine tw_aload_n X dX5_arrived_2 1 rfl rfl ?_
  refine gf_X5_15 X (v := .ref (q 2)) 0 rfl rfl dX5_arrived_3 ?_
  refine tw_astore_n (lv' := [(2, .ref (q 2)), (1, .int (enc (0))), (0, .ref (q 0))]) X dX5_arrived_6 rfl (by decide) rfl ?_
  refine tw_aload_n X dX5_arrived_7 0 rfl rfl ?_
  refine sr_lenT X (g := g) ([]) rfl (by omega) dX5_arrived_8 ?_
  refine tw_istore_n (lv' := [(3, .int (enc (M 17 0))), (2, .ref (q 2)), (1, .int (enc (0))), (0, .ref (q 0))]) X dX5_arrived_9 rfl (by decide) rfl ?_
  refine tw_iconst X dX5_arrived_10 ?_
  refine tw_istore (lv' := [(4, .int (enc (0))), (3, .int (enc (M 17 0))), (2, .ref (q 2)), (1, .int (enc (0))), (0, .ref (q 0))]) X dX5_arrived_11 (by decide) rfl ?_
  have L13 : ∀ (fu i : Nat), (i : Int) ≤ M 17 0 → M 17 0 + 1 ≤ (i : Int) + fu → T G c ({ frames := 0, cells := 0, slots := 0, locals := 0 } : Room) 6 0 0 (wS G cy q rr tt M g) 13 [(0, .ref (q 0)), (1, .int (enc (cntIn M i))), (2, .ref (q 2)), (3, .int (enc (M 17 0))), (4, .int (enc ((i : Int))))] [] := by
    intro fu
    induction fu with
    | zero =>
      intro i  hi0 hi1
      exact absurd hi1 (by omega)
    | succ fu ih13 =>
      intro i  hi0_13 hi1_13 
      refine tw_iload X dX5_arrived_13 4 rfl ?_
      refine tw_iload_n X dX5_arrived_15 3 rfl rfl ?_
      refine tw_icmp_ge (tgt := 42) X (In_of (by omega) (by omega)) (In_of (by omega) (by omega)) dX5_arrived_16 (by decide) (fun c16 => ?_) (fun c16 => ?_)
      · skip
        refine tw_iload_n X dX5_arrived_42 1 rfl rfl ?_
        exact ret _ _ _ _ dX5_arrived_43 ⟨by rw [show (M 17 0).toNat = i by omega], rfl⟩
      · skip
        refine tw_aload_n X dX5_arrived_19 2 rfl rfl ?_
        refine tw_iload X dX5_arrived_20 4 rfl ?_
        refine sr_aaT X (g := g) (M := M) (t := (i : Int)) ([]) rfl (by omega) (by omega) dX5_arrived_22 ?_
        refine tw_astore (lv' := [(5, .ref (tt ((i : Int)).toNat)), (0, .ref (q 0)), (1, .int (enc (cntIn M i))), (2, .ref (q 2)), (3, .int (enc (M 17 0))), (4, .int (enc ((i : Int))))]) X dX5_arrived_23 (by decide) rfl ?_
        refine tw_aload X dX5_arrived_25 0 rfl ?_
        refine tw_bipush X dX5_arrived_27 (by decide) ?_
        refine sr_ldT X (g := g) (M := M) (t := (i : Int)) (v := arrT M (i : Int)) ([]) rfl (by omega) (by decide) rfl dX5_arrived_29 ?_
        have ha := arrT_ok hF (t := (i : Int)) (by omega)
        refine tw_if_lt (tgt := 36) X (In_of (by omega) (by omega)) dX5_arrived_30 (by decide) (fun c30 => ?_) (fun c30 => ?_)
        · skip
          refine tw_iinc (q := 5) (x := (i : Int)) (y := (i : Int) + 1) (lv' := [(4, .int (enc ((i : Int) + 1))), (5, .ref (tt ((i : Int)).toNat)), (0, .ref (q 0)), (1, .int (enc (cntIn M i))), (2, .ref (q 2)), (3, .int (enc (M 17 0)))]) X dX5_arrived_36 rfl rfl (by decide) rfl ?_
          refine tw_goto (tgt := 13) X dX5_arrived_39 (by decide) ?_
          refine Tsub (lv' := [(0, .ref (q 0)), (1, .int (enc (cntIn M i))), (2, .ref (q 2)), (3, .int (enc (M 17 0))), (4, .int (enc ((i : Int) + 1)))]) [2, 3, 4, 5, 0] rfl ?_
          refine Teq (ws' := wS G cy q rr tt M g) (lv' := [(0, .ref (q 0)), (1, .int (enc (cntIn M (i + 1)))), (2, .ref (q 2)), (3, .int (enc (M 17 0))), (4, .int (enc (((i + 1 : Nat) : Int))))]) (st' := []) (rfl) (lvk (lvc (by rw [cntIn_s]; first | rw [if_pos (by omega)] | (rw [if_neg (by omega)]; omega)) (lvk (lvk (lvc (i_succ i) (rfl)))))) rfl (ih13 (i + 1) (by omega) (by omega))
        · skip
          refine tw_iinc (q := 2) (x := cntIn M i) (y := cntIn M i + 1) (lv' := [(1, .int (enc (cntIn M i + 1))), (5, .ref (tt ((i : Int)).toNat)), (0, .ref (q 0)), (2, .ref (q 2)), (3, .int (enc (M 17 0))), (4, .int (enc ((i : Int))))]) X dX5_arrived_33 rfl rfl (by decide) rfl ?_
          refine tw_iinc (q := 5) (x := (i : Int)) (y := (i : Int) + 1) (lv' := [(4, .int (enc ((i : Int) + 1))), (1, .int (enc (cntIn M i + 1))), (5, .ref (tt ((i : Int)).toNat)), (0, .ref (q 0)), (2, .ref (q 2)), (3, .int (enc (M 17 0)))]) X dX5_arrived_36 rfl rfl (by decide) rfl ?_
          refine tw_goto (tgt := 13) X dX5_arrived_39 (by decide) ?_
          refine Tsub (lv' := [(0, .ref (q 0)), (1, .int (enc (cntIn M i + 1))), (2, .ref (q 2)), (3, .int (enc (M 17 0))), (4, .int (enc ((i : Int) + 1)))]) [3, 1, 4, 5, 0] rfl ?_
          refine Teq (ws' := wS G cy q rr tt M g) (lv' := [(0, .ref (q 0)), (1, .int (enc (cntIn M (i + 1)))), (2, .ref (q 2)), (3, .int (enc (M 17 0))), (4, .int (enc (((i + 1 : Nat) : Int))))]) (st' := []) (rfl) (lvk (lvc (by rw [cntIn_s]; first | rw [if_pos (by omega)] | (rw [if_neg (by omega)]; omega)) (lvk (lvk (lvc (i_succ i) (rfl)))))) rfl (ih13 (i + 1) (by omega) (by omega))
  refine Tsub (lv' := [(0, .ref (q 0)), (1, .int (enc (0))), (2, .ref (q 2)), (3, .int (enc (M 17 0))), (4, .int (enc (0)))]) [4, 3, 2, 1, 0] rfl ?_
  refine Teq (ws' := wS G cy q rr tt M g) (lv' := [(0, .ref (q 0)), (1, .int (enc (cntIn M 0))), (2, .ref (q 2)), (3, .int (enc (M 17 0))), (4, .int (enc (((0 : Nat) : Int))))]) (st' := []) (rfl) (rfl) rfl (L13 (M 17 0 + 1).toNat 0 (by omega) (by omega))
set_option maxRecDepth 100000 in
set_option maxHeartbeats 4000000 in
theorem m_X5_fray {G : va_G} {cy : ClassId} {q rr tt : Nat → Nat} (M : MT) (g : Int → Int) (B : Int) (hF : WF M B) (hB2 : B ≤ 900000) (t : Int) (ht : 0 ≤ t ∧ t < M 17 0) : Ct G cy yX5_fray cX5_fray 2 (some .int) ({ frames := 1, cells := 0, slots := 0, locals := 21 } : Room) 0 0 [.ref (q 0), .ref (tt (t).toNat)] (wS G cy q rr tt M g) (fun v w1 => v = some (.int (enc (frayAt M t (M 20 0)))) ∧ w1 = wS G cy q rr tt M g) := by
  refine Ct.ofI (by decide) (Nat.le_of_ble_eq_true rfl) rfl rfl (fun _ _ _ => rfl) ?_
  intro c X ret
  have hB := hF.bd (by omega)
  obtain ⟨w0, w1, w2, w3, w4⟩ := hF.r
  have h17 := hF.2.2.2.2.2.1
  have h172 := hF.2.2.2.2.2.2.1
  have h20 := hF.2.2.2.2.2.2.2.1
  have ha := arrT_ok hF ht
  have b14 := hB 14 t
  refine Tlv (lv' := [(0, .ref (q 0)), (1, .ref (tt (t).toNat))]) rfl ?_
  refine tw_iconst X dX5_fray_0 ?_
  refine tw_aload_n X dX5_fray_1 1 rfl rfl ?_
  refine tw_bipush X dX5_fray_2 (by decide) ?_
  refine sr_ldT X (g := g) (M := M) (t := t) (v := arrT M t) ([]) rfl (by omega) (by decide) rfl dX5_fray_4 ?_
  refine tw_if_ge (tgt := 15) X (In_of (by omega) (by omega)) dX5_fray_5 (by decide) (fun c5 => ?_) (fun c5 => ?_)
  · skip
    refine tw_aload_n X dX5_fray_15 1 rfl rfl ?_
    refine tw_bipush X dX5_fray_16 (by decide) ?_
    refine sr_ldT X (g := g) (M := M) (t := t) (v := arrT M t) ([]) rfl (by omega) (by decide) rfl dX5_fray_18 ?_
    refine tw_aload_n X dX5_fray_19 1 rfl rfl ?_
    refine tw_iconst X dX5_fray_20 ?_
    refine sr_ldT X (g := g) (M := M) (t := t) (v := M 13 t) ([]) rfl (by omega) (by decide) rfl dX5_fray_21 ?_
    have b1 := hB 13 t
    refine tw_isub (z := (arrT M t) - (M 13 t)) X dX5_fray_22 rfl ?_
    refine tw_aload_n X dX5_fray_23 1 rfl rfl ?_
    refine tw_bipush X dX5_fray_24 (by decide) ?_
    refine sr_ldT X (g := g) (M := M) (t := t) (v := M 14 t) ([]) rfl (by omega) (by decide) rfl dX5_fray_26 ?_
    have b2 := hB 14 t
    refine tw_isub (z := ((arrT M t) - (M 13 t)) - (M 14 t)) X dX5_fray_27 rfl ?_
    refine tw_max (z := if 0 < ((arrT M t) - (M 13 t)) - (M 14 t) then ((arrT M t) - (M 13 t)) - (M 14 t) else 0) X (In_of (by omega) (by omega)) (In_of (by omega) (by omega)) wl_X5_56 wm_max_s wm_i wm_max_c (Nat.le_of_ble_eq_true rfl) (Nat.le_of_ble_eq_true rfl) ⟨Nat.le_of_ble_eq_true rfl, Nat.le_of_ble_eq_true rfl⟩ dX5_fray_28 rfl ?_
    exact ret _ _ _ _ dX5_fray_31 (by first | exact ⟨by unfold frayAt; rw [if_neg (show ¬ 0 ≤ M 15 t by omega)]; rfl, rfl⟩ | exact ⟨by unfold frayAt; rw [if_pos (show 0 ≤ M 15 t by omega), show arrT M t - M 13 t - M 14 t = M 15 t - M 14 t by omega]; rfl, rfl⟩)
  · skip
    refine tw_aload_n X dX5_fray_8 0 rfl rfl ?_
    refine gf_X5_42 X (v := .int (enc (M 20 0))) 0 rfl rfl dX5_fray_9 ?_
    have b3 := hB 20 0
    refine tw_goto (tgt := 19) X dX5_fray_12 (by decide) ?_
    refine tw_aload_n X dX5_fray_19 1 rfl rfl ?_
    refine tw_iconst X dX5_fray_20 ?_
    refine sr_ldT X (g := g) (M := M) (t := t) (v := M 13 t) ([]) rfl (by omega) (by decide) rfl dX5_fray_21 ?_
    have b4 := hB 13 t
    refine tw_isub (z := (M 20 0) - (M 13 t)) X dX5_fray_22 rfl ?_
    refine tw_aload_n X dX5_fray_23 1 rfl rfl ?_
    refine tw_bipush X dX5_fray_24 (by decide) ?_
    refine sr_ldT X (g := g) (M := M) (t := t) (v := M 14 t) ([]) rfl (by omega) (by decide) rfl dX5_fray_26 ?_
    have b5 := hB 14 t
    refine tw_isub (z := ((M 20 0) - (M 13 t)) - (M 14 t)) X dX5_fray_27 rfl ?_
    refine tw_max (z := if 0 < ((M 20 0) - (M 13 t)) - (M 14 t) then ((M 20 0) - (M 13 t)) - (M 14 t) else 0) X (In_of (by omega) (by omega)) (In_of (by omega) (by omega)) wl_X5_56 wm_max_s wm_i wm_max_c (Nat.le_of_ble_eq_true rfl) (Nat.le_of_ble_eq_true rfl) ⟨Nat.le_of_ble_eq_true rfl, Nat.le_of_ble_eq_true rfl⟩ dX5_fray_28 rfl ?_
    exact ret _ _ _ _ dX5_fray_31 (by first | exact ⟨by unfold frayAt; rw [if_neg (show ¬ 0 ≤ M 15 t by omega)]; rfl, rfl⟩ | exact ⟨by unfold frayAt; rw [if_pos (show 0 ≤ M 15 t by omega), show arrT M t - M 13 t - M 14 t = M 15 t - M 14 t by omega]; rfl, rfl⟩)
set_option maxRecDepth 100000 in
set_option maxHeartbeats 4000000 in
theorem m_X5_frayed {G : va_G} {cy : ClassId} {q rr tt : Nat → Nat} (M : MT) (g : Int → Int) (B : Int) (hF : WF M B) (hB2 : B ≤ 900000) : Ct G cy yX5_frayed cX5_frayed 7 (some .int) ({ frames := 2, cells := 0, slots := 0, locals := 42 } : Room) 0 0 [.ref (q 0), .int (enc (0))] (wS G cy q rr tt M g) (fun v w1 => v = some (.int (enc (frI M (M 17 0).toNat))) ∧ w1 = wS G cy q rr tt M g) := by
  refine Ct.ofI (by decide) (Nat.le_of_ble_eq_true rfl) rfl rfl (fun _ _ _ => rfl) ?_
  intro c X ret
  have hB := hF.bd (by omega)
  obtain ⟨w0, w1, w2, w3, w4⟩ := hF.r
  have h17 := hF.2.2.2.2.2.1
  have h172 := hF.2.2.2.2.2.2.1
  have h20 := hF.2.2.2.2.2.2.2.1
  refine Tlv (lv' := [(0, .ref (q 0)), (1, .int (enc (0)))]) rfl ?_
  refine tw_iconst X dX5_frayed_0 ?_
  refine tw_istore_n (lv' := [(2, .int (enc (0))), (0, .ref (q 0)), (1, .int (enc (0)))]) X dX5_frayed_1 rfl (by decide) rfl ?_
  refine tw_aload_n X dX5_frayed_2 1 rfl rfl ?_
  refine gf_X5_15 X (v := .ref (q 2)) 0 rfl rfl dX5_frayed_3 ?_
  refine tw_astore_n (lv' := [(3, .ref (q 2)), (2, .int (enc (0))), (0, .ref (q 0)), (1, .int (enc (0)))]) X dX5_frayed_6 rfl (by decide) rfl ?_
  refine tw_aload_n X dX5_frayed_7 0 rfl rfl ?_
  refine sr_lenT X (g := g) ([]) rfl (by omega) dX5_frayed_8 ?_
  refine tw_istore (lv' := [(4, .int (enc (M 17 0))), (3, .ref (q 2)), (2, .int (enc (0))), (0, .ref (q 0)), (1, .int (enc (0)))]) X dX5_frayed_9 (by decide) rfl ?_
  refine tw_iconst X dX5_frayed_11 ?_
  refine tw_istore (lv' := [(5, .int (enc (0))), (4, .int (enc (M 17 0))), (3, .ref (q 2)), (2, .int (enc (0))), (0, .ref (q 0)), (1, .int (enc (0)))]) X dX5_frayed_12 (by decide) rfl ?_
  have L14 : ∀ (fu i : Nat), (i : Int) ≤ M 17 0 → M 17 0 + 1 ≤ (i : Int) + fu → T G c ({ frames := 2, cells := 0, slots := 0, locals := 42 } : Room) 7 0 0 (wS G cy q rr tt M g) 14 [(0, .ref (q 0)), (1, .int (enc (0))), (2, .int (enc (frI M i))), (3, .ref (q 2)), (4, .int (enc (M 17 0))), (5, .int (enc ((i : Int))))] [] := by
    intro fu
    induction fu with
    | zero =>
      intro i  hi0 hi1
      exact absurd hi1 (by omega)
    | succ fu ih14 =>
      intro i  hi0_14 hi1_14 
      refine tw_iload X dX5_frayed_14 5 rfl ?_
      refine tw_iload X dX5_frayed_16 4 rfl ?_
      refine tw_icmp_ge (tgt := 54) X (In_of (by omega) (by omega)) (In_of (by omega) (by omega)) dX5_frayed_18 (by decide) (fun c18 => ?_) (fun c18 => ?_)
      · skip
        refine tw_iload_n X dX5_frayed_54 2 rfl rfl ?_
        exact ret _ _ _ _ dX5_frayed_55 ⟨by rw [show (M 17 0).toNat = i by omega], rfl⟩
      · skip
        refine tw_aload_n X dX5_frayed_21 3 rfl rfl ?_
        refine tw_iload X dX5_frayed_22 5 rfl ?_
        refine sr_aaT X (g := g) (M := M) (t := (i : Int)) ([]) rfl (by omega) (by omega) dX5_frayed_24 ?_
        refine tw_astore (lv' := [(6, .ref (tt ((i : Int)).toNat)), (0, .ref (q 0)), (1, .int (enc (0))), (2, .int (enc (frI M i))), (3, .ref (q 2)), (4, .int (enc (M 17 0))), (5, .int (enc ((i : Int))))]) X dX5_frayed_25 (by decide) rfl ?_
        refine tw_iload_n X dX5_frayed_27 2 rfl rfl ?_
        refine tw_if_ne (tgt := 39) X (In_of (by omega) (by omega)) dX5_frayed_28 (by decide) (fun c28 => ?_) (fun c28 => ?_)
        · exact absurd c28 (by decide)
        · skip
          refine tw_aload X dX5_frayed_31 0 rfl ?_
          refine tw_bipush X dX5_frayed_33 (by decide) ?_
          refine sr_ldT X (g := g) (M := M) (t := (i : Int)) (v := arrT M (i : Int)) ([]) rfl (by omega) (by decide) rfl dX5_frayed_35 ?_
          have ha := arrT_ok hF (t := (i : Int)) (by omega)
          refine tw_if_lt (tgt := 48) X (In_of (by omega) (by omega)) dX5_frayed_36 (by decide) (fun c36 => ?_) (fun c36 => ?_)
          · skip
            refine tw_iinc (q := 6) (x := (i : Int)) (y := (i : Int) + 1) (lv' := [(5, .int (enc ((i : Int) + 1))), (6, .ref (tt ((i : Int)).toNat)), (0, .ref (q 0)), (1, .int (enc (0))), (2, .int (enc (frI M i))), (3, .ref (q 2)), (4, .int (enc (M 17 0)))]) X dX5_frayed_48 rfl rfl (by decide) rfl ?_
            refine tw_goto (tgt := 14) X dX5_frayed_51 (by decide) ?_
            refine Tsub (lv' := [(0, .ref (q 0)), (1, .int (enc (0))), (2, .int (enc (frI M i))), (3, .ref (q 2)), (4, .int (enc (M 17 0))), (5, .int (enc ((i : Int) + 1)))]) [2, 3, 4, 5, 6, 0] rfl ?_
            refine Teq (ws' := wS G cy q rr tt M g) (lv' := [(0, .ref (q 0)), (1, .int (enc (0))), (2, .int (enc (frI M (i + 1)))), (3, .ref (q 2)), (4, .int (enc (M 17 0))), (5, .int (enc (((i + 1 : Nat) : Int))))]) (st' := []) (rfl) (lvk (lvk (lvc (by rw [frI_s]; first | (rw [if_pos (by omega)]; unfold frayAt; rw [if_pos (by omega)]; done) | (rw [if_neg (by omega)]; omega)) (lvk (lvk (lvc (i_succ i) (rfl))))))) rfl (ih14 (i + 1) (by omega) (by omega))
          · skip
            refine tw_iload_n X dX5_frayed_39 3 rfl rfl ?_
            refine tw_aload_n X dX5_frayed_40 1 rfl rfl ?_
            refine tw_aload X dX5_frayed_41 0 rfl ?_
            refine tw_callV X (As := [.ref (tt ((i : Int)).toNat)]) (st := [.int (enc (frI M i))]) vw_X5_59 (m_X5_fray (q := q) (rr := rr) (tt := tt) M g B hF hB2 ((i : Int)) (by omega)) ([]) ([]) (sY _ _) rfl (q0 := 0) rfl rfl rfl ⟨rfl, rfl, Nat.le_of_ble_eq_true rfl, Nat.le_of_ble_eq_true rfl⟩ ⟨Nat.le_of_ble_eq_true rfl, Nat.le_of_ble_eq_true rfl⟩ (Nat.le_of_ble_eq_true rfl) dX5_frayed_43 (fun v w1 hp => ?_)
            obtain ⟨rfl, rfl⟩ := hp
            refine Teq (ws' := wS G cy q rr tt M g) (lv' := [(6, .ref (tt ((i : Int)).toNat)), (0, .ref (q 0)), (1, .int (enc (0))), (2, .int (enc (frI M i))), (3, .ref (q 2)), (4, .int (enc (M 17 0))), (5, .int (enc ((i : Int))))]) (st' := [.int (enc (frayAt M (i : Int) (M 20 0))), .int (enc (frI M i))]) (sY _ _).symm rfl rfl ?_
            refine tw_iadd (z := (frI M i) + (frayAt M (i : Int) (M 20 0))) X dX5_frayed_46 rfl ?_
            refine tw_istore_n (lv' := [(2, .int (enc ((frI M i) + (frayAt M (i : Int) (M 20 0))))), (6, .ref (tt ((i : Int)).toNat)), (0, .ref (q 0)), (1, .int (enc (0))), (3, .ref (q 2)), (4, .int (enc (M 17 0))), (5, .int (enc ((i : Int))))]) X dX5_frayed_47 rfl (by decide) rfl ?_
            refine tw_iinc (q := 6) (x := (i : Int)) (y := (i : Int) + 1) (lv' := [(5, .int (enc ((i : Int) + 1))), (2, .int (enc ((frI M i) + (frayAt M (i : Int) (M 20 0))))), (6, .ref (tt ((i : Int)).toNat)), (0, .ref (q 0)), (1, .int (enc (0))), (3, .ref (q 2)), (4, .int (enc (M 17 0)))]) X dX5_frayed_48 rfl rfl (by decide) rfl ?_
            refine tw_goto (tgt := 14) X dX5_frayed_51 (by decide) ?_
            refine Tsub (lv' := [(0, .ref (q 0)), (1, .int (enc (0))), (2, .int (enc ((frI M i) + (frayAt M (i : Int) (M 20 0))))), (3, .ref (q 2)), (4, .int (enc (M 17 0))), (5, .int (enc ((i : Int) + 1)))]) [3, 4, 1, 5, 6, 0] rfl ?_
            refine Teq (ws' := wS G cy q rr tt M g) (lv' := [(0, .ref (q 0)), (1, .int (enc (0))), (2, .int (enc (frI M (i + 1)))), (3, .ref (q 2)), (4, .int (enc (M 17 0))), (5, .int (enc (((i + 1 : Nat) : Int))))]) (st' := []) (rfl) (lvk (lvk (lvc (by rw [frI_s]; first | (rw [if_pos (by omega)]; unfold frayAt; rw [if_pos (by omega)]; done) | (rw [if_neg (by omega)]; omega)) (lvk (lvk (lvc (i_succ i) (rfl))))))) rfl (ih14 (i + 1) (by omega) (by omega))
  refine Tsub (lv' := [(0, .ref (q 0)), (1, .int (enc (0))), (2, .int (enc (0))), (3, .ref (q 2)), (4, .int (enc (M 17 0))), (5, .int (enc (0)))]) [4, 5, 3, 2, 1, 0] rfl ?_
  refine Teq (ws' := wS G cy q rr tt M g) (lv' := [(0, .ref (q 0)), (1, .int (enc (0))), (2, .int (enc (frI M 0))), (3, .ref (q 2)), (4, .int (enc (M 17 0))), (5, .int (enc (((0 : Nat) : Int))))]) (st' := []) (rfl) (rfl) rfl (L14 (M 17 0 + 1).toNat 0 (by omega) (by omega))
