/-! THE MODEL: looking ahead, and what it answers -/
theorem exP {cy : ClassId} {q : Nat → Nat} {M : MT} {a b : Int} {k f : Int → Int} (h : b = a) : ∃ k' f', wP cy q M a k f = wP cy q M b k' f' := by
  subst h
  exact ⟨k, f, rfl⟩
theorem ansY {K a : Int} (h : K = 0) : some (Value.int (enc a)) = some (Value.int (enc (if K = 0 then a else 0))) := by rw [if_pos h]
theorem ansN {K k a : Int} (h : K = k) (h2 : k ≠ 0) : some (Value.int (enc 0)) = some (Value.int (enc (if K = 0 then a else 0))) := by rw [if_neg (by rw [h]; exact h2)]
theorem startF_n (M : MT) : startF M (-1) = M := by
  unfold startF
  rw [if_pos (by decide)]
theorem startF_y (M : MT) {r : Int} (h : 0 ≤ r) : startF M r = up M 6 r 4 := by
  unfold startF
  rw [if_neg (by omega)]
theorem frA_fore0 (M : MT) {n : Nat} (hn : n = 24) : frA (hoursM M n) (hoursM M n 20 0) (hoursM M n 17 0).toNat = (bestI M 0).2 := by
  have h := frA_fore M (-1) n
  rw [startF_n] at h
  rw [h]
  show _ = foreA M (-1) 24 (M 20 0 + 24)
  rw [hn]; rfl
theorem frA_foreR (M : MT) {n : Nat} (hn : n = 24) {r : Int} (hr : 0 ≤ r) : frA (hoursM (up M 6 r 4) n) (hoursM (up M 6 r 4) n 20 0) (hoursM (up M 6 r 4) n 17 0).toNat = foreA M r 24 (M 20 0 + 24) := by
  have h := frA_fore M r n
  rw [startF_y M hr] at h
  rw [h, hn]; rfl
set_option maxRecDepth 100000 in
set_option maxHeartbeats 4000000 in
theorem m_X5_until {G : va_G} {cy : ClassId} {q : Nat → Nat} (M : MT) (th : Int) (kept far : Int → Int) (t B : Int) (hF : WF M B) (hB2 : B ≤ 800000) (ht : 0 ≤ t ∧ t < M 17 0) : Ct G cy yX5_until cX5_until 3 (some .int) ({ frames := 6, cells := 0, slots := 0, locals := 139 } : Room) 0 0 [.ref (q 0), .int (enc (t))] (wP cy q M th kept far) (fun v w1 => v = some (.int (enc (untilM M t))) ∧ ∃ k' f', w1 = wP cy q M (th) k' f') := by
  refine Ct.ofI (by decide) (Nat.le_of_ble_eq_true rfl) rfl rfl (fun _ _ _ => rfl) ?_
  intro c X ret
  have hB := hF.bd (by omega)
  obtain ⟨w0, w1, w2, w3, w4⟩ := hF.r
  have h17 := hF.2.2.2.2.2.1
  have h172 := hF.2.2.2.2.2.2.1
  have h20 := hF.2.2.2.2.2.2.2.1
  have hTI := hF.2.2.2.2.2.2.2.2.2.1 t ht.1 ht.2
  unfold TI at hTI
  refine Tlv (lv' := [(0, .ref (q 0)), (1, .int (enc (t)))]) rfl ?_
  refine tw_aload_n X dX5_until_0 0 rfl rfl ?_
  refine tw_callV X (As := []) (st := []) vw_X5_170 (m_X5_keep (q := q) M th kept far) ([]) ([]) rfl rfl (q0 := 0) rfl rfl rfl ⟨rfl, rfl, Nat.le_of_ble_eq_true rfl, Nat.le_of_ble_eq_true rfl⟩ ⟨Nat.le_of_ble_eq_true rfl, Nat.le_of_ble_eq_true rfl⟩ (Nat.le_of_ble_eq_true rfl) dX5_until_1 (fun v w1 hp => ?_)
  obtain ⟨rfl, rfl⟩ := hp
  refine Teq (ws' := wP cy q M th (pack M) far) (lv' := [(0, .ref (q 0)), (1, .int (enc (t)))]) (st' := []) rfl rfl rfl ?_
  refine tw_iconst X dX5_until_4 ?_
  refine tw_istore_n (lv' := [(2, .int (enc (0))), (0, .ref (q 0)), (1, .int (enc (t)))]) X dX5_until_5 rfl (by decide) rfl ?_
  have L6 : ∀ (fu i : Nat) (f1 : Int → Int), (i : Int) ≤ (101 : Int) → (101 : Int) + 1 ≤ (i : Int) + fu → (∀ j : Nat, j < i → hoursM M j 15 t < 0) → T G c ({ frames := 6, cells := 0, slots := 0, locals := 139 } : Room) 3 0 0 (wP cy q (hoursM M i) th (pack M) f1) 6 [(0, .ref (q 0)), (1, .int (enc (t))), (2, .int (enc ((i : Int))))] [] := by
    intro fu
    induction fu with
    | zero =>
      intro i f1 hi0 hi1
      exact absurd hi1 (by omega)
    | succ fu ih6 =>
      intro i f1 hi0_6 hi1_6 hno
      have hWi := hF.hours i
      have hBi := hWi.bd (by omega)
      have e13 : hoursM M i 13 t = M 13 t := by rw [hoursM_fix M (k := 13) (by omega) i]
      have hdn := dn_no (M := hoursM M i) (t := t) (by omega)
      refine tw_iload_n X dX5_until_6 2 rfl rfl ?_
      refine tw_bipush X dX5_until_7 (by decide) ?_
      refine tw_icmp_gt (tgt := 32) X (In_of (by omega) (by omega)) (In_of (by omega) (by omega)) dX5_until_9 (by decide) (fun c9 => ?_) (fun c9 => ?_)
      · skip
        refine tw_aload_n X dX5_until_32 0 rfl rfl ?_
        refine tw_callV X (As := []) (st := []) vw_X5_173 (m_X5_bringBackP (q := q) (hoursM M i) M th f1 (FX.hours M i)) ([]) ([]) rfl rfl (q0 := 0) rfl rfl rfl ⟨rfl, rfl, Nat.le_of_ble_eq_true rfl, Nat.le_of_ble_eq_true rfl⟩ ⟨Nat.le_of_ble_eq_true rfl, Nat.le_of_ble_eq_true rfl⟩ (Nat.le_of_ble_eq_true rfl) dX5_until_33 (fun v w1 hp => ?_)
        obtain ⟨rfl, rfl⟩ := hp
        refine Teq (ws' := wP cy q M th (pack M) f1) (lv' := [(0, .ref (q 0)), (1, .int (enc (t))), (2, .int (enc ((i : Int))))]) (st' := []) rfl rfl rfl ?_
        refine tw_iload_n X dX5_until_36 2 rfl rfl ?_
        refine tw_bipush X dX5_until_37 (by decide) ?_
        refine tw_icmp_le (tgt := 46) X (In_of (by omega) (by omega)) (In_of (by omega) (by omega)) dX5_until_39 (by decide) (fun c39 => ?_) (fun c39 => ?_)
        · skip
          refine tw_iload_n X dX5_until_46 2 rfl rfl ?_
          exact ret _ _ _ _ dX5_until_47 (by first | exact absurd c39 (by omega) | (refine ⟨?_, _, _, rfl⟩; rw [until_no (M := M) (t := t) (fun j hj => hno j (by omega))]; done) | (refine ⟨?_, _, _, rfl⟩; rw [until_yes (M := M) (t := t) (by omega) hno hyes (by omega)]; done))
        · skip
          refine tw_iconst X dX5_until_42 ?_
          refine tw_goto (tgt := 47) X dX5_until_43 (by decide) ?_
          exact ret _ _ _ _ dX5_until_47 (by first | exact absurd c39 (by omega) | (refine ⟨?_, _, _, rfl⟩; rw [until_no (M := M) (t := t) (fun j hj => hno j (by omega))]; done) | (refine ⟨?_, _, _, rfl⟩; rw [until_yes (M := M) (t := t) (by omega) hno hyes (by omega)]; done))
      · skip
        refine tw_aload_n X dX5_until_12 0 rfl rfl ?_
        refine tw_iload_n X dX5_until_13 1 rfl rfl ?_
        refine tw_iconst X dX5_until_14 ?_
        refine tw_callV X (As := [.int (enc (t)), .int (enc (4))]) (st := []) vw_X5_67 (m_X5_to_4 (q := q) (hoursM M i) th (pack M) f1 (t) (by omega)) ([]) ([]) rfl rfl (q0 := 0) rfl rfl rfl ⟨rfl, rfl, Nat.le_of_ble_eq_true rfl, Nat.le_of_ble_eq_true rfl⟩ ⟨Nat.le_of_ble_eq_true rfl, Nat.le_of_ble_eq_true rfl⟩ (Nat.le_of_ble_eq_true rfl) dX5_until_15 (fun v w1 hp => ?_)
        obtain ⟨rfl, rfl⟩ := hp
        refine Teq (ws' := wP cy q (hoursM M i) th (pack M) f1) (lv' := [(0, .ref (q 0)), (1, .int (enc (t))), (2, .int (enc ((i : Int))))]) (st' := [.int (enc (dnM (hoursM M i) t))]) rfl rfl rfl ?_
        refine tw_iconst X dX5_until_18 ?_
        refine tw_icmp_ne (tgt := 32) X (dn_In hBi _) (In_of (by omega) (by omega)) dX5_until_19 (by decide) (fun c19 => ?_) (fun c19 => ?_)
        · skip
          rw [ne_eq, hdn] at c19
          have hyes : 0 ≤ hoursM M i 15 t := by omega
          refine tw_aload_n X dX5_until_32 0 rfl rfl ?_
          refine tw_callV X (As := []) (st := []) vw_X5_173 (m_X5_bringBackP (q := q) (hoursM M i) M th f1 (FX.hours M i)) ([]) ([]) rfl rfl (q0 := 0) rfl rfl rfl ⟨rfl, rfl, Nat.le_of_ble_eq_true rfl, Nat.le_of_ble_eq_true rfl⟩ ⟨Nat.le_of_ble_eq_true rfl, Nat.le_of_ble_eq_true rfl⟩ (Nat.le_of_ble_eq_true rfl) dX5_until_33 (fun v w1 hp => ?_)
          obtain ⟨rfl, rfl⟩ := hp
          refine Teq (ws' := wP cy q M th (pack M) f1) (lv' := [(0, .ref (q 0)), (1, .int (enc (t))), (2, .int (enc ((i : Int))))]) (st' := []) rfl rfl rfl ?_
          refine tw_iload_n X dX5_until_36 2 rfl rfl ?_
          refine tw_bipush X dX5_until_37 (by decide) ?_
          refine tw_icmp_le (tgt := 46) X (In_of (by omega) (by omega)) (In_of (by omega) (by omega)) dX5_until_39 (by decide) (fun c39 => ?_) (fun c39 => ?_)
          · skip
            refine tw_iload_n X dX5_until_46 2 rfl rfl ?_
            exact ret _ _ _ _ dX5_until_47 (by first | exact absurd c39 (by omega) | (refine ⟨?_, _, _, rfl⟩; rw [until_no (M := M) (t := t) (fun j hj => hno j (by omega))]; done) | (refine ⟨?_, _, _, rfl⟩; rw [until_yes (M := M) (t := t) (by omega) hno hyes (by omega)]; done))
          · skip
            refine tw_iconst X dX5_until_42 ?_
            refine tw_goto (tgt := 47) X dX5_until_43 (by decide) ?_
            exact ret _ _ _ _ dX5_until_47 (by first | exact absurd c39 (by omega) | (refine ⟨?_, _, _, rfl⟩; rw [until_no (M := M) (t := t) (fun j hj => hno j (by omega))]; done) | (refine ⟨?_, _, _, rfl⟩; rw [until_yes (M := M) (t := t) (by omega) hno hyes (by omega)]; done))
        · skip
          rw [hdn] at c19
          have hno2 : ∀ j : Nat, j < i + 1 → hoursM M j 15 t < 0 := fun j hj => by by_cases e : j = i; (rw [e]; exact c19); exact hno j (by omega)
          refine tw_aload_n X dX5_until_22 0 rfl rfl ?_
          refine tw_callV X (As := []) (st := []) vw_X5_113 (m_X5_hourOn (q := q) (hoursM M i) th (pack M) f1 (B + 26 * i) hWi (by omega)) ([]) ([]) rfl rfl (q0 := 0) rfl rfl rfl ⟨rfl, rfl, Nat.le_of_ble_eq_true rfl, Nat.le_of_ble_eq_true rfl⟩ ⟨Nat.le_of_ble_eq_true rfl, Nat.le_of_ble_eq_true rfl⟩ (Nat.le_of_ble_eq_true rfl) dX5_until_23 (fun v w1 hp => ?_)
          obtain ⟨rfl, fh, rfl⟩ := hp
          refine Teq (ws' := wP cy q (hourM (hoursM M i)) th (pack M) fh) (lv' := [(0, .ref (q 0)), (1, .int (enc (t))), (2, .int (enc ((i : Int))))]) (st' := []) rfl rfl rfl ?_
          refine tw_iinc (q := 2) (x := (i : Int)) (y := (i : Int) + 1) (lv' := [(2, .int (enc ((i : Int) + 1))), (0, .ref (q 0)), (1, .int (enc (t)))]) X dX5_until_26 rfl rfl (by decide) rfl ?_
          refine tw_goto (tgt := 6) X dX5_until_29 (by decide) ?_
          refine Tsub (lv' := [(0, .ref (q 0)), (1, .int (enc (t))), (2, .int (enc ((i : Int) + 1)))]) [1, 2, 0] rfl ?_
          refine Teq (ws' := wP cy q (hoursM M (i + 1)) th (pack M) (fh)) (lv' := [(0, .ref (q 0)), (1, .int (enc (t))), (2, .int (enc (((i + 1 : Nat) : Int))))]) (st' := []) (by rw [hoursM_s]) (lvk (lvk (lvc (i_succ i) (rfl)))) rfl (ih6 (i + 1) (fh) (by omega) (by omega) (hno2))
  refine Tsub (lv' := [(0, .ref (q 0)), (1, .int (enc (t))), (2, .int (enc (0)))]) [1, 2, 0] rfl ?_
  refine Teq (ws' := wP cy q (hoursM M 0) th (pack M) (far)) (lv' := [(0, .ref (q 0)), (1, .int (enc (t))), (2, .int (enc (((0 : Nat) : Int))))]) (st' := []) (rfl) (rfl) rfl (L6 ((101 : Int) + 1).toNat 0 (far) (by omega) (by omega) (fun j hj => absurd hj (Nat.not_lt_zero j)))
set_option maxRecDepth 100000 in
set_option maxHeartbeats 4000000 in
theorem m_X5_toMend {G : va_G} {cy : ClassId} {q : Nat → Nat} (M : MT) (th : Int) (kept far : Int → Int) (B : Int) (hF : WF M B) (hB2 : B ≤ 800000) : Ct G cy yX5_toMend cX5_toMend 5 (some .int) ({ frames := 7, cells := 0, slots := 0, locals := 161 } : Room) 0 0 [.ref (q 0)] (wP cy q M th kept far) (fun v w1 => v = some (.int (enc (bestM M))) ∧ ∃ k' f', w1 = wP cy q M (th) k' f') := by
  refine Ct.ofI (by decide) (Nat.le_of_ble_eq_true rfl) rfl rfl (fun _ _ _ => rfl) ?_
  intro c X ret
  have hB := hF.bd (by omega)
  obtain ⟨w0, w1, w2, w3, w4⟩ := hF.r
  have h17 := hF.2.2.2.2.2.1
  have h172 := hF.2.2.2.2.2.2.1
  have h20 := hF.2.2.2.2.2.2.2.1
  obtain ⟨n24, h24⟩ : ∃ n : Nat, n = 24 := ⟨24, rfl⟩
  refine Tlv (lv' := [(0, .ref (q 0))]) rfl ?_
  refine tw_aload_n X dX5_toMend_0 0 rfl rfl ?_
  refine tw_callV X (As := []) (st := []) vw_X5_170 (m_X5_keep (q := q) M th kept far) ([]) ([]) rfl rfl (q0 := 0) rfl rfl rfl ⟨rfl, rfl, Nat.le_of_ble_eq_true rfl, Nat.le_of_ble_eq_true rfl⟩ ⟨Nat.le_of_ble_eq_true rfl, Nat.le_of_ble_eq_true rfl⟩ (Nat.le_of_ble_eq_true rfl) dX5_toMend_1 (fun v w1 hp => ?_)
  obtain ⟨rfl, rfl⟩ := hp
  refine Teq (ws' := wP cy q M th (pack M) far) (lv' := [(0, .ref (q 0))]) (st' := []) rfl rfl rfl ?_
  refine tw_aload_n X dX5_toMend_4 0 rfl rfl ?_
  refine tw_bipush X dX5_toMend_5 (by decide) ?_
  refine tw_callV X (As := [.int (enc (24))]) (st := []) vw_X5_133 (m_X5_hoursOn (q := q) M th (pack M) far (24) n24 (by omega) (by omega) B hF hB2) ([]) ([]) rfl rfl (q0 := 0) rfl rfl rfl ⟨rfl, rfl, Nat.le_of_ble_eq_true rfl, Nat.le_of_ble_eq_true rfl⟩ ⟨Nat.le_of_ble_eq_true rfl, Nat.le_of_ble_eq_true rfl⟩ (Nat.le_of_ble_eq_true rfl) dX5_toMend_7 (fun v w1 hp => ?_)
  obtain ⟨rfl, fh, rfl⟩ := hp
  refine Teq (ws' := wP cy q (hoursM M n24) th (pack M) fh) (lv' := [(0, .ref (q 0))]) (st' := []) rfl rfl rfl ?_
  refine tw_aload_n X dX5_toMend_10 0 rfl rfl ?_
  refine tw_iconst X dX5_toMend_11 ?_
  refine tw_callV X (As := [.int (enc (1))]) (st := []) vw_X5_148 (m_X5_frays_1 (q := q) (hoursM M n24) th (pack M) fh (B + 26 * (n24 : Nat)) (hF.hours n24) (by omega)) ([]) ([]) rfl rfl (q0 := 0) rfl rfl rfl ⟨rfl, rfl, Nat.le_of_ble_eq_true rfl, Nat.le_of_ble_eq_true rfl⟩ ⟨Nat.le_of_ble_eq_true rfl, Nat.le_of_ble_eq_true rfl⟩ (Nat.le_of_ble_eq_true rfl) dX5_toMend_12 (fun v w1 hp => ?_)
  obtain ⟨rfl, rfl⟩ := hp
  refine Teq (ws' := wP cy q (hoursM M n24) th (pack M) fh) (lv' := [(0, .ref (q 0))]) (st' := [.int (enc (frA (hoursM M n24) ((hoursM M n24) 20 0) ((hoursM M n24) 17 0).toNat))]) rfl rfl rfl ?_
  have e0 : frA (hoursM M n24) (hoursM M n24 20 0) (hoursM M n24 17 0).toNat = (bestI M 0).2 := frA_fore0 M h24
  refine tw_istore_n (lv' := [(1, .int (enc (frA (hoursM M n24) ((hoursM M n24) 20 0) ((hoursM M n24) 17 0).toNat))), (0, .ref (q 0))]) X dX5_toMend_15 rfl (by decide) rfl ?_
  refine tw_aload_n X dX5_toMend_16 1 rfl rfl ?_
  refine tw_callV X (As := []) (st := []) vw_X5_173 (m_X5_bringBackP (q := q) (hoursM M n24) M th fh (FX.hours M n24)) ([]) ([]) rfl rfl (q0 := 0) rfl rfl rfl ⟨rfl, rfl, Nat.le_of_ble_eq_true rfl, Nat.le_of_ble_eq_true rfl⟩ ⟨Nat.le_of_ble_eq_true rfl, Nat.le_of_ble_eq_true rfl⟩ (Nat.le_of_ble_eq_true rfl) dX5_toMend_17 (fun v w1 hp => ?_)
  obtain ⟨rfl, rfl⟩ := hp
  refine Teq (ws' := wP cy q M th (pack M) fh) (lv' := [(1, .int (enc (frA (hoursM M n24) ((hoursM M n24) 20 0) ((hoursM M n24) 17 0).toNat))), (0, .ref (q 0))]) (st' := []) rfl rfl rfl ?_
  refine tw_iconst X dX5_toMend_20 ?_
  refine tw_istore_n (lv' := [(2, .int (enc (-1))), (1, .int (enc (frA (hoursM M n24) ((hoursM M n24) 20 0) ((hoursM M n24) 17 0).toNat))), (0, .ref (q 0))]) X dX5_toMend_21 rfl (by decide) rfl ?_
  refine tw_iconst X dX5_toMend_22 ?_
  refine tw_istore_n (lv' := [(3, .int (enc (0))), (2, .int (enc (-1))), (1, .int (enc (frA (hoursM M n24) ((hoursM M n24) 20 0) ((hoursM M n24) 17 0).toNat))), (0, .ref (q 0))]) X dX5_toMend_23 rfl (by decide) rfl ?_
  have L24 : ∀ (fu i : Nat) (f1 : Int → Int), (i : Int) ≤ M 16 0 → M 16 0 + 1 ≤ (i : Int) + fu → T G c ({ frames := 7, cells := 0, slots := 0, locals := 161 } : Room) 5 0 0 (wP cy q M th (pack M) f1) 24 [(0, .ref (q 0)), (1, .int (enc ((bestI M i).2))), (2, .int (enc ((bestI M i).1))), (3, .int (enc ((i : Int))))] [] := by
    intro fu
    induction fu with
    | zero =>
      intro i f1 hi0 hi1
      exact absurd hi1 (by omega)
    | succ fu ih24 =>
      intro i f1 hi0_24 hi1_24 
      refine tw_iload_n X dX5_toMend_24 3 rfl rfl ?_
      refine tw_aload_n X dX5_toMend_25 0 rfl rfl ?_
      refine gf_X5_51 X (v := .int (enc (M 16 0))) 0 rfl rfl dX5_toMend_26 ?_
      have b1 := hB 16 0
      refine tw_icmp_ge (tgt := 87) X (In_of (by omega) (by omega)) (In_of (by omega) (by omega)) dX5_toMend_29 (by decide) (fun c29 => ?_) (fun c29 => ?_)
      · skip
        refine tw_iload_n X dX5_toMend_87 2 rfl rfl ?_
        exact ret _ _ _ _ dX5_toMend_88 ⟨by unfold bestM; rw [show (M 16 0).toNat = i by omega], _, _, rfl⟩
      · skip
        refine tw_aload_n X dX5_toMend_32 0 rfl rfl ?_
        refine tw_iload_n X dX5_toMend_33 3 rfl rfl ?_
        refine tw_callV X (As := [.int (enc ((i : Int)))]) (st := []) vw_X5_70 (m_X5_isOpen (q := q) M th (pack M) f1 ((i : Int)) hB (by omega)) ([]) ([]) rfl rfl (q0 := 0) rfl rfl rfl ⟨rfl, rfl, Nat.le_of_ble_eq_true rfl, Nat.le_of_ble_eq_true rfl⟩ ⟨Nat.le_of_ble_eq_true rfl, Nat.le_of_ble_eq_true rfl⟩ (Nat.le_of_ble_eq_true rfl) dX5_toMend_34 (fun v w1 hp => ?_)
        obtain ⟨rfl, rfl⟩ := hp
        refine Teq (ws' := wP cy q M th (pack M) f1) (lv' := [(0, .ref (q 0)), (1, .int (enc ((bestI M i).2))), (2, .int (enc ((bestI M i).1))), (3, .int (enc ((i : Int))))]) (st' := [.int (enc (if M 6 (i : Int) = 0 then 1 else 0))]) rfl rfl rfl ?_
        refine tw_if_ne (tgt := 43) X In_b dX5_toMend_37 (by decide) (fun c37 => ?_) (fun c37 => ?_)
        · skip
          have c37 := b01n.mp c37
          refine tw_aload_n X dX5_toMend_43 0 rfl rfl ?_
          refine tw_iload_n X dX5_toMend_44 3 rfl rfl ?_
          refine tw_iconst X dX5_toMend_45 ?_
          refine tw_iconst X dX5_toMend_46 ?_
          refine tw_callV X (As := [.int (enc ((i : Int))), .int (enc (0)), .int (enc (4))]) (st := []) vw_X5_90 (m_X5_lay_0 (q := q) M th (pack M) f1 ((i : Int)) (4) (by omega)) ([]) ([]) rfl rfl (q0 := 0) rfl rfl rfl ⟨rfl, rfl, Nat.le_of_ble_eq_true rfl, Nat.le_of_ble_eq_true rfl⟩ ⟨Nat.le_of_ble_eq_true rfl, Nat.le_of_ble_eq_true rfl⟩ (Nat.le_of_ble_eq_true rfl) dX5_toMend_47 (fun v w1 hp => ?_)
          obtain ⟨rfl, rfl⟩ := hp
          refine Teq (ws' := wP cy q (up M 6 ((i : Int)) (4)) th (pack M) f1) (lv' := [(0, .ref (q 0)), (1, .int (enc ((bestI M i).2))), (2, .int (enc ((bestI M i).1))), (3, .int (enc ((i : Int))))]) (st' := []) rfl rfl rfl ?_
          have hFu : WF (up M 6 (i : Int) 4) B := by have := hF.start (i : Int); unfold startF at this; rw [if_neg (by omega)] at this; exact this
          refine tw_aload_n X dX5_toMend_50 0 rfl rfl ?_
          refine tw_bipush X dX5_toMend_51 (by decide) ?_
          refine tw_callV X (As := [.int (enc (24))]) (st := []) vw_X5_133 (m_X5_hoursOn (q := q) (up M 6 ((i : Int)) (4)) th (pack M) f1 (24) n24 (by omega) (by omega) B hFu hB2) ([]) ([]) rfl rfl (q0 := 0) rfl rfl rfl ⟨rfl, rfl, Nat.le_of_ble_eq_true rfl, Nat.le_of_ble_eq_true rfl⟩ ⟨Nat.le_of_ble_eq_true rfl, Nat.le_of_ble_eq_true rfl⟩ (Nat.le_of_ble_eq_true rfl) dX5_toMend_53 (fun v w1 hp => ?_)
          obtain ⟨rfl, f2, rfl⟩ := hp
          refine Teq (ws' := wP cy q (hoursM (up M 6 ((i : Int)) (4)) n24) th (pack M) f2) (lv' := [(0, .ref (q 0)), (1, .int (enc ((bestI M i).2))), (2, .int (enc ((bestI M i).1))), (3, .int (enc ((i : Int))))]) (st' := []) rfl rfl rfl ?_
          refine tw_aload_n X dX5_toMend_56 0 rfl rfl ?_
          refine tw_iconst X dX5_toMend_57 ?_
          refine tw_callV X (As := [.int (enc (1))]) (st := []) vw_X5_148 (m_X5_frays_1 (q := q) (hoursM (up M 6 ((i : Int)) (4)) n24) th (pack M) f2 (B + 26 * (n24 : Nat)) (hFu.hours n24) (by omega)) ([]) ([]) rfl rfl (q0 := 0) rfl rfl rfl ⟨rfl, rfl, Nat.le_of_ble_eq_true rfl, Nat.le_of_ble_eq_true rfl⟩ ⟨Nat.le_of_ble_eq_true rfl, Nat.le_of_ble_eq_true rfl⟩ (Nat.le_of_ble_eq_true rfl) dX5_toMend_58 (fun v w1 hp => ?_)
          obtain ⟨rfl, rfl⟩ := hp
          refine Teq (ws' := wP cy q (hoursM (up M 6 ((i : Int)) (4)) n24) th (pack M) f2) (lv' := [(0, .ref (q 0)), (1, .int (enc ((bestI M i).2))), (2, .int (enc ((bestI M i).1))), (3, .int (enc ((i : Int))))]) (st' := [.int (enc (frA (hoursM (up M 6 ((i : Int)) (4)) n24) ((hoursM (up M 6 ((i : Int)) (4)) n24) 20 0) ((hoursM (up M 6 ((i : Int)) (4)) n24) 17 0).toNat))]) rfl rfl rfl ?_
          have e1 := frA_foreR M h24 (r := (i : Int)) (by omega)
          have ra := foreA_rng (m := (i : Int)) hF hB2 (h := 24) (by omega) (x := M 20 0 + 24) (by have := hF.1 20 0; omega)
          have rb := bestI_rng hF hB2 i
          refine Tst (st' := [.int (enc (foreA M (i : Int) 24 (M 20 0 + 24)))]) (by rw [e1]) ?_
          refine tw_istore (lv' := [(4, .int (enc (foreA M (i : Int) 24 (M 20 0 + 24)))), (0, .ref (q 0)), (1, .int (enc ((bestI M i).2))), (2, .int (enc ((bestI M i).1))), (3, .int (enc ((i : Int))))]) X dX5_toMend_61 (by decide) rfl ?_
          refine tw_aload_n X dX5_toMend_63 1 rfl rfl ?_
          refine tw_callV X (As := []) (st := []) vw_X5_173 (m_X5_bringBackP (q := q) (hoursM (up M 6 ((i : Int)) (4)) n24) M th f2 (FX.hours2 M (i : Int) 4 n24)) ([]) ([]) rfl rfl (q0 := 0) rfl rfl rfl ⟨rfl, rfl, Nat.le_of_ble_eq_true rfl, Nat.le_of_ble_eq_true rfl⟩ ⟨Nat.le_of_ble_eq_true rfl, Nat.le_of_ble_eq_true rfl⟩ (Nat.le_of_ble_eq_true rfl) dX5_toMend_64 (fun v w1 hp => ?_)
          obtain ⟨rfl, rfl⟩ := hp
          refine Teq (ws' := wP cy q M th (pack M) f2) (lv' := [(4, .int (enc (foreA M (i : Int) 24 (M 20 0 + 24)))), (0, .ref (q 0)), (1, .int (enc ((bestI M i).2))), (2, .int (enc ((bestI M i).1))), (3, .int (enc ((i : Int))))]) (st' := []) rfl rfl rfl ?_
          refine tw_iload X dX5_toMend_67 0 rfl ?_
          refine tw_iload_n X dX5_toMend_69 2 rfl rfl ?_
          refine tw_icmp_lt (tgt := 76) X (In_of (by omega) (by omega)) (In_of (by omega) (by omega)) dX5_toMend_70 (by decide) (fun c70 => ?_) (fun c70 => ?_)
          · skip
            have eT : bestI M (i + 1) = ((i : Int), foreA M (i : Int) 24 (M 20 0 + 24)) := bestI_y c37 (by omega)
            refine tw_iload_n X dX5_toMend_76 4 rfl rfl ?_
            refine tw_istore_n (lv' := [(2, .int (enc ((i : Int)))), (4, .int (enc (foreA M (i : Int) 24 (M 20 0 + 24)))), (0, .ref (q 0)), (1, .int (enc ((bestI M i).2))), (3, .int (enc ((i : Int))))]) X dX5_toMend_77 rfl (by decide) rfl ?_
            refine tw_iload X dX5_toMend_78 1 rfl ?_
            refine tw_istore_n (lv' := [(1, .int (enc (foreA M (i : Int) 24 (M 20 0 + 24)))), (2, .int (enc ((i : Int)))), (4, .int (enc (foreA M (i : Int) 24 (M 20 0 + 24)))), (0, .ref (q 0)), (3, .int (enc ((i : Int))))]) X dX5_toMend_80 rfl (by decide) rfl ?_
            refine tw_iinc (q := 4) (x := (i : Int)) (y := (i : Int) + 1) (lv' := [(3, .int (enc ((i : Int) + 1))), (1, .int (enc (foreA M (i : Int) 24 (M 20 0 + 24)))), (2, .int (enc ((i : Int)))), (4, .int (enc (foreA M (i : Int) 24 (M 20 0 + 24)))), (0, .ref (q 0))]) X dX5_toMend_81 rfl rfl (by decide) rfl ?_
            refine tw_goto (tgt := 24) X dX5_toMend_84 (by decide) ?_
            refine Tsub (lv' := [(0, .ref (q 0)), (1, .int (enc (foreA M (i : Int) 24 (M 20 0 + 24)))), (2, .int (enc ((i : Int)))), (3, .int (enc ((i : Int) + 1)))]) [4, 1, 2, 0] rfl ?_
            refine Teq (ws' := wP cy q M th (pack M) (f2)) (lv' := [(0, .ref (q 0)), (1, .int (enc ((bestI M (i + 1)).2))), (2, .int (enc ((bestI M (i + 1)).1))), (3, .int (enc (((i + 1 : Nat) : Int))))]) (st' := []) (rfl) (lvk (lvc (by rw [eT]) (lvc (by rw [eT]) (lvc (i_succ i) (rfl))))) rfl (ih24 (i + 1) (f2) (by omega) (by omega))
          · skip
            have eT : bestI M (i + 1) = bestI M i := bestI_n (fun z => by omega)
            refine tw_goto (tgt := 81) X dX5_toMend_73 (by decide) ?_
            refine tw_iinc (q := 4) (x := (i : Int)) (y := (i : Int) + 1) (lv' := [(3, .int (enc ((i : Int) + 1))), (4, .int (enc (foreA M (i : Int) 24 (M 20 0 + 24)))), (0, .ref (q 0)), (1, .int (enc ((bestI M i).2))), (2, .int (enc ((bestI M i).1)))]) X dX5_toMend_81 rfl rfl (by decide) rfl ?_
            refine tw_goto (tgt := 24) X dX5_toMend_84 (by decide) ?_
            refine Tsub (lv' := [(0, .ref (q 0)), (1, .int (enc ((bestI M i).2))), (2, .int (enc ((bestI M i).1))), (3, .int (enc ((i : Int) + 1)))]) [2, 3, 4, 0] rfl ?_
            refine Teq (ws' := wP cy q M th (pack M) (f2)) (lv' := [(0, .ref (q 0)), (1, .int (enc ((bestI M (i + 1)).2))), (2, .int (enc ((bestI M (i + 1)).1))), (3, .int (enc (((i + 1 : Nat) : Int))))]) (st' := []) (rfl) (lvk (lvc (by rw [eT]) (lvc (by rw [eT]) (lvc (i_succ i) (rfl))))) rfl (ih24 (i + 1) (f2) (by omega) (by omega))
        · skip
          have c37 := b01.mp c37
          have eT : bestI M (i + 1) = bestI M i := bestI_n (fun z => c37 z.1)
          refine tw_goto (tgt := 81) X dX5_toMend_40 (by decide) ?_
          refine tw_iinc (q := 3) (x := (i : Int)) (y := (i : Int) + 1) (lv' := [(3, .int (enc ((i : Int) + 1))), (0, .ref (q 0)), (1, .int (enc ((bestI M i).2))), (2, .int (enc ((bestI M i).1)))]) X dX5_toMend_81 rfl rfl (by decide) rfl ?_
          refine tw_goto (tgt := 24) X dX5_toMend_84 (by decide) ?_
          refine Tsub (lv' := [(0, .ref (q 0)), (1, .int (enc ((bestI M i).2))), (2, .int (enc ((bestI M i).1))), (3, .int (enc ((i : Int) + 1)))]) [1, 2, 3, 0] rfl ?_
          refine Teq (ws' := wP cy q M th (pack M) (f1)) (lv' := [(0, .ref (q 0)), (1, .int (enc ((bestI M (i + 1)).2))), (2, .int (enc ((bestI M (i + 1)).1))), (3, .int (enc (((i + 1 : Nat) : Int))))]) (st' := []) (rfl) (lvk (lvc (by rw [eT]) (lvc (by rw [eT]) (lvc (i_succ i) (rfl))))) rfl (ih24 (i + 1) (f1) (by omega) (by omega))
  refine Tsub (lv' := [(0, .ref (q 0)), (1, .int (enc (frA (hoursM M n24) ((hoursM M n24) 20 0) ((hoursM M n24) 17 0).toNat))), (2, .int (enc (-1))), (3, .int (enc (0)))]) [3, 2, 1, 0] rfl ?_
  refine Teq (ws' := wP cy q M th (pack M) (fh)) (lv' := [(0, .ref (q 0)), (1, .int (enc ((bestI M 0).2))), (2, .int (enc ((bestI M 0).1))), (3, .int (enc (((0 : Nat) : Int))))]) (st' := []) (rfl) (lvk (lvc (e0) (lvk (lvk (rfl))))) rfl (L24 (M 16 0 + 1).toNat 0 (fh) (by omega) (by omega))
set_option maxRecDepth 100000 in
set_option maxHeartbeats 4000000 in
theorem m_X5_hour {G : va_G} {cy : ClassId} {q : Nat → Nat} (M : MT) (th : Int) (kept far : Int → Int) (B : Int) (hF : WF M B) (hB2 : B ≤ 800000) : Ct G cy yX5_hour cX5_hour 1 (some .int) ({ frames := 1, cells := 0, slots := 0, locals := 21 } : Room) 0 0 [.ref (q 0)] (wP cy q M th kept far) (fun v w1 => v = some (.int (enc (M 20 0))) ∧ ∃ k' f', w1 = wP cy q M (0) k' f') := by
  refine Ct.ofI (by decide) (Nat.le_of_ble_eq_true rfl) rfl rfl (fun _ _ _ => rfl) ?_
  intro c X ret
  have hB := hF.bd (by omega)
  obtain ⟨w0, w1, w2, w3, w4⟩ := hF.r
  have h17 := hF.2.2.2.2.2.1
  have h172 := hF.2.2.2.2.2.2.1
  have h20 := hF.2.2.2.2.2.2.2.1
  refine Tlv (lv' := [(0, .ref (q 0))]) rfl ?_
  refine tw_aload_n X dX5_hour_0 0 rfl rfl ?_
  refine tw_aload_n X dX5_hour_1 0 rfl rfl ?_
  refine gf_X5_31 X (v := .ref (q 8)) 0 rfl rfl dX5_hour_2 ?_
  refine tw_iconst X dX5_hour_5 ?_
  refine tw_iald X (N := 133) (f := (pack M)) 8 rfl (by decide) (by omega) dX5_hour_6 ?_
  refine Tst (st' := [.int (enc (M 20 0)), .ref (q 0)]) rfl ?_
  refine tw_callV X (As := [.int (enc (M 20 0))]) (st := []) vw_X5_136 (m_X5_told (q := q) M th kept far (M 20 0)) ([]) ([]) rfl rfl (q0 := 0) rfl rfl rfl ⟨rfl, rfl, Nat.le_of_ble_eq_true rfl, Nat.le_of_ble_eq_true rfl⟩ ⟨Nat.le_of_ble_eq_true rfl, Nat.le_of_ble_eq_true rfl⟩ (Nat.le_of_ble_eq_true rfl) dX5_hour_7 (fun v w1 hp => ?_)
  obtain ⟨rfl, rfl⟩ := hp
  refine Teq (ws' := wP cy q M 0 kept far) (lv' := [(0, .ref (q 0))]) (st' := [.int (enc (M 20 0))]) rfl rfl rfl ?_
  exact ret _ _ _ _ dX5_hour_10 ⟨rfl, _, _, rfl⟩
set_option maxRecDepth 100000 in
set_option maxHeartbeats 4000000 in
theorem m_X5_crossings {G : va_G} {cy : ClassId} {q : Nat → Nat} (M : MT) (th : Int) (kept far : Int → Int) (B : Int) (hF : WF M B) (hB2 : B ≤ 800000) : Ct G cy yX5_crossings cX5_crossings 1 (some .int) ({ frames := 1, cells := 0, slots := 0, locals := 21 } : Room) 0 0 [.ref (q 0)] (wP cy q M th kept far) (fun v w1 => v = some (.int (enc (M 19 0))) ∧ ∃ k' f', w1 = wP cy q M (0) k' f') := by
  refine Ct.ofI (by decide) (Nat.le_of_ble_eq_true rfl) rfl rfl (fun _ _ _ => rfl) ?_
  intro c X ret
  have hB := hF.bd (by omega)
  obtain ⟨w0, w1, w2, w3, w4⟩ := hF.r
  have h17 := hF.2.2.2.2.2.1
  have h172 := hF.2.2.2.2.2.2.1
  have h20 := hF.2.2.2.2.2.2.2.1
  refine Tlv (lv' := [(0, .ref (q 0))]) rfl ?_
  refine tw_aload_n X dX5_crossings_0 0 rfl rfl ?_
  refine tw_aload_n X dX5_crossings_1 0 rfl rfl ?_
  refine gf_X5_44 X (v := .int (enc (M 19 0))) 0 rfl rfl dX5_crossings_2 ?_
  refine tw_callV X (As := [.int (enc (M 19 0))]) (st := []) vw_X5_136 (m_X5_told (q := q) M th kept far (M 19 0)) ([]) ([]) rfl rfl (q0 := 0) rfl rfl rfl ⟨rfl, rfl, Nat.le_of_ble_eq_true rfl, Nat.le_of_ble_eq_true rfl⟩ ⟨Nat.le_of_ble_eq_true rfl, Nat.le_of_ble_eq_true rfl⟩ (Nat.le_of_ble_eq_true rfl) dX5_crossings_5 (fun v w1 hp => ?_)
  obtain ⟨rfl, rfl⟩ := hp
  refine Teq (ws' := wP cy q M 0 kept far) (lv' := [(0, .ref (q 0))]) (st' := [.int (enc (M 19 0))]) rfl rfl rfl ?_
  exact ret _ _ _ _ dX5_crossings_8 ⟨rfl, _, _, rfl⟩
set_option maxRecDepth 100000 in
set_option maxHeartbeats 4000000 in
theorem m_X5_roads {G : va_G} {cy : ClassId} {q : Nat → Nat} (M : MT) (th : Int) (kept far : Int → Int) (B : Int) (hF : WF M B) (hB2 : B ≤ 800000) : Ct G cy yX5_roads cX5_roads 1 (some .int) ({ frames := 1, cells := 0, slots := 0, locals := 21 } : Room) 0 0 [.ref (q 0)] (wP cy q M th kept far) (fun v w1 => v = some (.int (enc (M 16 0))) ∧ ∃ k' f', w1 = wP cy q M (0) k' f') := by
  refine Ct.ofI (by decide) (Nat.le_of_ble_eq_true rfl) rfl rfl (fun _ _ _ => rfl) ?_
  intro c X ret
  have hB := hF.bd (by omega)
  obtain ⟨w0, w1, w2, w3, w4⟩ := hF.r
  have h17 := hF.2.2.2.2.2.1
  have h172 := hF.2.2.2.2.2.2.1
  have h20 := hF.2.2.2.2.2.2.2.1
  refine Tlv (lv' := [(0, .ref (q 0))]) rfl ?_
  refine tw_aload_n X dX5_roads_0 0 rfl rfl ?_
  refine tw_aload_n X dX5_roads_1 0 rfl rfl ?_
  refine gf_X5_51 X (v := .int (enc (M 16 0))) 0 rfl rfl dX5_roads_2 ?_
  refine tw_callV X (As := [.int (enc (M 16 0))]) (st := []) vw_X5_136 (m_X5_told (q := q) M th kept far (M 16 0)) ([]) ([]) rfl rfl (q0 := 0) rfl rfl rfl ⟨rfl, rfl, Nat.le_of_ble_eq_true rfl, Nat.le_of_ble_eq_true rfl⟩ ⟨Nat.le_of_ble_eq_true rfl, Nat.le_of_ble_eq_true rfl⟩ (Nat.le_of_ble_eq_true rfl) dX5_roads_5 (fun v w1 hp => ?_)
  obtain ⟨rfl, rfl⟩ := hp
  refine Teq (ws' := wP cy q M 0 kept far) (lv' := [(0, .ref (q 0))]) (st' := [.int (enc (M 16 0))]) rfl rfl rfl ?_
  exact ret _ _ _ _ dX5_roads_8 ⟨rfl, _, _, rfl⟩
set_option maxRecDepth 100000 in
set_option maxHeartbeats 4000000 in
theorem m_X5_tourists {G : va_G} {cy : ClassId} {q : Nat → Nat} (M : MT) (th : Int) (kept far : Int → Int) (B : Int) (hF : WF M B) (hB2 : B ≤ 800000) : Ct G cy yX5_tourists cX5_tourists 1 (some .int) ({ frames := 1, cells := 0, slots := 0, locals := 21 } : Room) 0 0 [.ref (q 0)] (wP cy q M th kept far) (fun v w1 => v = some (.int (enc (M 17 0))) ∧ ∃ k' f', w1 = wP cy q M (0) k' f') := by
  refine Ct.ofI (by decide) (Nat.le_of_ble_eq_true rfl) rfl rfl (fun _ _ _ => rfl) ?_
  intro c X ret
  have hB := hF.bd (by omega)
  obtain ⟨w0, w1, w2, w3, w4⟩ := hF.r
  have h17 := hF.2.2.2.2.2.1
  have h172 := hF.2.2.2.2.2.2.1
  have h20 := hF.2.2.2.2.2.2.2.1
  refine Tlv (lv' := [(0, .ref (q 0))]) rfl ?_
  refine tw_aload_n X dX5_tourists_0 0 rfl rfl ?_
  refine tw_aload_n X dX5_tourists_1 0 rfl rfl ?_
  refine gf_X5_54 X (v := .int (enc (M 17 0))) 0 rfl rfl dX5_tourists_2 ?_
  refine tw_callV X (As := [.int (enc (M 17 0))]) (st := []) vw_X5_136 (m_X5_told (q := q) M th kept far (M 17 0)) ([]) ([]) rfl rfl (q0 := 0) rfl rfl rfl ⟨rfl, rfl, Nat.le_of_ble_eq_true rfl, Nat.le_of_ble_eq_true rfl⟩ ⟨Nat.le_of_ble_eq_true rfl, Nat.le_of_ble_eq_true rfl⟩ (Nat.le_of_ble_eq_true rfl) dX5_tourists_5 (fun v w1 hp => ?_)
  obtain ⟨rfl, rfl⟩ := hp
  refine Teq (ws' := wP cy q M 0 kept far) (lv' := [(0, .ref (q 0))]) (st' := [.int (enc (M 17 0))]) rfl rfl rfl ?_
  exact ret _ _ _ _ dX5_tourists_8 ⟨rfl, _, _, rfl⟩
set_option maxRecDepth 100000 in
set_option maxHeartbeats 4000000 in
theorem m_X5_arrived {G : va_G} {cy : ClassId} {q : Nat → Nat} (M : MT) (th : Int) (kept far : Int → Int) (B : Int) (hF : WF M B) (hB2 : B ≤ 800000) : Ct G cy yX5_arrived cX5_arrived 1 (some .int) ({ frames := 2, cells := 0, slots := 0, locals := 44 } : Room) 0 0 [.ref (q 0)] (wP cy q M th kept far) (fun v w1 => v = some (.int (enc (M 18 0))) ∧ ∃ k' f', w1 = wP cy q M (0) k' f') := by
  refine Ct.ofI (by decide) (Nat.le_of_ble_eq_true rfl) rfl rfl (fun _ _ _ => rfl) ?_
  intro c X ret
  have hB := hF.bd (by omega)
  obtain ⟨w0, w1, w2, w3, w4⟩ := hF.r
  have h17 := hF.2.2.2.2.2.1
  have h172 := hF.2.2.2.2.2.2.1
  have h20 := hF.2.2.2.2.2.2.2.1
  refine Tlv (lv' := [(0, .ref (q 0))]) rfl ?_
  refine tw_aload_n X dX5_arrived_0 0 rfl rfl ?_
  refine tw_aload_n X dX5_arrived_1 0 rfl rfl ?_
  refine tw_callV X (As := []) (st := [.ref (q 0)]) vw_X5_129 (m_X5_came (q := q) M th kept far B hF (by omega)) ([]) ([]) rfl rfl (q0 := 0) rfl rfl rfl ⟨rfl, rfl, Nat.le_of_ble_eq_true rfl, Nat.le_of_ble_eq_true rfl⟩ ⟨Nat.le_of_ble_eq_true rfl, Nat.le_of_ble_eq_true rfl⟩ (Nat.le_of_ble_eq_true rfl) dX5_arrived_2 (fun v w1 hp => ?_)
  obtain ⟨rfl, rfl⟩ := hp
  refine Teq (ws' := wP cy q M th kept far) (lv' := [(0, .ref (q 0))]) (st' := [.int (enc (cntIn M (M 17 0).toNat)), .ref (q 0)]) rfl rfl rfl ?_
  refine Tst (st' := [.int (enc (M 18 0)), .ref (q 0)]) (by rw [hF.2.2.2.2.2.2.2.2.1]) ?_
  refine tw_callV X (As := [.int (enc (M 18 0))]) (st := []) vw_X5_136 (m_X5_told (q := q) M th kept far (M 18 0)) ([]) ([]) rfl rfl (q0 := 0) rfl rfl rfl ⟨rfl, rfl, Nat.le_of_ble_eq_true rfl, Nat.le_of_ble_eq_true rfl⟩ ⟨Nat.le_of_ble_eq_true rfl, Nat.le_of_ble_eq_true rfl⟩ (Nat.le_of_ble_eq_true rfl) dX5_arrived_5 (fun v w1 hp => ?_)
  obtain ⟨rfl, rfl⟩ := hp
  refine Teq (ws' := wP cy q M 0 kept far) (lv' := [(0, .ref (q 0))]) (st' := [.int (enc (M 18 0))]) rfl rfl rfl ?_
  exact ret _ _ _ _ dX5_arrived_8 ⟨rfl, _, _, rfl⟩
set_option maxRecDepth 100000 in
set_option maxHeartbeats 4000000 in
theorem m_X5_closedRoads {G : va_G} {cy : ClassId} {q : Nat → Nat} (M : MT) (th : Int) (kept far : Int → Int) (B : Int) (hF : WF M B) (hB2 : B ≤ 800000) : Ct G cy yX5_closedRoads cX5_closedRoads 1 (some .int) ({ frames := 3, cells := 0, slots := 0, locals := 65 } : Room) 0 0 [.ref (q 0)] (wP cy q M th kept far) (fun v w1 => v = some (.int (enc (cntC M (M 16 0).toNat))) ∧ ∃ k' f', w1 = wP cy q M (0) k' f') := by
  refine Ct.ofI (by decide) (Nat.le_of_ble_eq_true rfl) rfl rfl (fun _ _ _ => rfl) ?_
  intro c X ret
  have hB := hF.bd (by omega)
  obtain ⟨w0, w1, w2, w3, w4⟩ := hF.r
  have h17 := hF.2.2.2.2.2.1
  have h172 := hF.2.2.2.2.2.2.1
  have h20 := hF.2.2.2.2.2.2.2.1
  refine Tlv (lv' := [(0, .ref (q 0))]) rfl ?_
  refine tw_aload_n X dX5_closedRoads_0 0 rfl rfl ?_
  refine tw_aload_n X dX5_closedRoads_1 0 rfl rfl ?_
  refine tw_callV X (As := []) (st := [.ref (q 0)]) vw_X5_139 (m_X5_shut (q := q) M th kept far B hF hB2) ([]) ([]) rfl rfl (q0 := 0) rfl rfl rfl ⟨rfl, rfl, Nat.le_of_ble_eq_true rfl, Nat.le_of_ble_eq_true rfl⟩ ⟨Nat.le_of_ble_eq_true rfl, Nat.le_of_ble_eq_true rfl⟩ (Nat.le_of_ble_eq_true rfl) dX5_closedRoads_2 (fun v w1 hp => ?_)
  obtain ⟨rfl, rfl⟩ := hp
  refine Teq (ws' := wP cy q M th kept far) (lv' := [(0, .ref (q 0))]) (st' := [.int (enc (cntC M (M 16 0).toNat)), .ref (q 0)]) rfl rfl rfl ?_
  refine tw_callV X (As := [.int (enc (cntC M (M 16 0).toNat))]) (st := []) vw_X5_136 (m_X5_told (q := q) M th kept far (cntC M (M 16 0).toNat)) ([]) ([]) rfl rfl (q0 := 0) rfl rfl rfl ⟨rfl, rfl, Nat.le_of_ble_eq_true rfl, Nat.le_of_ble_eq_true rfl⟩ ⟨Nat.le_of_ble_eq_true rfl, Nat.le_of_ble_eq_true rfl⟩ (Nat.le_of_ble_eq_true rfl) dX5_closedRoads_5 (fun v w1 hp => ?_)
  obtain ⟨rfl, rfl⟩ := hp
  refine Teq (ws' := wP cy q M 0 kept far) (lv' := [(0, .ref (q 0))]) (st' := [.int (enc (cntC M (M 16 0).toNat))]) rfl rfl rfl ?_
  exact ret _ _ _ _ dX5_closedRoads_8 ⟨rfl, _, _, rfl⟩
set_option maxRecDepth 100000 in
set_option maxHeartbeats 4000000 in
theorem m_X5_allFrayed {G : va_G} {cy : ClassId} {q : Nat → Nat} (M : MT) (th : Int) (kept far : Int → Int) (B : Int) (hF : WF M B) (hB2 : B ≤ 800000) : Ct G cy yX5_allFrayed cX5_allFrayed 1 (some .int) ({ frames := 3, cells := 0, slots := 0, locals := 66 } : Room) 0 0 [.ref (q 0)] (wP cy q M th kept far) (fun v w1 => v = some (.int (enc (frI M (M 17 0).toNat))) ∧ ∃ k' f', w1 = wP cy q M (0) k' f') := by
  refine Ct.ofI (by decide) (Nat.le_of_ble_eq_true rfl) rfl rfl (fun _ _ _ => rfl) ?_
  intro c X ret
  have hB := hF.bd (by omega)
  obtain ⟨w0, w1, w2, w3, w4⟩ := hF.r
  have h17 := hF.2.2.2.2.2.1
  have h172 := hF.2.2.2.2.2.2.1
  have h20 := hF.2.2.2.2.2.2.2.1
  refine Tlv (lv' := [(0, .ref (q 0))]) rfl ?_
  refine tw_aload_n X dX5_allFrayed_0 0 rfl rfl ?_
  refine tw_aload_n X dX5_allFrayed_1 0 rfl rfl ?_
  refine tw_iconst X dX5_allFrayed_2 ?_
  refine tw_callV X (As := [.int (enc (0))]) (st := [.ref (q 0)]) vw_X5_148 (m_X5_frays_0 (q := q) M th kept far B hF (by omega)) ([]) ([]) rfl rfl (q0 := 0) rfl rfl rfl ⟨rfl, rfl, Nat.le_of_ble_eq_true rfl, Nat.le_of_ble_eq_true rfl⟩ ⟨Nat.le_of_ble_eq_true rfl, Nat.le_of_ble_eq_true rfl⟩ (Nat.le_of_ble_eq_true rfl) dX5_allFrayed_3 (fun v w1 hp => ?_)
  obtain ⟨rfl, rfl⟩ := hp
  refine Teq (ws' := wP cy q M th kept far) (lv' := [(0, .ref (q 0))]) (st' := [.int (enc (frI M (M 17 0).toNat)), .ref (q 0)]) rfl rfl rfl ?_
  refine tw_callV X (As := [.int (enc (frI M (M 17 0).toNat))]) (st := []) vw_X5_136 (m_X5_told (q := q) M th kept far (frI M (M 17 0).toNat)) ([]) ([]) rfl rfl (q0 := 0) rfl rfl rfl ⟨rfl, rfl, Nat.le_of_ble_eq_true rfl, Nat.le_of_ble_eq_true rfl⟩ ⟨Nat.le_of_ble_eq_true rfl, Nat.le_of_ble_eq_true rfl⟩ (Nat.le_of_ble_eq_true rfl) dX5_allFrayed_6 (fun v w1 hp => ?_)
  obtain ⟨rfl, rfl⟩ := hp
  refine Teq (ws' := wP cy q M 0 kept far) (lv' := [(0, .ref (q 0))]) (st' := [.int (enc (frI M (M 17 0).toNat))]) rfl rfl rfl ?_
  exact ret _ _ _ _ dX5_allFrayed_9 ⟨rfl, _, _, rfl⟩
set_option maxRecDepth 100000 in
set_option maxHeartbeats 4000000 in
theorem m_X5_mostWorn {G : va_G} {cy : ClassId} {q : Nat → Nat} (M : MT) (th : Int) (kept far : Int → Int) (B : Int) (hF : WF M B) (hB2 : B ≤ 800000) : Ct G cy yX5_mostWorn cX5_mostWorn 1 (some .int) ({ frames := 3, cells := 0, slots := 0, locals := 65 } : Room) 0 0 [.ref (q 0)] (wP cy q M th kept far) (fun v w1 => v = some (.int (enc ((mostW M (M 16 0).toNat).1))) ∧ ∃ k' f', w1 = wP cy q M (0) k' f') := by
  refine Ct.ofI (by decide) (Nat.le_of_ble_eq_true rfl) rfl rfl (fun _ _ _ => rfl) ?_
  intro c X ret
  have hB := hF.bd (by omega)
  obtain ⟨w0, w1, w2, w3, w4⟩ := hF.r
  have h17 := hF.2.2.2.2.2.1
  have h172 := hF.2.2.2.2.2.2.1
  have h20 := hF.2.2.2.2.2.2.2.1
  refine Tlv (lv' := [(0, .ref (q 0))]) rfl ?_
  refine tw_aload_n X dX5_mostWorn_0 0 rfl rfl ?_
  refine tw_aload_n X dX5_mostWorn_1 0 rfl rfl ?_
  refine tw_callV X (As := []) (st := [.ref (q 0)]) vw_X5_155 (m_X5_worn (q := q) M th kept far B hF hB2) ([]) ([]) rfl rfl (q0 := 0) rfl rfl rfl ⟨rfl, rfl, Nat.le_of_ble_eq_true rfl, Nat.le_of_ble_eq_true rfl⟩ ⟨Nat.le_of_ble_eq_true rfl, Nat.le_of_ble_eq_true rfl⟩ (Nat.le_of_ble_eq_true rfl) dX5_mostWorn_2 (fun v w1 hp => ?_)
  obtain ⟨rfl, rfl⟩ := hp
  refine Teq (ws' := wP cy q M th kept far) (lv' := [(0, .ref (q 0))]) (st' := [.int (enc ((mostW M (M 16 0).toNat).1)), .ref (q 0)]) rfl rfl rfl ?_
  refine tw_callV X (As := [.int (enc ((mostW M (M 16 0).toNat).1))]) (st := []) vw_X5_136 (m_X5_told (q := q) M th kept far ((mostW M (M 16 0).toNat).1)) ([]) ([]) rfl rfl (q0 := 0) rfl rfl rfl ⟨rfl, rfl, Nat.le_of_ble_eq_true rfl, Nat.le_of_ble_eq_true rfl⟩ ⟨Nat.le_of_ble_eq_true rfl, Nat.le_of_ble_eq_true rfl⟩ (Nat.le_of_ble_eq_true rfl) dX5_mostWorn_5 (fun v w1 hp => ?_)
  obtain ⟨rfl, rfl⟩ := hp
  refine Teq (ws' := wP cy q M 0 kept far) (lv' := [(0, .ref (q 0))]) (st' := [.int (enc ((mostW M (M 16 0).toNat).1))]) rfl rfl rfl ?_
  exact ret _ _ _ _ dX5_mostWorn_8 ⟨rfl, _, _, rfl⟩
set_option maxRecDepth 100000 in
set_option maxHeartbeats 4000000 in
theorem m_X5_partedPairs {G : va_G} {cy : ClassId} {q : Nat → Nat} (M : MT) (th : Int) (kept far : Int → Int) (B : Int) (hF : WF M B) (hB2 : B ≤ 800000) : Ct G cy yX5_partedPairs cX5_partedPairs 1 (some .int) ({ frames := 4, cells := 0, slots := 0, locals := 92 } : Room) 0 0 [.ref (q 0)] (wP cy q M th kept far) (fun v w1 => v = some (.int (enc (pdP M (M 19 0).toNat))) ∧ ∃ k' f', w1 = wP cy q M (0) k' f') := by
  refine Ct.ofI (by decide) (Nat.le_of_ble_eq_true rfl) rfl rfl (fun _ _ _ => rfl) ?_
  intro c X ret
  have hB := hF.bd (by omega)
  obtain ⟨w0, w1, w2, w3, w4⟩ := hF.r
  have h17 := hF.2.2.2.2.2.1
  have h172 := hF.2.2.2.2.2.2.1
  have h20 := hF.2.2.2.2.2.2.2.1
  refine Tlv (lv' := [(0, .ref (q 0))]) rfl ?_
  refine tw_aload_n X dX5_partedPairs_0 0 rfl rfl ?_
  refine tw_aload_n X dX5_partedPairs_1 0 rfl rfl ?_
  refine tw_callV X (As := []) (st := [.ref (q 0)]) vw_X5_161 (m_X5_parted (q := q) M th kept far B hF hB2) ([]) ([]) rfl rfl (q0 := 0) rfl rfl rfl ⟨rfl, rfl, Nat.le_of_ble_eq_true rfl, Nat.le_of_ble_eq_true rfl⟩ ⟨Nat.le_of_ble_eq_true rfl, Nat.le_of_ble_eq_true rfl⟩ (Nat.le_of_ble_eq_true rfl) dX5_partedPairs_2 (fun v w1 hp => ?_)
  obtain ⟨rfl, fp, rfl⟩ := hp
  refine Teq (ws' := wP cy q M th kept fp) (lv' := [(0, .ref (q 0))]) (st' := [.int (enc (pdP M (M 19 0).toNat)), .ref (q 0)]) rfl rfl rfl ?_
  refine tw_callV X (As := [.int (enc (pdP M (M 19 0).toNat))]) (st := []) vw_X5_136 (m_X5_told (q := q) M th kept fp (pdP M (M 19 0).toNat)) ([]) ([]) rfl rfl (q0 := 0) rfl rfl rfl ⟨rfl, rfl, Nat.le_of_ble_eq_true rfl, Nat.le_of_ble_eq_true rfl⟩ ⟨Nat.le_of_ble_eq_true rfl, Nat.le_of_ble_eq_true rfl⟩ (Nat.le_of_ble_eq_true rfl) dX5_partedPairs_5 (fun v w1 hp => ?_)
  obtain ⟨rfl, rfl⟩ := hp
  refine Teq (ws' := wP cy q M 0 kept fp) (lv' := [(0, .ref (q 0))]) (st' := [.int (enc (pdP M (M 19 0).toNat))]) rfl rfl rfl ?_
  exact ret _ _ _ _ dX5_partedPairs_8 ⟨rfl, _, _, rfl⟩
set_option maxRecDepth 100000 in
set_option maxHeartbeats 4000000 in
theorem m_X5_bestToMend {G : va_G} {cy : ClassId} {q : Nat → Nat} (M : MT) (th : Int) (kept far : Int → Int) (B : Int) (hF : WF M B) (hB2 : B ≤ 800000) : Ct G cy yX5_bestToMend cX5_bestToMend 1 (some .int) ({ frames := 8, cells := 0, slots := 0, locals := 185 } : Room) 0 0 [.ref (q 0)] (wP cy q M th kept far) (fun v w1 => v = some (.int (enc (bestM M))) ∧ ∃ k' f', w1 = wP cy q M (0) k' f') := by
  refine Ct.ofI (by decide) (Nat.le_of_ble_eq_true rfl) rfl rfl (fun _ _ _ => rfl) ?_
  intro c X ret
  have hB := hF.bd (by omega)
  obtain ⟨w0, w1, w2, w3, w4⟩ := hF.r
  have h17 := hF.2.2.2.2.2.1
  have h172 := hF.2.2.2.2.2.2.1
  have h20 := hF.2.2.2.2.2.2.2.1
  refine Tlv (lv' := [(0, .ref (q 0))]) rfl ?_
  refine tw_aload_n X dX5_bestToMend_0 0 rfl rfl ?_
  refine tw_aload_n X dX5_bestToMend_1 0 rfl rfl ?_
  refine tw_callV X (As := []) (st := [.ref (q 0)]) vw_X5_179 (m_X5_toMend (q := q) M th kept far B hF hB2) ([]) ([]) rfl rfl (q0 := 0) rfl rfl rfl ⟨rfl, rfl, Nat.le_of_ble_eq_true rfl, Nat.le_of_ble_eq_true rfl⟩ ⟨Nat.le_of_ble_eq_true rfl, Nat.le_of_ble_eq_true rfl⟩ (Nat.le_of_ble_eq_true rfl) dX5_bestToMend_2 (fun v w1 hp => ?_)
  obtain ⟨rfl, kb, fb, rfl⟩ := hp
  refine Teq (ws' := wP cy q M th kb fb) (lv' := [(0, .ref (q 0))]) (st' := [.int (enc (bestM M)), .ref (q 0)]) rfl rfl rfl ?_
  refine tw_callV X (As := [.int (enc (bestM M))]) (st := []) vw_X5_136 (m_X5_told (q := q) M th kb fb (bestM M)) ([]) ([]) rfl rfl (q0 := 0) rfl rfl rfl ⟨rfl, rfl, Nat.le_of_ble_eq_true rfl, Nat.le_of_ble_eq_true rfl⟩ ⟨Nat.le_of_ble_eq_true rfl, Nat.le_of_ble_eq_true rfl⟩ (Nat.le_of_ble_eq_true rfl) dX5_bestToMend_5 (fun v w1 hp => ?_)
  obtain ⟨rfl, rfl⟩ := hp
  refine Teq (ws' := wP cy q M 0 kb fb) (lv' := [(0, .ref (q 0))]) (st' := [.int (enc (bestM M))]) rfl rfl rfl ?_
  exact ret _ _ _ _ dX5_bestToMend_8 ⟨rfl, _, _, rfl⟩
set_option maxRecDepth 100000 in
set_option maxHeartbeats 4000000 in
theorem m_X5_meanLength {G : va_G} {cy : ClassId} {q : Nat → Nat} (M : MT) (th : Int) (kept far : Int → Int) (B : Int) (hF : WF M B) (hB2 : B ≤ 800000) : Ct G cy yX5_meanLength cX5_meanLength 3 (some .double) ({ frames := 2, cells := 0, slots := 0, locals := 43 } : Room) 0 0 [.ref (q 0)] (wP cy q M th kept far) (fun v w1 => v = some (.double (meanM M)) ∧ ∃ k' f', w1 = wP cy q M (0) k' f') := by
  refine Ct.ofD (by decide) (Nat.le_of_ble_eq_true rfl) rfl rfl ?_
  intro c X ret
  have hB := hF.bd (by omega)
  obtain ⟨w0, w1, w2, w3, w4⟩ := hF.r
  have h17 := hF.2.2.2.2.2.1
  have h172 := hF.2.2.2.2.2.2.1
  have h20 := hF.2.2.2.2.2.2.2.1
  refine Tlv (lv' := [(0, .ref (q 0))]) rfl ?_
  refine tw_aload_n X dX5_meanLength_0 0 rfl rfl ?_
  refine tw_iconst X dX5_meanLength_1 ?_
  refine pf_X5_40 X (ws' := wP cy q M (0) kept far) 0 rfl (Nat.le_of_ble_eq_true rfl) rfl rfl dX5_meanLength_2 rfl ?_
  refine tw_iconst X dX5_meanLength_5 ?_
  refine tw_istore_n (lv' := [(1, .int (enc (0))), (0, .ref (q 0))]) X dX5_meanLength_6 rfl (by decide) rfl ?_
  refine tw_iconst X dX5_meanLength_7 ?_
  refine tw_istore_n (lv' := [(2, .int (enc (0))), (1, .int (enc (0))), (0, .ref (q 0))]) X dX5_meanLength_8 rfl (by decide) rfl ?_
  have L9 : ∀ (fu i : Nat), (i : Int) ≤ M 16 0 → M 16 0 + 1 ≤ (i : Int) + fu → T G c ({ frames := 2, cells := 0, slots := 0, locals := 43 } : Room) 3 0 0 (wP cy q M 0 kept far) 9 [(0, .ref (q 0)), (1, .int (enc (sumL M i))), (2, .int (enc ((i : Int))))] [] := by
    intro fu
    induction fu with
    | zero =>
      intro i  hi0 hi1
      exact absurd hi1 (by omega)
    | succ fu ih9 =>
      intro i  hi0_9 hi1_9 
      refine tw_iload_n X dX5_meanLength_9 2 rfl rfl ?_
      refine tw_aload_n X dX5_meanLength_10 0 rfl rfl ?_
      refine gf_X5_51 X (v := .int (enc (M 16 0))) 0 rfl rfl dX5_meanLength_11 ?_
      have b1 := hB 16 0
      refine tw_icmp_ge (tgt := 31) X (In_of (by omega) (by omega)) (In_of (by omega) (by omega)) dX5_meanLength_14 (by decide) (fun c14 => ?_) (fun c14 => ?_)
      · skip
        refine tw_aload_n X dX5_meanLength_31 0 rfl rfl ?_
        refine gf_X5_51 X (v := .int (enc (M 16 0))) 0 rfl rfl dX5_meanLength_32 ?_
        have b2 := hB 16 0
        have ei : (M 16 0).toNat = i := by omega
        have hs := sumL_rng hF.r i (by omega)
        refine tw_if_ne (tgt := 42) X (In_of (by omega) (by omega)) dX5_meanLength_35 (by decide) (fun c35 => ?_) (fun c35 => ?_)
        · skip
          refine tw_iload_n X dX5_meanLength_42 1 rfl rfl ?_
          refine tw_i2d X dX5_meanLength_43 ?_
          refine tw_aload_n X dX5_meanLength_44 0 rfl rfl ?_
          refine gf_X5_51 X (v := .int (enc (M 16 0))) 0 rfl rfl dX5_meanLength_45 ?_
          have b3 := hB 16 0
          refine tw_i2d X dX5_meanLength_48 ?_
          refine tw_ddiv X (nan_ok (by omega) (by omega)) dX5_meanLength_49 ?_
          exact ret _ _ _ _ dX5_meanLength_50 (by refine ⟨?_, _, _, rfl⟩; unfold meanM; first | (rw [if_pos c35]; done) | (rw [if_neg c35, ei]; done))
        · skip
          refine tw_dconst0 X dX5_meanLength_38 ?_
          refine tw_goto (tgt := 50) X dX5_meanLength_39 (by decide) ?_
          exact ret _ _ _ _ dX5_meanLength_50 (by refine ⟨?_, _, _, rfl⟩; unfold meanM; first | (rw [if_pos c35]; done) | (rw [if_neg c35, ei]; done))
      · skip
        refine tw_iload_n X dX5_meanLength_17 1 rfl rfl ?_
        refine tw_aload_n X dX5_meanLength_18 0 rfl rfl ?_
        refine tw_iload_n X dX5_meanLength_19 2 rfl rfl ?_
        refine tw_callV X (As := [.int (enc ((i : Int)))]) (st := [.int (enc (sumL M i))]) vw_X5_74 (m_X5_longNow (q := q) M 0 kept far ((i : Int)) (by omega)) ([]) ([]) rfl rfl (q0 := 0) rfl rfl rfl ⟨rfl, rfl, Nat.le_of_ble_eq_true rfl, Nat.le_of_ble_eq_true rfl⟩ ⟨Nat.le_of_ble_eq_true rfl, Nat.le_of_ble_eq_true rfl⟩ (Nat.le_of_ble_eq_true rfl) dX5_meanLength_20 (fun v w1 hp => ?_)
        obtain ⟨rfl, rfl⟩ := hp
        refine Teq (ws' := wP cy q M 0 kept far) (lv' := [(0, .ref (q 0)), (1, .int (enc (sumL M i))), (2, .int (enc ((i : Int))))]) (st' := [.int (enc (len M (i : Int))), .int (enc (sumL M i))]) rfl rfl rfl ?_
        refine tw_iadd (z := (sumL M i) + (len M (i : Int))) X dX5_meanLength_23 rfl ?_
        refine tw_istore_n (lv' := [(1, .int (enc ((sumL M i) + (len M (i : Int))))), (0, .ref (q 0)), (2, .int (enc ((i : Int))))]) X dX5_meanLength_24 rfl (by decide) rfl ?_
        refine tw_iinc (q := 2) (x := (i : Int)) (y := (i : Int) + 1) (lv' := [(2, .int (enc ((i : Int) + 1))), (1, .int (enc ((sumL M i) + (len M (i : Int))))), (0, .ref (q 0))]) X dX5_meanLength_25 rfl rfl (by decide) rfl ?_
        refine tw_goto (tgt := 9) X dX5_meanLength_28 (by decide) ?_
        refine Tsub (lv' := [(0, .ref (q 0)), (1, .int (enc ((sumL M i) + (len M (i : Int))))), (2, .int (enc ((i : Int) + 1)))]) [2, 1, 0] rfl ?_
        refine Teq (ws' := wP cy q M 0 kept far) (lv' := [(0, .ref (q 0)), (1, .int (enc (sumL M (i + 1)))), (2, .int (enc (((i + 1 : Nat) : Int))))]) (st' := []) (rfl) (lvk (lvc (by rw [sumL_s]) (lvc (i_succ i) (rfl)))) rfl (ih9 (i + 1) (by omega) (by omega))
  refine Tsub (lv' := [(0, .ref (q 0)), (1, .int (enc (0))), (2, .int (enc (0)))]) [2, 1, 0] rfl ?_
  refine Teq (ws' := wP cy q M 0 kept far) (lv' := [(0, .ref (q 0)), (1, .int (enc (sumL M 0))), (2, .int (enc (((0 : Nat) : Int))))]) (st' := []) (rfl) (rfl) rfl (L9 (M 16 0 + 1).toNat 0 (by omega) (by omega))
set_option maxRecDepth 100000 in
set_option maxHeartbeats 4000000 in
theorem m_X5_lengthOf {G : va_G} {cy : ClassId} {q : Nat → Nat} (M : MT) (th : Int) (kept far : Int → Int) (x : Int) (hx : In x) (B : Int) (hF : WF M B) (hB2 : B ≤ 800000) : Ct G cy yX5_lengthOf cX5_lengthOf 2 (some .int) ({ frames := 2, cells := 0, slots := 0, locals := 43 } : Room) 0 0 [.ref (q 0), .int (enc (x))] (wP cy q M th kept far) (fun v w1 => v = some (.int (enc (if kR M x = 0 then len M x else 0))) ∧ ∃ k' f', w1 = wP cy q M (kR M x) k' f') := by
  refine Ct.ofI (by decide) (Nat.le_of_ble_eq_true rfl) rfl rfl (fun _ _ _ => rfl) ?_
  intro c X ret
  have hB := hF.bd (by omega)
  obtain ⟨w0, w1, w2, w3, w4⟩ := hF.r
  have h17 := hF.2.2.2.2.2.1
  have h172 := hF.2.2.2.2.2.2.1
  have h20 := hF.2.2.2.2.2.2.2.1
  refine Tlv (lv' := [(0, .ref (q 0)), (1, .int (enc (x)))]) rfl ?_
  refine tw_aload_n X dX5_lengthOf_0 0 rfl rfl ?_
  refine tw_iconst X dX5_lengthOf_1 ?_
  refine pf_X5_40 X (ws' := wP cy q M (0) kept far) 0 rfl (Nat.le_of_ble_eq_true rfl) rfl rfl dX5_lengthOf_2 rfl ?_
  refine tw_aload_n X dX5_lengthOf_5 0 rfl rfl ?_
  refine tw_iload_n X dX5_lengthOf_6 1 rfl rfl ?_
  refine tw_callV X (As := [.int (enc (x))]) (st := []) vw_X5_126 (m_X5_isRoad (q := q) M (0) kept far (x) hx hB) ([]) ([]) rfl rfl (q0 := 0) rfl rfl rfl ⟨rfl, rfl, Nat.le_of_ble_eq_true rfl, Nat.le_of_ble_eq_true rfl⟩ ⟨Nat.le_of_ble_eq_true rfl, Nat.le_of_ble_eq_true rfl⟩ (Nat.le_of_ble_eq_true rfl) dX5_lengthOf_7 (fun v w1 hp => ?_)
  obtain ⟨rfl, rfl⟩ := hp
  refine Teq (ws' := wP cy q M (0) kept far) (lv' := [(0, .ref (q 0)), (1, .int (enc (x)))]) (st' := [.int (enc (if 0 ≤ x ∧ x ≤ M 16 0 - 1 then 1 else 0))]) rfl rfl rfl ?_
  refine tw_if_eq (tgt := 21) X In_b dX5_lengthOf_10 (by decide) (fun c10 => ?_) (fun c10 => ?_)
  · skip
    have c10 := b01.mp c10
    have hk : kR M x = 1 := if_neg c10
    refine tw_aload_n X dX5_lengthOf_21 0 rfl rfl ?_
    refine tw_iconst X dX5_lengthOf_22 ?_
    refine tw_callV X (As := [.int (enc (1))]) (st := []) vw_X5_116 (m_X5_fail (q := q) M (0) kept far (1)) ([]) ([]) rfl rfl (q0 := 0) rfl rfl rfl ⟨rfl, rfl, Nat.le_of_ble_eq_true rfl, Nat.le_of_ble_eq_true rfl⟩ ⟨Nat.le_of_ble_eq_true rfl, Nat.le_of_ble_eq_true rfl⟩ (Nat.le_of_ble_eq_true rfl) dX5_lengthOf_23 (fun v w1 hp => ?_)
    obtain ⟨rfl, rfl⟩ := hp
    refine Teq (ws' := wP cy q M 1 kept far) (lv' := [(0, .ref (q 0)), (1, .int (enc (x)))]) (st' := [.int (enc (0))]) rfl rfl rfl ?_
    exact ret _ _ _ _ dX5_lengthOf_26 (by first | exact ⟨ansY hk, exP hk⟩ | exact ⟨ansN hk (by decide), exP hk⟩)
  · skip
    have c10 := b01n.mp c10
    have hk : kR M x = 0 := if_pos c10
    refine tw_aload_n X dX5_lengthOf_13 0 rfl rfl ?_
    refine tw_iload_n X dX5_lengthOf_14 1 rfl rfl ?_
    refine tw_callV X (As := [.int (enc (x))]) (st := []) vw_X5_74 (m_X5_longNow (q := q) M (0) kept far (x) (by omega)) ([]) ([]) rfl rfl (q0 := 0) rfl rfl rfl ⟨rfl, rfl, Nat.le_of_ble_eq_true rfl, Nat.le_of_ble_eq_true rfl⟩ ⟨Nat.le_of_ble_eq_true rfl, Nat.le_of_ble_eq_true rfl⟩ (Nat.le_of_ble_eq_true rfl) dX5_lengthOf_15 (fun v w1 hp => ?_)
    obtain ⟨rfl, rfl⟩ := hp
    refine Teq (ws' := wP cy q M (0) kept far) (lv' := [(0, .ref (q 0)), (1, .int (enc (x)))]) (st' := [.int (enc (len M x))]) rfl rfl rfl ?_
    refine tw_goto (tgt := 26) X dX5_lengthOf_18 (by decide) ?_
    exact ret _ _ _ _ dX5_lengthOf_26 (by first | exact ⟨ansY hk, exP hk⟩ | exact ⟨ansN hk (by decide), exP hk⟩)
set_option maxRecDepth 100000 in
set_option maxHeartbeats 4000000 in
theorem m_X5_touristsOn {G : va_G} {cy : ClassId} {q : Nat → Nat} (M : MT) (th : Int) (kept far : Int → Int) (x : Int) (hx : In x) (B : Int) (hF : WF M B) (hB2 : B ≤ 800000) : Ct G cy yX5_touristsOn cX5_touristsOn 2 (some .int) ({ frames := 2, cells := 0, slots := 0, locals := 45 } : Room) 0 0 [.ref (q 0), .int (enc (x))] (wP cy q M th kept far) (fun v w1 => v = some (.int (enc (if kR M x = 0 then onR M x (M 17 0).toNat else 0))) ∧ ∃ k' f', w1 = wP cy q M (kR M x) k' f') := by
  refine Ct.ofI (by decide) (Nat.le_of_ble_eq_true rfl) rfl rfl (fun _ _ _ => rfl) ?_
  intro c X ret
  have hB := hF.bd (by omega)
  obtain ⟨w0, w1, w2, w3, w4⟩ := hF.r
  have h17 := hF.2.2.2.2.2.1
  have h172 := hF.2.2.2.2.2.2.1
  have h20 := hF.2.2.2.2.2.2.2.1
  refine Tlv (lv' := [(0, .ref (q 0)), (1, .int (enc (x)))]) rfl ?_
  refine tw_aload_n X dX5_touristsOn_0 0 rfl rfl ?_
  refine tw_iconst X dX5_touristsOn_1 ?_
  refine pf_X5_40 X (ws' := wP cy q M (0) kept far) 0 rfl (Nat.le_of_ble_eq_true rfl) rfl rfl dX5_touristsOn_2 rfl ?_
  refine tw_aload_n X dX5_touristsOn_5 0 rfl rfl ?_
  refine tw_iload_n X dX5_touristsOn_6 1 rfl rfl ?_
  refine tw_callV X (As := [.int (enc (x))]) (st := []) vw_X5_126 (m_X5_isRoad (q := q) M (0) kept far (x) hx hB) ([]) ([]) rfl rfl (q0 := 0) rfl rfl rfl ⟨rfl, rfl, Nat.le_of_ble_eq_true rfl, Nat.le_of_ble_eq_true rfl⟩ ⟨Nat.le_of_ble_eq_true rfl, Nat.le_of_ble_eq_true rfl⟩ (Nat.le_of_ble_eq_true rfl) dX5_touristsOn_7 (fun v w1 hp => ?_)
  obtain ⟨rfl, rfl⟩ := hp
  refine Teq (ws' := wP cy q M (0) kept far) (lv' := [(0, .ref (q 0)), (1, .int (enc (x)))]) (st' := [.int (enc (if 0 ≤ x ∧ x ≤ M 16 0 - 1 then 1 else 0))]) rfl rfl rfl ?_
  refine tw_if_eq (tgt := 21) X In_b dX5_touristsOn_10 (by decide) (fun c10 => ?_) (fun c10 => ?_)
  · skip
    have c10 := b01.mp c10
    have hk : kR M x = 1 := if_neg c10
    refine tw_aload_n X dX5_touristsOn_21 0 rfl rfl ?_
    refine tw_iconst X dX5_touristsOn_22 ?_
    refine tw_callV X (As := [.int (enc (1))]) (st := []) vw_X5_116 (m_X5_fail (q := q) M (0) kept far (1)) ([]) ([]) rfl rfl (q0 := 0) rfl rfl rfl ⟨rfl, rfl, Nat.le_of_ble_eq_true rfl, Nat.le_of_ble_eq_true rfl⟩ ⟨Nat.le_of_ble_eq_true rfl, Nat.le_of_ble_eq_true rfl⟩ (Nat.le_of_ble_eq_true rfl) dX5_touristsOn_23 (fun v w1 hp => ?_)
    obtain ⟨rfl, rfl⟩ := hp
    refine Teq (ws' := wP cy q M 1 kept far) (lv' := [(0, .ref (q 0)), (1, .int (enc (x)))]) (st' := [.int (enc (0))]) rfl rfl rfl ?_
    exact ret _ _ _ _ dX5_touristsOn_26 (by first | exact ⟨ansY hk, exP hk⟩ | exact ⟨ansN hk (by decide), exP hk⟩)
  · skip
    have c10 := b01n.mp c10
    have hk : kR M x = 0 := if_pos c10
    refine tw_aload_n X dX5_touristsOn_13 0 rfl rfl ?_
    refine tw_iload_n X dX5_touristsOn_14 1 rfl rfl ?_
    refine tw_callV X (As := [.int (enc (x))]) (st := []) vw_X5_110 (m_X5_on (q := q) M (0) kept far (x) hB (by omega) (by omega)) ([]) ([]) rfl rfl (q0 := 0) rfl rfl rfl ⟨rfl, rfl, Nat.le_of_ble_eq_true rfl, Nat.le_of_ble_eq_true rfl⟩ ⟨Nat.le_of_ble_eq_true rfl, Nat.le_of_ble_eq_true rfl⟩ (Nat.le_of_ble_eq_true rfl) dX5_touristsOn_15 (fun v w1 hp => ?_)
    obtain ⟨rfl, rfl⟩ := hp
    refine Teq (ws' := wP cy q M (0) kept far) (lv' := [(0, .ref (q 0)), (1, .int (enc (x)))]) (st' := [.int (enc (onR M x (M 17 0).toNat))]) rfl rfl rfl ?_
    refine tw_goto (tgt := 26) X dX5_touristsOn_18 (by decide) ?_
    exact ret _ _ _ _ dX5_touristsOn_26 (by first | exact ⟨ansY hk, exP hk⟩ | exact ⟨ansN hk (by decide), exP hk⟩)
set_option maxRecDepth 100000 in
set_option maxHeartbeats 4000000 in
theorem m_X5_frayOf {G : va_G} {cy : ClassId} {q : Nat → Nat} (M : MT) (th : Int) (kept far : Int → Int) (x : Int) (hx : In x) (B : Int) (hF : WF M B) (hB2 : B ≤ 800000) : Ct G cy yX5_frayOf cX5_frayOf 2 (some .int) ({ frames := 2, cells := 0, slots := 0, locals := 43 } : Room) 0 0 [.ref (q 0), .int (enc (x))] (wP cy q M th kept far) (fun v w1 => v = some (.int (enc (if kT M x = 0 then frayAt M x (M 20 0) else 0))) ∧ ∃ k' f', w1 = wP cy q M (kT M x) k' f') := by
  refine Ct.ofI (by decide) (Nat.le_of_ble_eq_true rfl) rfl rfl (fun _ _ _ => rfl) ?_
  intro c X ret
  have hB := hF.bd (by omega)
  obtain ⟨w0, w1, w2, w3, w4⟩ := hF.r
  have h17 := hF.2.2.2.2.2.1
  have h172 := hF.2.2.2.2.2.2.1
  have h20 := hF.2.2.2.2.2.2.2.1
  refine Tlv (lv' := [(0, .ref (q 0)), (1, .int (enc (x)))]) rfl ?_
  refine tw_aload_n X dX5_frayOf_0 0 rfl rfl ?_
  refine tw_iconst X dX5_frayOf_1 ?_
  refine pf_X5_40 X (ws' := wP cy q M (0) kept far) 0 rfl (Nat.le_of_ble_eq_true rfl) rfl rfl dX5_frayOf_2 rfl ?_
  refine tw_aload_n X dX5_frayOf_5 0 rfl rfl ?_
  refine tw_iload_n X dX5_frayOf_6 1 rfl rfl ?_
  refine tw_callV X (As := [.int (enc (x))]) (st := []) vw_X5_164 (m_X5_isTourist (q := q) M (0) kept far (x) hx hB) ([]) ([]) rfl rfl (q0 := 0) rfl rfl rfl ⟨rfl, rfl, Nat.le_of_ble_eq_true rfl, Nat.le_of_ble_eq_true rfl⟩ ⟨Nat.le_of_ble_eq_true rfl, Nat.le_of_ble_eq_true rfl⟩ (Nat.le_of_ble_eq_true rfl) dX5_frayOf_7 (fun v w1 hp => ?_)
  obtain ⟨rfl, rfl⟩ := hp
  refine Teq (ws' := wP cy q M (0) kept far) (lv' := [(0, .ref (q 0)), (1, .int (enc (x)))]) (st' := [.int (enc (if 0 ≤ x ∧ x ≤ M 17 0 - 1 then 1 else 0))]) rfl rfl rfl ?_
  refine tw_if_eq (tgt := 21) X In_b dX5_frayOf_10 (by decide) (fun c10 => ?_) (fun c10 => ?_)
  · skip
    have c10 := b01.mp c10
    have hk : kT M x = 1 := if_neg c10
    refine tw_aload_n X dX5_frayOf_21 0 rfl rfl ?_
    refine tw_iconst X dX5_frayOf_22 ?_
    refine tw_callV X (As := [.int (enc (1))]) (st := []) vw_X5_116 (m_X5_fail (q := q) M (0) kept far (1)) ([]) ([]) rfl rfl (q0 := 0) rfl rfl rfl ⟨rfl, rfl, Nat.le_of_ble_eq_true rfl, Nat.le_of_ble_eq_true rfl⟩ ⟨Nat.le_of_ble_eq_true rfl, Nat.le_of_ble_eq_true rfl⟩ (Nat.le_of_ble_eq_true rfl) dX5_frayOf_23 (fun v w1 hp => ?_)
    obtain ⟨rfl, rfl⟩ := hp
    refine Teq (ws' := wP cy q M 1 kept far) (lv' := [(0, .ref (q 0)), (1, .int (enc (x)))]) (st' := [.int (enc (0))]) rfl rfl rfl ?_
    exact ret _ _ _ _ dX5_frayOf_26 (by first | exact ⟨ansY hk, exP hk⟩ | exact ⟨ansN hk (by decide), exP hk⟩)
  · skip
    have c10 := b01n.mp c10
    have hk : kT M x = 0 := if_pos c10
    refine tw_aload_n X dX5_frayOf_13 0 rfl rfl ?_
    refine tw_iload_n X dX5_frayOf_14 1 rfl rfl ?_
    refine tw_callV X (As := [.int (enc (x))]) (st := []) vw_X5_145 (m_X5_fray (q := q) M (0) kept far (x) B hF (by omega) (by omega)) ([]) ([]) rfl rfl (q0 := 0) rfl rfl rfl ⟨rfl, rfl, Nat.le_of_ble_eq_true rfl, Nat.le_of_ble_eq_true rfl⟩ ⟨Nat.le_of_ble_eq_true rfl, Nat.le_of_ble_eq_true rfl⟩ (Nat.le_of_ble_eq_true rfl) dX5_frayOf_15 (fun v w1 hp => ?_)
    obtain ⟨rfl, rfl⟩ := hp
    refine Teq (ws' := wP cy q M (0) kept far) (lv' := [(0, .ref (q 0)), (1, .int (enc (x)))]) (st' := [.int (enc (frayAt M x (M 20 0)))]) rfl rfl rfl ?_
    refine tw_goto (tgt := 26) X dX5_frayOf_18 (by decide) ?_
    exact ret _ _ _ _ dX5_frayOf_26 (by first | exact ⟨ansY hk, exP hk⟩ | exact ⟨ansN hk (by decide), exP hk⟩)
set_option maxRecDepth 100000 in
set_option maxHeartbeats 4000000 in
theorem m_X5_hoursUntilArrived {G : va_G} {cy : ClassId} {q : Nat → Nat} (M : MT) (th : Int) (kept far : Int → Int) (x : Int) (hx : In x) (B : Int) (hF : WF M B) (hB2 : B ≤ 800000) : Ct G cy yX5_hoursUntilArrived cX5_hoursUntilArrived 2 (some .int) ({ frames := 7, cells := 0, slots := 0, locals := 161 } : Room) 0 0 [.ref (q 0), .int (enc (x))] (wP cy q M th kept far) (fun v w1 => v = some (.int (enc (if kT M x = 0 then untilM M x else 0))) ∧ ∃ k' f', w1 = wP cy q M (kT M x) k' f') := by
  refine Ct.ofI (by decide) (Nat.le_of_ble_eq_true rfl) rfl rfl (fun _ _ _ => rfl) ?_
  intro c X ret
  have hB := hF.bd (by omega)
  obtain ⟨w0, w1, w2, w3, w4⟩ := hF.r
  have h17 := hF.2.2.2.2.2.1
  have h172 := hF.2.2.2.2.2.2.1
  have h20 := hF.2.2.2.2.2.2.2.1
  refine Tlv (lv' := [(0, .ref (q 0)), (1, .int (enc (x)))]) rfl ?_
  refine tw_aload_n X dX5_hoursUntilArrived_0 0 rfl rfl ?_
  refine tw_iconst X dX5_hoursUntilArrived_1 ?_
  refine pf_X5_40 X (ws' := wP cy q M (0) kept far) 0 rfl (Nat.le_of_ble_eq_true rfl) rfl rfl dX5_hoursUntilArrived_2 rfl ?_
  refine tw_aload_n X dX5_hoursUntilArrived_5 0 rfl rfl ?_
  refine tw_iload_n X dX5_hoursUntilArrived_6 1 rfl rfl ?_
  refine tw_callV X (As := [.int (enc (x))]) (st := []) vw_X5_164 (m_X5_isTourist (q := q) M (0) kept far (x) hx hB) ([]) ([]) rfl rfl (q0 := 0) rfl rfl rfl ⟨rfl, rfl, Nat.le_of_ble_eq_true rfl, Nat.le_of_ble_eq_true rfl⟩ ⟨Nat.le_of_ble_eq_true rfl, Nat.le_of_ble_eq_true rfl⟩ (Nat.le_of_ble_eq_true rfl) dX5_hoursUntilArrived_7 (fun v w1 hp => ?_)
  obtain ⟨rfl, rfl⟩ := hp
  refine Teq (ws' := wP cy q M (0) kept far) (lv' := [(0, .ref (q 0)), (1, .int (enc (x)))]) (st' := [.int (enc (if 0 ≤ x ∧ x ≤ M 17 0 - 1 then 1 else 0))]) rfl rfl rfl ?_
  refine tw_if_eq (tgt := 21) X In_b dX5_hoursUntilArrived_10 (by decide) (fun c10 => ?_) (fun c10 => ?_)
  · skip
    have c10 := b01.mp c10
    have hk : kT M x = 1 := if_neg c10
    refine tw_aload_n X dX5_hoursUntilArrived_21 0 rfl rfl ?_
    refine tw_iconst X dX5_hoursUntilArrived_22 ?_
    refine tw_callV X (As := [.int (enc (1))]) (st := []) vw_X5_116 (m_X5_fail (q := q) M (0) kept far (1)) ([]) ([]) rfl rfl (q0 := 0) rfl rfl rfl ⟨rfl, rfl, Nat.le_of_ble_eq_true rfl, Nat.le_of_ble_eq_true rfl⟩ ⟨Nat.le_of_ble_eq_true rfl, Nat.le_of_ble_eq_true rfl⟩ (Nat.le_of_ble_eq_true rfl) dX5_hoursUntilArrived_23 (fun v w1 hp => ?_)
    obtain ⟨rfl, rfl⟩ := hp
    refine Teq (ws' := wP cy q M 1 kept far) (lv' := [(0, .ref (q 0)), (1, .int (enc (x)))]) (st' := [.int (enc (0))]) rfl rfl rfl ?_
    exact ret _ _ _ _ dX5_hoursUntilArrived_26 (by first | exact ⟨ansY hk, exP hk⟩ | exact ⟨ansN hk (by decide), exP hk⟩)
  · skip
    have c10 := b01n.mp c10
    have hk : kT M x = 0 := if_pos c10
    refine tw_aload_n X dX5_hoursUntilArrived_13 0 rfl rfl ?_
    refine tw_iload_n X dX5_hoursUntilArrived_14 1 rfl rfl ?_
    refine tw_callV X (As := [.int (enc (x))]) (st := []) vw_X5_176 (m_X5_until (q := q) M (0) kept far (x) B hF hB2 (by omega)) ([]) ([]) rfl rfl (q0 := 0) rfl rfl rfl ⟨rfl, rfl, Nat.le_of_ble_eq_true rfl, Nat.le_of_ble_eq_true rfl⟩ ⟨Nat.le_of_ble_eq_true rfl, Nat.le_of_ble_eq_true rfl⟩ (Nat.le_of_ble_eq_true rfl) dX5_hoursUntilArrived_15 (fun v w1 hp => ?_)
    obtain ⟨rfl, ku2, fu2, rfl⟩ := hp
    refine Teq (ws' := wP cy q M (0) ku2 fu2) (lv' := [(0, .ref (q 0)), (1, .int (enc (x)))]) (st' := [.int (enc (untilM M x))]) rfl rfl rfl ?_
    refine tw_goto (tgt := 26) X dX5_hoursUntilArrived_18 (by decide) ?_
    exact ret _ _ _ _ dX5_hoursUntilArrived_26 (by first | exact ⟨ansY hk, exP hk⟩ | exact ⟨ansN hk (by decide), exP hk⟩)
set_option maxRecDepth 100000 in
set_option maxHeartbeats 4000000 in
theorem m_X5_road_1 {G : va_G} {cy : ClassId} {q : Nat → Nat} (M : MT) (th : Int) (kept far : Int → Int) (x : Int) (hx : In x) (B : Int) (hF : WF M B) (hB2 : B ≤ 800000) : Ct G cy yX5_road cX5_road 3 (some .int) ({ frames := 2, cells := 0, slots := 0, locals := 43 } : Room) 0 0 [.ref (q 0), .int (enc (x)), .int (enc (1))] (wP cy q M th kept far) (fun v w1 => v = some (.int (enc (if kR M x = 0 then M 4 x else 0))) ∧ ∃ k' f', w1 = wP cy q M (kR M x) k' f') := by
  refine Ct.ofI (by decide) (Nat.le_of_ble_eq_true rfl) rfl rfl (fun _ _ _ => rfl) ?_
  intro c X ret
  have hB := hF.bd (by omega)
  obtain ⟨w0, w1, w2, w3, w4⟩ := hF.r
  have h17 := hF.2.2.2.2.2.1
  have h172 := hF.2.2.2.2.2.2.1
  have h20 := hF.2.2.2.2.2.2.2.1
  refine Tlv (lv' := [(0, .ref (q 0)), (1, .int (enc (x))), (2, .int (enc (1)))]) rfl ?_
  refine tw_aload_n X dX5_road_0 0 rfl rfl ?_
  refine tw_iconst X dX5_road_1 ?_
  refine pf_X5_40 X (ws' := wP cy q M (0) kept far) 0 rfl (Nat.le_of_ble_eq_true rfl) rfl rfl dX5_road_2 rfl ?_
  refine tw_aload_n X dX5_road_5 0 rfl rfl ?_
  refine tw_iload_n X dX5_road_6 1 rfl rfl ?_
  refine tw_callV X (As := [.int (enc (x))]) (st := []) vw_X5_126 (m_X5_isRoad (q := q) M (0) kept far (x) hx hB) ([]) ([]) rfl rfl (q0 := 0) rfl rfl rfl ⟨rfl, rfl, Nat.le_of_ble_eq_true rfl, Nat.le_of_ble_eq_true rfl⟩ ⟨Nat.le_of_ble_eq_true rfl, Nat.le_of_ble_eq_true rfl⟩ (Nat.le_of_ble_eq_true rfl) dX5_road_7 (fun v w1 hp => ?_)
  obtain ⟨rfl, rfl⟩ := hp
  refine Teq (ws' := wP cy q M (0) kept far) (lv' := [(0, .ref (q 0)), (1, .int (enc (x))), (2, .int (enc (1)))]) (st' := [.int (enc (if 0 ≤ x ∧ x ≤ M 16 0 - 1 then 1 else 0))]) rfl rfl rfl ?_
  refine tw_if_eq (tgt := 22) X In_b dX5_road_10 (by decide) (fun c10 => ?_) (fun c10 => ?_)
  · skip
    have c10 := b01.mp c10
    have hk : kR M x = 1 := if_neg c10
    refine tw_aload_n X dX5_road_22 0 rfl rfl ?_
    refine tw_iconst X dX5_road_23 ?_
    refine tw_callV X (As := [.int (enc (1))]) (st := []) vw_X5_116 (m_X5_fail (q := q) M (0) kept far (1)) ([]) ([]) rfl rfl (q0 := 0) rfl rfl rfl ⟨rfl, rfl, Nat.le_of_ble_eq_true rfl, Nat.le_of_ble_eq_true rfl⟩ ⟨Nat.le_of_ble_eq_true rfl, Nat.le_of_ble_eq_true rfl⟩ (Nat.le_of_ble_eq_true rfl) dX5_road_24 (fun v w1 hp => ?_)
    obtain ⟨rfl, rfl⟩ := hp
    refine Teq (ws' := wP cy q M 1 kept far) (lv' := [(0, .ref (q 0)), (1, .int (enc (x))), (2, .int (enc (1)))]) (st' := [.int (enc (0))]) rfl rfl rfl ?_
    exact ret _ _ _ _ dX5_road_27 (by first | exact ⟨ansY hk, exP hk⟩ | exact ⟨ansN hk (by decide), exP hk⟩)
  · skip
    have c10 := b01n.mp c10
    have hk : kR M x = 0 := if_pos c10
    refine tw_aload_n X dX5_road_13 0 rfl rfl ?_
    refine tw_iload_n X dX5_road_14 1 rfl rfl ?_
    refine tw_iload_n X dX5_road_15 2 rfl rfl ?_
    refine tw_callV X (As := [.int (enc (x)), .int (enc (1))]) (st := []) vw_X5_63 (m_X5_ro_1 (q := q) M (0) kept far (x) (by omega)) ([]) ([]) rfl rfl (q0 := 0) rfl rfl rfl ⟨rfl, rfl, Nat.le_of_ble_eq_true rfl, Nat.le_of_ble_eq_true rfl⟩ ⟨Nat.le_of_ble_eq_true rfl, Nat.le_of_ble_eq_true rfl⟩ (Nat.le_of_ble_eq_true rfl) dX5_road_16 (fun v w1 hp => ?_)
    obtain ⟨rfl, rfl⟩ := hp
    refine Teq (ws' := wP cy q M (0) kept far) (lv' := [(0, .ref (q 0)), (1, .int (enc (x))), (2, .int (enc (1)))]) (st' := [.int (enc (M 4 x))]) rfl rfl rfl ?_
    have b1 := hB 4 x
    refine tw_goto (tgt := 27) X dX5_road_19 (by decide) ?_
    exact ret _ _ _ _ dX5_road_27 (by first | exact ⟨ansY hk, exP hk⟩ | exact ⟨ansN hk (by decide), exP hk⟩)
set_option maxRecDepth 100000 in
set_option maxHeartbeats 4000000 in
theorem m_X5_wearOf {G : va_G} {cy : ClassId} {q : Nat → Nat} (M : MT) (th : Int) (kept far : Int → Int) (x : Int) (hx : In x) (B : Int) (hF : WF M B) (hB2 : B ≤ 800000) : Ct G cy yX5_wearOf cX5_wearOf 2 (some .int) ({ frames := 3, cells := 0, slots := 0, locals := 65 } : Room) 0 0 [.ref (q 0), .int (enc (x))] (wP cy q M th kept far) (fun v w1 => v = some (.int (enc (if kR M x = 0 then M 4 x else 0))) ∧ ∃ k' f', w1 = wP cy q M (kR M x) k' f') := by
  refine Ct.ofI (by decide) (Nat.le_of_ble_eq_true rfl) rfl rfl (fun _ _ _ => rfl) ?_
  intro c X ret
  have hB := hF.bd (by omega)
  obtain ⟨w0, w1, w2, w3, w4⟩ := hF.r
  have h17 := hF.2.2.2.2.2.1
  have h172 := hF.2.2.2.2.2.2.1
  have h20 := hF.2.2.2.2.2.2.2.1
  refine Tlv (lv' := [(0, .ref (q 0)), (1, .int (enc (x)))]) rfl ?_
  refine tw_aload_n X dX5_wearOf_0 0 rfl rfl ?_
  refine tw_iload_n X dX5_wearOf_1 1 rfl rfl ?_
  refine tw_iconst X dX5_wearOf_2 ?_
  refine tw_callV X (As := [.int (enc (x)), .int (enc (1))]) (st := []) vw_X5_152 (m_X5_road_1 (q := q) M th kept far (x) hx B hF hB2) ([]) ([]) rfl rfl (q0 := 0) rfl rfl rfl ⟨rfl, rfl, Nat.le_of_ble_eq_true rfl, Nat.le_of_ble_eq_true rfl⟩ ⟨Nat.le_of_ble_eq_true rfl, Nat.le_of_ble_eq_true rfl⟩ (Nat.le_of_ble_eq_true rfl) dX5_wearOf_3 (fun v w1 hp => ?_)
  obtain ⟨rfl, k1, f1, rfl⟩ := hp
  refine Teq (ws' := wP cy q M (kR M x) k1 f1) (lv' := [(0, .ref (q 0)), (1, .int (enc (x)))]) (st' := [.int (enc (if kR M x = 0 then M 4 x else 0))]) rfl rfl rfl ?_
  exact ret _ _ _ _ dX5_wearOf_6 ⟨rfl, _, _, rfl⟩
set_option maxRecDepth 100000 in
set_option maxHeartbeats 4000000 in
theorem m_X5_road_2 {G : va_G} {cy : ClassId} {q : Nat → Nat} (M : MT) (th : Int) (kept far : Int → Int) (x : Int) (hx : In x) (B : Int) (hF : WF M B) (hB2 : B ≤ 800000) : Ct G cy yX5_road cX5_road 3 (some .int) ({ frames := 2, cells := 0, slots := 0, locals := 43 } : Room) 0 0 [.ref (q 0), .int (enc (x)), .int (enc (2))] (wP cy q M th kept far) (fun v w1 => v = some (.int (enc (if kR M x = 0 then M 5 x else 0))) ∧ ∃ k' f', w1 = wP cy q M (kR M x) k' f') := by
  refine Ct.ofI (by decide) (Nat.le_of_ble_eq_true rfl) rfl rfl (fun _ _ _ => rfl) ?_
  intro c X ret
  have hB := hF.bd (by omega)
  obtain ⟨w0, w1, w2, w3, w4⟩ := hF.r
  have h17 := hF.2.2.2.2.2.1
  have h172 := hF.2.2.2.2.2.2.1
  have h20 := hF.2.2.2.2.2.2.2.1
  refine Tlv (lv' := [(0, .ref (q 0)), (1, .int (enc (x))), (2, .int (enc (2)))]) rfl ?_
  refine tw_aload_n X dX5_road_0 0 rfl rfl ?_
  refine tw_iconst X dX5_road_1 ?_
  refine pf_X5_40 X (ws' := wP cy q M (0) kept far) 0 rfl (Nat.le_of_ble_eq_true rfl) rfl rfl dX5_road_2 rfl ?_
  refine tw_aload_n X dX5_road_5 0 rfl rfl ?_
  refine tw_iload_n X dX5_road_6 1 rfl rfl ?_
  refine tw_callV X (As := [.int (enc (x))]) (st := []) vw_X5_126 (m_X5_isRoad (q := q) M (0) kept far (x) hx hB) ([]) ([]) rfl rfl (q0 := 0) rfl rfl rfl ⟨rfl, rfl, Nat.le_of_ble_eq_true rfl, Nat.le_of_ble_eq_true rfl⟩ ⟨Nat.le_of_ble_eq_true rfl, Nat.le_of_ble_eq_true rfl⟩ (Nat.le_of_ble_eq_true rfl) dX5_road_7 (fun v w1 hp => ?_)
  obtain ⟨rfl, rfl⟩ := hp
  refine Teq (ws' := wP cy q M (0) kept far) (lv' := [(0, .ref (q 0)), (1, .int (enc (x))), (2, .int (enc (2)))]) (st' := [.int (enc (if 0 ≤ x ∧ x ≤ M 16 0 - 1 then 1 else 0))]) rfl rfl rfl ?_
  refine tw_if_eq (tgt := 22) X In_b dX5_road_10 (by decide) (fun c10 => ?_) (fun c10 => ?_)
  · skip
    have c10 := b01.mp c10
    have hk : kR M x = 1 := if_neg c10
    refine tw_aload_n X dX5_road_22 0 rfl rfl ?_
    refine tw_iconst X dX5_road_23 ?_
    refine tw_callV X (As := [.int (enc (1))]) (st := []) vw_X5_116 (m_X5_fail (q := q) M (0) kept far (1)) ([]) ([]) rfl rfl (q0 := 0) rfl rfl rfl ⟨rfl, rfl, Nat.le_of_ble_eq_true rfl, Nat.le_of_ble_eq_true rfl⟩ ⟨Nat.le_of_ble_eq_true rfl, Nat.le_of_ble_eq_true rfl⟩ (Nat.le_of_ble_eq_true rfl) dX5_road_24 (fun v w1 hp => ?_)
    obtain ⟨rfl, rfl⟩ := hp
    refine Teq (ws' := wP cy q M 1 kept far) (lv' := [(0, .ref (q 0)), (1, .int (enc (x))), (2, .int (enc (2)))]) (st' := [.int (enc (0))]) rfl rfl rfl ?_
    exact ret _ _ _ _ dX5_road_27 (by first | exact ⟨ansY hk, exP hk⟩ | exact ⟨ansN hk (by decide), exP hk⟩)
  · skip
    have c10 := b01n.mp c10
    have hk : kR M x = 0 := if_pos c10
    refine tw_aload_n X dX5_road_13 0 rfl rfl ?_
    refine tw_iload_n X dX5_road_14 1 rfl rfl ?_
    refine tw_iload_n X dX5_road_15 2 rfl rfl ?_
    refine tw_callV X (As := [.int (enc (x)), .int (enc (2))]) (st := []) vw_X5_63 (m_X5_ro_2 (q := q) M (0) kept far (x) (by omega)) ([]) ([]) rfl rfl (q0 := 0) rfl rfl rfl ⟨rfl, rfl, Nat.le_of_ble_eq_true rfl, Nat.le_of_ble_eq_true rfl⟩ ⟨Nat.le_of_ble_eq_true rfl, Nat.le_of_ble_eq_true rfl⟩ (Nat.le_of_ble_eq_true rfl) dX5_road_16 (fun v w1 hp => ?_)
    obtain ⟨rfl, rfl⟩ := hp
    refine Teq (ws' := wP cy q M (0) kept far) (lv' := [(0, .ref (q 0)), (1, .int (enc (x))), (2, .int (enc (2)))]) (st' := [.int (enc (M 5 x))]) rfl rfl rfl ?_
    have b1 := hB 5 x
    refine tw_goto (tgt := 27) X dX5_road_19 (by decide) ?_
    exact ret _ _ _ _ dX5_road_27 (by first | exact ⟨ansY hk, exP hk⟩ | exact ⟨ansN hk (by decide), exP hk⟩)
set_option maxRecDepth 100000 in
set_option maxHeartbeats 4000000 in
theorem m_X5_knotsOf {G : va_G} {cy : ClassId} {q : Nat → Nat} (M : MT) (th : Int) (kept far : Int → Int) (x : Int) (hx : In x) (B : Int) (hF : WF M B) (hB2 : B ≤ 800000) : Ct G cy yX5_knotsOf cX5_knotsOf 2 (some .int) ({ frames := 3, cells := 0, slots := 0, locals := 65 } : Room) 0 0 [.ref (q 0), .int (enc (x))] (wP cy q M th kept far) (fun v w1 => v = some (.int (enc (if kR M x = 0 then M 5 x else 0))) ∧ ∃ k' f', w1 = wP cy q M (kR M x) k' f') := by
  refine Ct.ofI (by decide) (Nat.le_of_ble_eq_true rfl) rfl rfl (fun _ _ _ => rfl) ?_
  intro c X ret
  have hB := hF.bd (by omega)
  obtain ⟨w0, w1, w2, w3, w4⟩ := hF.r
  have h17 := hF.2.2.2.2.2.1
  have h172 := hF.2.2.2.2.2.2.1
  have h20 := hF.2.2.2.2.2.2.2.1
  refine Tlv (lv' := [(0, .ref (q 0)), (1, .int (enc (x)))]) rfl ?_
  refine tw_aload_n X dX5_knotsOf_0 0 rfl rfl ?_
  refine tw_iload_n X dX5_knotsOf_1 1 rfl rfl ?_
  refine tw_iconst X dX5_knotsOf_2 ?_
  refine tw_callV X (As := [.int (enc (x)), .int (enc (2))]) (st := []) vw_X5_152 (m_X5_road_2 (q := q) M th kept far (x) hx B hF hB2) ([]) ([]) rfl rfl (q0 := 0) rfl rfl rfl ⟨rfl, rfl, Nat.le_of_ble_eq_true rfl, Nat.le_of_ble_eq_true rfl⟩ ⟨Nat.le_of_ble_eq_true rfl, Nat.le_of_ble_eq_true rfl⟩ (Nat.le_of_ble_eq_true rfl) dX5_knotsOf_3 (fun v w1 hp => ?_)
  obtain ⟨rfl, k1, f1, rfl⟩ := hp
  refine Teq (ws' := wP cy q M (kR M x) k1 f1) (lv' := [(0, .ref (q 0)), (1, .int (enc (x)))]) (st' := [.int (enc (if kR M x = 0 then M 5 x else 0))]) rfl rfl rfl ?_
  exact ret _ _ _ _ dX5_knotsOf_6 ⟨rfl, _, _, rfl⟩
set_option maxRecDepth 100000 in
set_option maxHeartbeats 4000000 in
theorem m_X5_road_0 {G : va_G} {cy : ClassId} {q : Nat → Nat} (M : MT) (th : Int) (kept far : Int → Int) (x : Int) (hx : In x) (B : Int) (hF : WF M B) (hB2 : B ≤ 800000) : Ct G cy yX5_road cX5_road 3 (some .int) ({ frames := 2, cells := 0, slots := 0, locals := 43 } : Room) 0 0 [.ref (q 0), .int (enc (x)), .int (enc (0))] (wP cy q M th kept far) (fun v w1 => v = some (.int (enc (if kR M x = 0 then M 6 x else 0))) ∧ ∃ k' f', w1 = wP cy q M (kR M x) k' f') := by
  refine Ct.ofI (by decide) (Nat.le_of_ble_eq_true rfl) rfl rfl (fun _ _ _ => rfl) ?_
  intro c X ret
  have hB := hF.bd (by omega)
  obtain ⟨w0, w1, w2, w3, w4⟩ := hF.r
  have h17 := hF.2.2.2.2.2.1
  have h172 := hF.2.2.2.2.2.2.1
  have h20 := hF.2.2.2.2.2.2.2.1
  refine Tlv (lv' := [(0, .ref (q 0)), (1, .int (enc (x))), (2, .int (enc (0)))]) rfl ?_
  refine tw_aload_n X dX5_road_0 0 rfl rfl ?_
  refine tw_iconst X dX5_road_1 ?_
  refine pf_X5_40 X (ws' := wP cy q M (0) kept far) 0 rfl (Nat.le_of_ble_eq_true rfl) rfl rfl dX5_road_2 rfl ?_
  refine tw_aload_n X dX5_road_5 0 rfl rfl ?_
  refine tw_iload_n X dX5_road_6 1 rfl rfl ?_
  refine tw_callV X (As := [.int (enc (x))]) (st := []) vw_X5_126 (m_X5_isRoad (q := q) M (0) kept far (x) hx hB) ([]) ([]) rfl rfl (q0 := 0) rfl rfl rfl ⟨rfl, rfl, Nat.le_of_ble_eq_true rfl, Nat.le_of_ble_eq_true rfl⟩ ⟨Nat.le_of_ble_eq_true rfl, Nat.le_of_ble_eq_true rfl⟩ (Nat.le_of_ble_eq_true rfl) dX5_road_7 (fun v w1 hp => ?_)
  obtain ⟨rfl, rfl⟩ := hp
  refine Teq (ws' := wP cy q M (0) kept far) (lv' := [(0, .ref (q 0)), (1, .int (enc (x))), (2, .int (enc (0)))]) (st' := [.int (enc (if 0 ≤ x ∧ x ≤ M 16 0 - 1 then 1 else 0))]) rfl rfl rfl ?_
  refine tw_if_eq (tgt := 22) X In_b dX5_road_10 (by decide) (fun c10 => ?_) (fun c10 => ?_)
  · skip
    have c10 := b01.mp c10
    have hk : kR M x = 1 := if_neg c10
    refine tw_aload_n X dX5_road_22 0 rfl rfl ?_
    refine tw_iconst X dX5_road_23 ?_
    refine tw_callV X (As := [.int (enc (1))]) (st := []) vw_X5_116 (m_X5_fail (q := q) M (0) kept far (1)) ([]) ([]) rfl rfl (q0 := 0) rfl rfl rfl ⟨rfl, rfl, Nat.le_of_ble_eq_true rfl, Nat.le_of_ble_eq_true rfl⟩ ⟨Nat.le_of_ble_eq_true rfl, Nat.le_of_ble_eq_true rfl⟩ (Nat.le_of_ble_eq_true rfl) dX5_road_24 (fun v w1 hp => ?_)
    obtain ⟨rfl, rfl⟩ := hp
    refine Teq (ws' := wP cy q M 1 kept far) (lv' := [(0, .ref (q 0)), (1, .int (enc (x))), (2, .int (enc (0)))]) (st' := [.int (enc (0))]) rfl rfl rfl ?_
    exact ret _ _ _ _ dX5_road_27 (by first | exact ⟨ansY hk, exP hk⟩ | exact ⟨ansN hk (by decide), exP hk⟩)
  · skip
    have c10 := b01n.mp c10
    have hk : kR M x = 0 := if_pos c10
    refine tw_aload_n X dX5_road_13 0 rfl rfl ?_
    refine tw_iload_n X dX5_road_14 1 rfl rfl ?_
    refine tw_iload_n X dX5_road_15 2 rfl rfl ?_
    refine tw_callV X (As := [.int (enc (x)), .int (enc (0))]) (st := []) vw_X5_63 (m_X5_ro_0 (q := q) M (0) kept far (x) (by omega)) ([]) ([]) rfl rfl (q0 := 0) rfl rfl rfl ⟨rfl, rfl, Nat.le_of_ble_eq_true rfl, Nat.le_of_ble_eq_true rfl⟩ ⟨Nat.le_of_ble_eq_true rfl, Nat.le_of_ble_eq_true rfl⟩ (Nat.le_of_ble_eq_true rfl) dX5_road_16 (fun v w1 hp => ?_)
    obtain ⟨rfl, rfl⟩ := hp
    refine Teq (ws' := wP cy q M (0) kept far) (lv' := [(0, .ref (q 0)), (1, .int (enc (x))), (2, .int (enc (0)))]) (st' := [.int (enc (M 6 x))]) rfl rfl rfl ?_
    have b1 := hB 6 x
    refine tw_goto (tgt := 27) X dX5_road_19 (by decide) ?_
    exact ret _ _ _ _ dX5_road_27 (by first | exact ⟨ansY hk, exP hk⟩ | exact ⟨ansN hk (by decide), exP hk⟩)
set_option maxRecDepth 100000 in
set_option maxHeartbeats 4000000 in
theorem m_X5_closedFor {G : va_G} {cy : ClassId} {q : Nat → Nat} (M : MT) (th : Int) (kept far : Int → Int) (x : Int) (hx : In x) (B : Int) (hF : WF M B) (hB2 : B ≤ 800000) : Ct G cy yX5_closedFor cX5_closedFor 2 (some .int) ({ frames := 3, cells := 0, slots := 0, locals := 65 } : Room) 0 0 [.ref (q 0), .int (enc (x))] (wP cy q M th kept far) (fun v w1 => v = some (.int (enc (if kR M x = 0 then M 6 x else 0))) ∧ ∃ k' f', w1 = wP cy q M (kR M x) k' f') := by
  refine Ct.ofI (by decide) (Nat.le_of_ble_eq_true rfl) rfl rfl (fun _ _ _ => rfl) ?_
  intro c X ret
  have hB := hF.bd (by omega)
  obtain ⟨w0, w1, w2, w3, w4⟩ := hF.r
  have h17 := hF.2.2.2.2.2.1
  have h172 := hF.2.2.2.2.2.2.1
  have h20 := hF.2.2.2.2.2.2.2.1
  refine Tlv (lv' := [(0, .ref (q 0)), (1, .int (enc (x)))]) rfl ?_
  refine tw_aload_n X dX5_closedFor_0 0 rfl rfl ?_
  refine tw_iload_n X dX5_closedFor_1 1 rfl rfl ?_
  refine tw_iconst X dX5_closedFor_2 ?_
  refine tw_callV X (As := [.int (enc (x)), .int (enc (0))]) (st := []) vw_X5_152 (m_X5_road_0 (q := q) M th kept far (x) hx B hF hB2) ([]) ([]) rfl rfl (q0 := 0) rfl rfl rfl ⟨rfl, rfl, Nat.le_of_ble_eq_true rfl, Nat.le_of_ble_eq_true rfl⟩ ⟨Nat.le_of_ble_eq_true rfl, Nat.le_of_ble_eq_true rfl⟩ (Nat.le_of_ble_eq_true rfl) dX5_closedFor_3 (fun v w1 hp => ?_)
  obtain ⟨rfl, k1, f1, rfl⟩ := hp
  refine Teq (ws' := wP cy q M (kR M x) k1 f1) (lv' := [(0, .ref (q 0)), (1, .int (enc (x)))]) (st' := [.int (enc (if kR M x = 0 then M 6 x else 0))]) rfl rfl rfl ?_
  exact ret _ _ _ _ dX5_closedFor_6 ⟨rfl, _, _, rfl⟩
set_option maxRecDepth 100000 in
set_option maxHeartbeats 4000000 in
theorem m_X5_tourist_0 {G : va_G} {cy : ClassId} {q : Nat → Nat} (M : MT) (th : Int) (kept far : Int → Int) (x : Int) (hx : In x) (B : Int) (hF : WF M B) (hB2 : B ≤ 800000) : Ct G cy yX5_tourist cX5_tourist 3 (some .int) ({ frames := 2, cells := 0, slots := 0, locals := 43 } : Room) 0 0 [.ref (q 0), .int (enc (x)), .int (enc (0))] (wP cy q M th kept far) (fun v w1 => v = some (.int (enc (if kT M x = 0 then M 7 x else 0))) ∧ ∃ k' f', w1 = wP cy q M (kT M x) k' f') := by
  refine Ct.ofI (by decide) (Nat.le_of_ble_eq_true rfl) rfl rfl (fun _ _ _ => rfl) ?_
  intro c X ret
  have hB := hF.bd (by omega)
  obtain ⟨w0, w1, w2, w3, w4⟩ := hF.r
  have h17 := hF.2.2.2.2.2.1
  have h172 := hF.2.2.2.2.2.2.1
  have h20 := hF.2.2.2.2.2.2.2.1
  refine Tlv (lv' := [(0, .ref (q 0)), (1, .int (enc (x))), (2, .int (enc (0)))]) rfl ?_
  refine tw_aload_n X dX5_tourist_0 0 rfl rfl ?_
  refine tw_iconst X dX5_tourist_1 ?_
  refine pf_X5_40 X (ws' := wP cy q M (0) kept far) 0 rfl (Nat.le_of_ble_eq_true rfl) rfl rfl dX5_tourist_2 rfl ?_
  refine tw_aload_n X dX5_tourist_5 0 rfl rfl ?_
  refine tw_iload_n X dX5_tourist_6 1 rfl rfl ?_
  refine tw_callV X (As := [.int (enc (x))]) (st := []) vw_X5_164 (m_X5_isTourist (q := q) M (0) kept far (x) hx hB) ([]) ([]) rfl rfl (q0 := 0) rfl rfl rfl ⟨rfl, rfl, Nat.le_of_ble_eq_true rfl, Nat.le_of_ble_eq_true rfl⟩ ⟨Nat.le_of_ble_eq_true rfl, Nat.le_of_ble_eq_true rfl⟩ (Nat.le_of_ble_eq_true rfl) dX5_tourist_7 (fun v w1 hp => ?_)
  obtain ⟨rfl, rfl⟩ := hp
  refine Teq (ws' := wP cy q M (0) kept far) (lv' := [(0, .ref (q 0)), (1, .int (enc (x))), (2, .int (enc (0)))]) (st' := [.int (enc (if 0 ≤ x ∧ x ≤ M 17 0 - 1 then 1 else 0))]) rfl rfl rfl ?_
  refine tw_if_eq (tgt := 22) X In_b dX5_tourist_10 (by decide) (fun c10 => ?_) (fun c10 => ?_)
  · skip
    have c10 := b01.mp c10
    have hk : kT M x = 1 := if_neg c10
    refine tw_aload_n X dX5_tourist_22 0 rfl rfl ?_
    refine tw_iconst X dX5_tourist_23 ?_
    refine tw_callV X (As := [.int (enc (1))]) (st := []) vw_X5_116 (m_X5_fail (q := q) M (0) kept far (1)) ([]) ([]) rfl rfl (q0 := 0) rfl rfl rfl ⟨rfl, rfl, Nat.le_of_ble_eq_true rfl, Nat.le_of_ble_eq_true rfl⟩ ⟨Nat.le_of_ble_eq_true rfl, Nat.le_of_ble_eq_true rfl⟩ (Nat.le_of_ble_eq_true rfl) dX5_tourist_24 (fun v w1 hp => ?_)
    obtain ⟨rfl, rfl⟩ := hp
    refine Teq (ws' := wP cy q M 1 kept far) (lv' := [(0, .ref (q 0)), (1, .int (enc (x))), (2, .int (enc (0)))]) (st' := [.int (enc (0))]) rfl rfl rfl ?_
    exact ret _ _ _ _ dX5_tourist_27 (by first | exact ⟨ansY hk, exP hk⟩ | exact ⟨ansN hk (by decide), exP hk⟩)
  · skip
    have c10 := b01n.mp c10
    have hk : kT M x = 0 := if_pos c10
    refine tw_aload_n X dX5_tourist_13 0 rfl rfl ?_
    refine tw_iload_n X dX5_tourist_14 1 rfl rfl ?_
    refine tw_iload_n X dX5_tourist_15 2 rfl rfl ?_
    refine tw_callV X (As := [.int (enc (x)), .int (enc (0))]) (st := []) vw_X5_67 (m_X5_to_0 (q := q) M (0) kept far (x) (by omega)) ([]) ([]) rfl rfl (q0 := 0) rfl rfl rfl ⟨rfl, rfl, Nat.le_of_ble_eq_true rfl, Nat.le_of_ble_eq_true rfl⟩ ⟨Nat.le_of_ble_eq_true rfl, Nat.le_of_ble_eq_true rfl⟩ (Nat.le_of_ble_eq_true rfl) dX5_tourist_16 (fun v w1 hp => ?_)
    obtain ⟨rfl, rfl⟩ := hp
    refine Teq (ws' := wP cy q M (0) kept far) (lv' := [(0, .ref (q 0)), (1, .int (enc (x))), (2, .int (enc (0)))]) (st' := [.int (enc (M 7 x))]) rfl rfl rfl ?_
    have b1 := hB 7 x
    refine tw_goto (tgt := 27) X dX5_tourist_19 (by decide) ?_
    exact ret _ _ _ _ dX5_tourist_27 (by first | exact ⟨ansY hk, exP hk⟩ | exact ⟨ansN hk (by decide), exP hk⟩)
set_option maxRecDepth 100000 in
set_option maxHeartbeats 4000000 in
theorem m_X5_placeOf {G : va_G} {cy : ClassId} {q : Nat → Nat} (M : MT) (th : Int) (kept far : Int → Int) (x : Int) (hx : In x) (B : Int) (hF : WF M B) (hB2 : B ≤ 800000) : Ct G cy yX5_placeOf cX5_placeOf 2 (some .int) ({ frames := 3, cells := 0, slots := 0, locals := 65 } : Room) 0 0 [.ref (q 0), .int (enc (x))] (wP cy q M th kept far) (fun v w1 => v = some (.int (enc (if kT M x = 0 then M 7 x else 0))) ∧ ∃ k' f', w1 = wP cy q M (kT M x) k' f') := by
  refine Ct.ofI (by decide) (Nat.le_of_ble_eq_true rfl) rfl rfl (fun _ _ _ => rfl) ?_
  intro c X ret
  have hB := hF.bd (by omega)
  obtain ⟨w0, w1, w2, w3, w4⟩ := hF.r
  have h17 := hF.2.2.2.2.2.1
  have h172 := hF.2.2.2.2.2.2.1
  have h20 := hF.2.2.2.2.2.2.2.1
  refine Tlv (lv' := [(0, .ref (q 0)), (1, .int (enc (x)))]) rfl ?_
  refine tw_aload_n X dX5_placeOf_0 0 rfl rfl ?_
  refine tw_iload_n X dX5_placeOf_1 1 rfl rfl ?_
  refine tw_iconst X dX5_placeOf_2 ?_
  refine tw_callV X (As := [.int (enc (x)), .int (enc (0))]) (st := []) vw_X5_167 (m_X5_tourist_0 (q := q) M th kept far (x) hx B hF hB2) ([]) ([]) rfl rfl (q0 := 0) rfl rfl rfl ⟨rfl, rfl, Nat.le_of_ble_eq_true rfl, Nat.le_of_ble_eq_true rfl⟩ ⟨Nat.le_of_ble_eq_true rfl, Nat.le_of_ble_eq_true rfl⟩ (Nat.le_of_ble_eq_true rfl) dX5_placeOf_3 (fun v w1 hp => ?_)
  obtain ⟨rfl, k1, f1, rfl⟩ := hp
  refine Teq (ws' := wP cy q M (kT M x) k1 f1) (lv' := [(0, .ref (q 0)), (1, .int (enc (x)))]) (st' := [.int (enc (if kT M x = 0 then M 7 x else 0))]) rfl rfl rfl ?_
  exact ret _ _ _ _ dX5_placeOf_6 ⟨rfl, _, _, rfl⟩
set_option maxRecDepth 100000 in
set_option maxHeartbeats 4000000 in
theorem m_X5_tourist_1 {G : va_G} {cy : ClassId} {q : Nat → Nat} (M : MT) (th : Int) (kept far : Int → Int) (x : Int) (hx : In x) (B : Int) (hF : WF M B) (hB2 : B ≤ 800000) : Ct G cy yX5_tourist cX5_tourist 3 (some .int) ({ frames := 2, cells := 0, slots := 0, locals := 43 } : Room) 0 0 [.ref (q 0), .int (enc (x)), .int (enc (1))] (wP cy q M th kept far) (fun v w1 => v = some (.int (enc (if kT M x = 0 then M 8 x else 0))) ∧ ∃ k' f', w1 = wP cy q M (kT M x) k' f') := by
  refine Ct.ofI (by decide) (Nat.le_of_ble_eq_true rfl) rfl rfl (fun _ _ _ => rfl) ?_
  intro c X ret
  have hB := hF.bd (by omega)
  obtain ⟨w0, w1, w2, w3, w4⟩ := hF.r
  have h17 := hF.2.2.2.2.2.1
  have h172 := hF.2.2.2.2.2.2.1
  have h20 := hF.2.2.2.2.2.2.2.1
  refine Tlv (lv' := [(0, .ref (q 0)), (1, .int (enc (x))), (2, .int (enc (1)))]) rfl ?_
  refine tw_aload_n X dX5_tourist_0 0 rfl rfl ?_
  refine tw_iconst X dX5_tourist_1 ?_
  refine pf_X5_40 X (ws' := wP cy q M (0) kept far) 0 rfl (Nat.le_of_ble_eq_true rfl) rfl rfl dX5_tourist_2 rfl ?_
  refine tw_aload_n X dX5_tourist_5 0 rfl rfl ?_
  refine tw_iload_n X dX5_tourist_6 1 rfl rfl ?_
  refine tw_callV X (As := [.int (enc (x))]) (st := []) vw_X5_164 (m_X5_isTourist (q := q) M (0) kept far (x) hx hB) ([]) ([]) rfl rfl (q0 := 0) rfl rfl rfl ⟨rfl, rfl, Nat.le_of_ble_eq_true rfl, Nat.le_of_ble_eq_true rfl⟩ ⟨Nat.le_of_ble_eq_true rfl, Nat.le_of_ble_eq_true rfl⟩ (Nat.le_of_ble_eq_true rfl) dX5_tourist_7 (fun v w1 hp => ?_)
  obtain ⟨rfl, rfl⟩ := hp
  refine Teq (ws' := wP cy q M (0) kept far) (lv' := [(0, .ref (q 0)), (1, .int (enc (x))), (2, .int (enc (1)))]) (st' := [.int (enc (if 0 ≤ x ∧ x ≤ M 17 0 - 1 then 1 else 0))]) rfl rfl rfl ?_
  refine tw_if_eq (tgt := 22) X In_b dX5_tourist_10 (by decide) (fun c10 => ?_) (fun c10 => ?_)
  · skip
    have c10 := b01.mp c10
    have hk : kT M x = 1 := if_neg c10
    refine tw_aload_n X dX5_tourist_22 0 rfl rfl ?_
    refine tw_iconst X dX5_tourist_23 ?_
    refine tw_callV X (As := [.int (enc (1))]) (st := []) vw_X5_116 (m_X5_fail (q := q) M (0) kept far (1)) ([]) ([]) rfl rfl (q0 := 0) rfl rfl rfl ⟨rfl, rfl, Nat.le_of_ble_eq_true rfl, Nat.le_of_ble_eq_true rfl⟩ ⟨Nat.le_of_ble_eq_true rfl, Nat.le_of_ble_eq_true rfl⟩ (Nat.le_of_ble_eq_true rfl) dX5_tourist_24 (fun v w1 hp => ?_)
    obtain ⟨rfl, rfl⟩ := hp
    refine Teq (ws' := wP cy q M 1 kept far) (lv' := [(0, .ref (q 0)), (1, .int (enc (x))), (2, .int (enc (1)))]) (st' := [.int (enc (0))]) rfl rfl rfl ?_
    exact ret _ _ _ _ dX5_tourist_27 (by first | exact ⟨ansY hk, exP hk⟩ | exact ⟨ansN hk (by decide), exP hk⟩)
  · skip
    have c10 := b01n.mp c10
    have hk : kT M x = 0 := if_pos c10
    refine tw_aload_n X dX5_tourist_13 0 rfl rfl ?_
    refine tw_iload_n X dX5_tourist_14 1 rfl rfl ?_
    refine tw_iload_n X dX5_tourist_15 2 rfl rfl ?_
    refine tw_callV X (As := [.int (enc (x)), .int (enc (1))]) (st := []) vw_X5_67 (m_X5_to_1 (q := q) M (0) kept far (x) (by omega)) ([]) ([]) rfl rfl (q0 := 0) rfl rfl rfl ⟨rfl, rfl, Nat.le_of_ble_eq_true rfl, Nat.le_of_ble_eq_true rfl⟩ ⟨Nat.le_of_ble_eq_true rfl, Nat.le_of_ble_eq_true rfl⟩ (Nat.le_of_ble_eq_true rfl) dX5_tourist_16 (fun v w1 hp => ?_)
    obtain ⟨rfl, rfl⟩ := hp
    refine Teq (ws' := wP cy q M (0) kept far) (lv' := [(0, .ref (q 0)), (1, .int (enc (x))), (2, .int (enc (1)))]) (st' := [.int (enc (M 8 x))]) rfl rfl rfl ?_
    have b1 := hB 8 x
    refine tw_goto (tgt := 27) X dX5_tourist_19 (by decide) ?_
    exact ret _ _ _ _ dX5_tourist_27 (by first | exact ⟨ansY hk, exP hk⟩ | exact ⟨ansN hk (by decide), exP hk⟩)
set_option maxRecDepth 100000 in
set_option maxHeartbeats 4000000 in
theorem m_X5_roadOf {G : va_G} {cy : ClassId} {q : Nat → Nat} (M : MT) (th : Int) (kept far : Int → Int) (x : Int) (hx : In x) (B : Int) (hF : WF M B) (hB2 : B ≤ 800000) : Ct G cy yX5_roadOf cX5_roadOf 2 (some .int) ({ frames := 3, cells := 0, slots := 0, locals := 65 } : Room) 0 0 [.ref (q 0), .int (enc (x))] (wP cy q M th kept far) (fun v w1 => v = some (.int (enc (if kT M x = 0 then M 8 x else 0))) ∧ ∃ k' f', w1 = wP cy q M (kT M x) k' f') := by
  refine Ct.ofI (by decide) (Nat.le_of_ble_eq_true rfl) rfl rfl (fun _ _ _ => rfl) ?_
  intro c X ret
  have hB := hF.bd (by omega)
  obtain ⟨w0, w1, w2, w3, w4⟩ := hF.r
  have h17 := hF.2.2.2.2.2.1
  have h172 := hF.2.2.2.2.2.2.1
  have h20 := hF.2.2.2.2.2.2.2.1
  refine Tlv (lv' := [(0, .ref (q 0)), (1, .int (enc (x)))]) rfl ?_
  refine tw_aload_n X dX5_roadOf_0 0 rfl rfl ?_
  refine tw_iload_n X dX5_roadOf_1 1 rfl rfl ?_
  refine tw_iconst X dX5_roadOf_2 ?_
  refine tw_callV X (As := [.int (enc (x)), .int (enc (1))]) (st := []) vw_X5_167 (m_X5_tourist_1 (q := q) M th kept far (x) hx B hF hB2) ([]) ([]) rfl rfl (q0 := 0) rfl rfl rfl ⟨rfl, rfl, Nat.le_of_ble_eq_true rfl, Nat.le_of_ble_eq_true rfl⟩ ⟨Nat.le_of_ble_eq_true rfl, Nat.le_of_ble_eq_true rfl⟩ (Nat.le_of_ble_eq_true rfl) dX5_roadOf_3 (fun v w1 hp => ?_)
  obtain ⟨rfl, k1, f1, rfl⟩ := hp
  refine Teq (ws' := wP cy q M (kT M x) k1 f1) (lv' := [(0, .ref (q 0)), (1, .int (enc (x)))]) (st' := [.int (enc (if kT M x = 0 then M 8 x else 0))]) rfl rfl rfl ?_
  exact ret _ _ _ _ dX5_roadOf_6 ⟨rfl, _, _, rfl⟩
set_option maxRecDepth 100000 in
set_option maxHeartbeats 4000000 in
theorem m_X5_tourist_3 {G : va_G} {cy : ClassId} {q : Nat → Nat} (M : MT) (th : Int) (kept far : Int → Int) (x : Int) (hx : In x) (B : Int) (hF : WF M B) (hB2 : B ≤ 800000) : Ct G cy yX5_tourist cX5_tourist 3 (some .int) ({ frames := 2, cells := 0, slots := 0, locals := 43 } : Room) 0 0 [.ref (q 0), .int (enc (x)), .int (enc (3))] (wP cy q M th kept far) (fun v w1 => v = some (.int (enc (if kT M x = 0 then M 12 x else 0))) ∧ ∃ k' f', w1 = wP cy q M (kT M x) k' f') := by
  refine Ct.ofI (by decide) (Nat.le_of_ble_eq_true rfl) rfl rfl (fun _ _ _ => rfl) ?_
  intro c X ret
  have hB := hF.bd (by omega)
  obtain ⟨w0, w1, w2, w3, w4⟩ := hF.r
  have h17 := hF.2.2.2.2.2.1
  have h172 := hF.2.2.2.2.2.2.1
  have h20 := hF.2.2.2.2.2.2.2.1
  refine Tlv (lv' := [(0, .ref (q 0)), (1, .int (enc (x))), (2, .int (enc (3)))]) rfl ?_
  refine tw_aload_n X dX5_tourist_0 0 rfl rfl ?_
  refine tw_iconst X dX5_tourist_1 ?_
  refine pf_X5_40 X (ws' := wP cy q M (0) kept far) 0 rfl (Nat.le_of_ble_eq_true rfl) rfl rfl dX5_tourist_2 rfl ?_
  refine tw_aload_n X dX5_tourist_5 0 rfl rfl ?_
  refine tw_iload_n X dX5_tourist_6 1 rfl rfl ?_
  refine tw_callV X (As := [.int (enc (x))]) (st := []) vw_X5_164 (m_X5_isTourist (q := q) M (0) kept far (x) hx hB) ([]) ([]) rfl rfl (q0 := 0) rfl rfl rfl ⟨rfl, rfl, Nat.le_of_ble_eq_true rfl, Nat.le_of_ble_eq_true rfl⟩ ⟨Nat.le_of_ble_eq_true rfl, Nat.le_of_ble_eq_true rfl⟩ (Nat.le_of_ble_eq_true rfl) dX5_tourist_7 (fun v w1 hp => ?_)
  obtain ⟨rfl, rfl⟩ := hp
  refine Teq (ws' := wP cy q M (0) kept far) (lv' := [(0, .ref (q 0)), (1, .int (enc (x))), (2, .int (enc (3)))]) (st' := [.int (enc (if 0 ≤ x ∧ x ≤ M 17 0 - 1 then 1 else 0))]) rfl rfl rfl ?_
  refine tw_if_eq (tgt := 22) X In_b dX5_tourist_10 (by decide) (fun c10 => ?_) (fun c10 => ?_)
  · skip
    have c10 := b01.mp c10
    have hk : kT M x = 1 := if_neg c10
    refine tw_aload_n X dX5_tourist_22 0 rfl rfl ?_
    refine tw_iconst X dX5_tourist_23 ?_
    refine tw_callV X (As := [.int (enc (1))]) (st := []) vw_X5_116 (m_X5_fail (q := q) M (0) kept far (1)) ([]) ([]) rfl rfl (q0 := 0) rfl rfl rfl ⟨rfl, rfl, Nat.le_of_ble_eq_true rfl, Nat.le_of_ble_eq_true rfl⟩ ⟨Nat.le_of_ble_eq_true rfl, Nat.le_of_ble_eq_true rfl⟩ (Nat.le_of_ble_eq_true rfl) dX5_tourist_24 (fun v w1 hp => ?_)
    obtain ⟨rfl, rfl⟩ := hp
    refine Teq (ws' := wP cy q M 1 kept far) (lv' := [(0, .ref (q 0)), (1, .int (enc (x))), (2, .int (enc (3)))]) (st' := [.int (enc (0))]) rfl rfl rfl ?_
    exact ret _ _ _ _ dX5_tourist_27 (by first | exact ⟨ansY hk, exP hk⟩ | exact ⟨ansN hk (by decide), exP hk⟩)
  · skip
    have c10 := b01n.mp c10
    have hk : kT M x = 0 := if_pos c10
    refine tw_aload_n X dX5_tourist_13 0 rfl rfl ?_
    refine tw_iload_n X dX5_tourist_14 1 rfl rfl ?_
    refine tw_iload_n X dX5_tourist_15 2 rfl rfl ?_
    refine tw_callV X (As := [.int (enc (x)), .int (enc (3))]) (st := []) vw_X5_67 (m_X5_to_3 (q := q) M (0) kept far (x) (by omega)) ([]) ([]) rfl rfl (q0 := 0) rfl rfl rfl ⟨rfl, rfl, Nat.le_of_ble_eq_true rfl, Nat.le_of_ble_eq_true rfl⟩ ⟨Nat.le_of_ble_eq_true rfl, Nat.le_of_ble_eq_true rfl⟩ (Nat.le_of_ble_eq_true rfl) dX5_tourist_16 (fun v w1 hp => ?_)
    obtain ⟨rfl, rfl⟩ := hp
    refine Teq (ws' := wP cy q M (0) kept far) (lv' := [(0, .ref (q 0)), (1, .int (enc (x))), (2, .int (enc (3)))]) (st' := [.int (enc (M 12 x))]) rfl rfl rfl ?_
    have b1 := hB 12 x
    refine tw_goto (tgt := 27) X dX5_tourist_19 (by decide) ?_
    exact ret _ _ _ _ dX5_tourist_27 (by first | exact ⟨ansY hk, exP hk⟩ | exact ⟨ansN hk (by decide), exP hk⟩)
set_option maxRecDepth 100000 in
set_option maxHeartbeats 4000000 in
theorem m_X5_dyeOf {G : va_G} {cy : ClassId} {q : Nat → Nat} (M : MT) (th : Int) (kept far : Int → Int) (x : Int) (hx : In x) (B : Int) (hF : WF M B) (hB2 : B ≤ 800000) : Ct G cy yX5_dyeOf cX5_dyeOf 2 (some .int) ({ frames := 3, cells := 0, slots := 0, locals := 65 } : Room) 0 0 [.ref (q 0), .int (enc (x))] (wP cy q M th kept far) (fun v w1 => v = some (.int (enc (if kT M x = 0 then M 12 x else 0))) ∧ ∃ k' f', w1 = wP cy q M (kT M x) k' f') := by
  refine Ct.ofI (by decide) (Nat.le_of_ble_eq_true rfl) rfl rfl (fun _ _ _ => rfl) ?_
  intro c X ret
  have hB := hF.bd (by omega)
  obtain ⟨w0, w1, w2, w3, w4⟩ := hF.r
  have h17 := hF.2.2.2.2.2.1
  have h172 := hF.2.2.2.2.2.2.1
  have h20 := hF.2.2.2.2.2.2.2.1
  refine Tlv (lv' := [(0, .ref (q 0)), (1, .int (enc (x)))]) rfl ?_
  refine tw_aload_n X dX5_dyeOf_0 0 rfl rfl ?_
  refine tw_iload_n X dX5_dyeOf_1 1 rfl rfl ?_
  refine tw_iconst X dX5_dyeOf_2 ?_
  refine tw_callV X (As := [.int (enc (x)), .int (enc (3))]) (st := []) vw_X5_167 (m_X5_tourist_3 (q := q) M th kept far (x) hx B hF hB2) ([]) ([]) rfl rfl (q0 := 0) rfl rfl rfl ⟨rfl, rfl, Nat.le_of_ble_eq_true rfl, Nat.le_of_ble_eq_true rfl⟩ ⟨Nat.le_of_ble_eq_true rfl, Nat.le_of_ble_eq_true rfl⟩ (Nat.le_of_ble_eq_true rfl) dX5_dyeOf_3 (fun v w1 hp => ?_)
  obtain ⟨rfl, k1, f1, rfl⟩ := hp
  refine Teq (ws' := wP cy q M (kT M x) k1 f1) (lv' := [(0, .ref (q 0)), (1, .int (enc (x)))]) (st' := [.int (enc (if kT M x = 0 then M 12 x else 0))]) rfl rfl rfl ?_
  exact ret _ _ _ _ dX5_dyeOf_6 ⟨rfl, _, _, rfl⟩
set_option maxRecDepth 100000 in
set_option maxHeartbeats 4000000 in
theorem m_X5_tourist_4 {G : va_G} {cy : ClassId} {q : Nat → Nat} (M : MT) (th : Int) (kept far : Int → Int) (x : Int) (hx : In x) (B : Int) (hF : WF M B) (hB2 : B ≤ 800000) : Ct G cy yX5_tourist cX5_tourist 3 (some .int) ({ frames := 2, cells := 0, slots := 0, locals := 43 } : Room) 0 0 [.ref (q 0), .int (enc (x)), .int (enc (4))] (wP cy q M th kept far) (fun v w1 => v = some (.int (enc (if kT M x = 0 then dnM M x else 0))) ∧ ∃ k' f', w1 = wP cy q M (kT M x) k' f') := by
  refine Ct.ofI (by decide) (Nat.le_of_ble_eq_true rfl) rfl rfl (fun _ _ _ => rfl) ?_
  intro c X ret
  have hB := hF.bd (by omega)
  obtain ⟨w0, w1, w2, w3, w4⟩ := hF.r
  have h17 := hF.2.2.2.2.2.1
  have h172 := hF.2.2.2.2.2.2.1
  have h20 := hF.2.2.2.2.2.2.2.1
  refine Tlv (lv' := [(0, .ref (q 0)), (1, .int (enc (x))), (2, .int (enc (4)))]) rfl ?_
  refine tw_aload_n X dX5_tourist_0 0 rfl rfl ?_
  refine tw_iconst X dX5_tourist_1 ?_
  refine pf_X5_40 X (ws' := wP cy q M (0) kept far) 0 rfl (Nat.le_of_ble_eq_true rfl) rfl rfl dX5_tourist_2 rfl ?_
  refine tw_aload_n X dX5_tourist_5 0 rfl rfl ?_
  refine tw_iload_n X dX5_tourist_6 1 rfl rfl ?_
  refine tw_callV X (As := [.int (enc (x))]) (st := []) vw_X5_164 (m_X5_isTourist (q := q) M (0) kept far (x) hx hB) ([]) ([]) rfl rfl (q0 := 0) rfl rfl rfl ⟨rfl, rfl, Nat.le_of_ble_eq_true rfl, Nat.le_of_ble_eq_true rfl⟩ ⟨Nat.le_of_ble_eq_true rfl, Nat.le_of_ble_eq_true rfl⟩ (Nat.le_of_ble_eq_true rfl) dX5_tourist_7 (fun v w1 hp => ?_)
  obtain ⟨rfl, rfl⟩ := hp
  refine Teq (ws' := wP cy q M (0) kept far) (lv' := [(0, .ref (q 0)), (1, .int (enc (x))), (2, .int (enc (4)))]) (st' := [.int (enc (if 0 ≤ x ∧ x ≤ M 17 0 - 1 then 1 else 0))]) rfl rfl rfl ?_
  refine tw_if_eq (tgt := 22) X In_b dX5_tourist_10 (by decide) (fun c10 => ?_) (fun c10 => ?_)
  · skip
    have c10 := b01.mp c10
    have hk : kT M x = 1 := if_neg c10
    refine tw_aload_n X dX5_tourist_22 0 rfl rfl ?_
    refine tw_iconst X dX5_tourist_23 ?_
    refine tw_callV X (As := [.int (enc (1))]) (st := []) vw_X5_116 (m_X5_fail (q := q) M (0) kept far (1)) ([]) ([]) rfl rfl (q0 := 0) rfl rfl rfl ⟨rfl, rfl, Nat.le_of_ble_eq_true rfl, Nat.le_of_ble_eq_true rfl⟩ ⟨Nat.le_of_ble_eq_true rfl, Nat.le_of_ble_eq_true rfl⟩ (Nat.le_of_ble_eq_true rfl) dX5_tourist_24 (fun v w1 hp => ?_)
    obtain ⟨rfl, rfl⟩ := hp
    refine Teq (ws' := wP cy q M 1 kept far) (lv' := [(0, .ref (q 0)), (1, .int (enc (x))), (2, .int (enc (4)))]) (st' := [.int (enc (0))]) rfl rfl rfl ?_
    exact ret _ _ _ _ dX5_tourist_27 (by first | exact ⟨ansY hk, exP hk⟩ | exact ⟨ansN hk (by decide), exP hk⟩)
  · skip
    have c10 := b01n.mp c10
    have hk : kT M x = 0 := if_pos c10
    refine tw_aload_n X dX5_tourist_13 0 rfl rfl ?_
    refine tw_iload_n X dX5_tourist_14 1 rfl rfl ?_
    refine tw_iload_n X dX5_tourist_15 2 rfl rfl ?_
    refine tw_callV X (As := [.int (enc (x)), .int (enc (4))]) (st := []) vw_X5_67 (m_X5_to_4 (q := q) M (0) kept far (x) (by omega)) ([]) ([]) rfl rfl (q0 := 0) rfl rfl rfl ⟨rfl, rfl, Nat.le_of_ble_eq_true rfl, Nat.le_of_ble_eq_true rfl⟩ ⟨Nat.le_of_ble_eq_true rfl, Nat.le_of_ble_eq_true rfl⟩ (Nat.le_of_ble_eq_true rfl) dX5_tourist_16 (fun v w1 hp => ?_)
    obtain ⟨rfl, rfl⟩ := hp
    refine Teq (ws' := wP cy q M (0) kept far) (lv' := [(0, .ref (q 0)), (1, .int (enc (x))), (2, .int (enc (4)))]) (st' := [.int (enc (dnM M x))]) rfl rfl rfl ?_
    refine tw_goto (tgt := 27) X dX5_tourist_19 (by decide) ?_
    exact ret _ _ _ _ dX5_tourist_27 (by first | exact ⟨ansY hk, exP hk⟩ | exact ⟨ansN hk (by decide), exP hk⟩)
set_option maxRecDepth 100000 in
set_option maxHeartbeats 4000000 in
theorem m_X5_hasArrived {G : va_G} {cy : ClassId} {q : Nat → Nat} (M : MT) (th : Int) (kept far : Int → Int) (x : Int) (hx : In x) (B : Int) (hF : WF M B) (hB2 : B ≤ 800000) : Ct G cy yX5_hasArrived cX5_hasArrived 3 (some .boolean) ({ frames := 3, cells := 0, slots := 0, locals := 65 } : Room) 0 0 [.ref (q 0), .int (enc (x))] (wP cy q M th kept far) (fun v w1 => v = some (.int (enc (if kT M x = 0 ∧ 0 ≤ M 15 x then 1 else 0))) ∧ ∃ k' f', w1 = wP cy q M (kT M x) k' f') := by
  refine Ct.ofI (by decide) (Nat.le_of_ble_eq_true rfl) rfl rfl (fun x w1 h => by obtain ⟨h1, -⟩ := h; cases h1; exact nar_b) ?_
  intro c X ret
  have hB := hF.bd (by omega)
  obtain ⟨w0, w1, w2, w3, w4⟩ := hF.r
  have h17 := hF.2.2.2.2.2.1
  have h172 := hF.2.2.2.2.2.2.1
  have h20 := hF.2.2.2.2.2.2.2.1
  refine Tlv (lv' := [(0, .ref (q 0)), (1, .int (enc (x)))]) rfl ?_
  refine tw_aload_n X dX5_hasArrived_0 0 rfl rfl ?_
  refine tw_iload_n X dX5_hasArrived_1 1 rfl rfl ?_
  refine tw_iconst X dX5_hasArrived_2 ?_
  refine tw_callV X (As := [.int (enc (x)), .int (enc (4))]) (st := []) vw_X5_167 (m_X5_tourist_4 (q := q) M th kept far (x) hx B hF hB2) ([]) ([]) rfl rfl (q0 := 0) rfl rfl rfl ⟨rfl, rfl, Nat.le_of_ble_eq_true rfl, Nat.le_of_ble_eq_true rfl⟩ ⟨Nat.le_of_ble_eq_true rfl, Nat.le_of_ble_eq_true rfl⟩ (Nat.le_of_ble_eq_true rfl) dX5_hasArrived_3 (fun v w1 hp => ?_)
  obtain ⟨rfl, k1, f1, rfl⟩ := hp
  refine Teq (ws' := wP cy q M (kT M x) k1 f1) (lv' := [(0, .ref (q 0)), (1, .int (enc (x)))]) (st' := [.int (enc (if kT M x = 0 then dnM M x else 0))]) rfl rfl rfl ?_
  refine tw_istore_n (lv' := [(2, .int (enc (if kT M x = 0 then dnM M x else 0))), (0, .ref (q 0)), (1, .int (enc (x)))]) X dX5_hasArrived_6 rfl (by decide) rfl ?_
  refine tw_aload_n X dX5_hasArrived_7 1 rfl rfl ?_
  refine gf_X5_40 X (v := .int (enc ((kT M x)))) 0 rfl rfl dX5_hasArrived_8 ?_
  refine tw_if_ne (tgt := 23) X (by unfold kT; split <;> exact In_of (by decide) (by decide)) dX5_hasArrived_11 (by decide) (fun c11 => ?_) (fun c11 => ?_)
  · skip
    refine tw_iconst X dX5_hasArrived_23 ?_
    exact ret _ _ _ _ dX5_hasArrived_24 (by refine ⟨?_, _, _, rfl⟩; first | (rw [if_neg (fun z => absurd z.1 c11)]; done) | (rw [if_neg (fun z => by omega)]; done) | (rw [if_pos ⟨c11, by omega⟩]; done))
  · skip
    have hkt : 0 ≤ x ∧ x ≤ M 17 0 - 1 := by unfold kT at c11; by_cases z : 0 ≤ x ∧ x ≤ M 17 0 - 1; exact z; (rw [if_neg z] at c11; exact absurd c11 (by decide))
    have hTI := hF.2.2.2.2.2.2.2.2.2.1 x hkt.1 (by omega)
    unfold TI at hTI
    have hdn := dn_no (M := M) (t := x) (by omega)
    refine tw_iload_n X dX5_hasArrived_14 0 rfl rfl ?_
    refine tw_iconst X dX5_hasArrived_15 ?_
    refine tw_icmp_eq (tgt := 23) X (by rw [if_pos c11]; exact dn_In hB _) (In_of (by omega) (by omega)) dX5_hasArrived_16 (by decide) (fun c16 => ?_) (fun c16 => ?_)
    · skip
      rw [if_pos c11, hdn] at c16
      refine tw_iconst X dX5_hasArrived_23 ?_
      exact ret _ _ _ _ dX5_hasArrived_24 (by refine ⟨?_, _, _, rfl⟩; first | (rw [if_neg (fun z => absurd z.1 c11)]; done) | (rw [if_neg (fun z => by omega)]; done) | (rw [if_pos ⟨c11, by omega⟩]; done))
    · skip
      rw [ne_eq, if_pos c11, hdn] at c16
      refine tw_iconst X dX5_hasArrived_19 ?_
      refine tw_goto (tgt := 24) X dX5_hasArrived_20 (by decide) ?_
      exact ret _ _ _ _ dX5_hasArrived_24 (by refine ⟨?_, _, _, rfl⟩; first | (rw [if_neg (fun z => absurd z.1 c11)]; done) | (rw [if_neg (fun z => by omega)]; done) | (rw [if_pos ⟨c11, by omega⟩]; done))
set_option maxRecDepth 100000 in
set_option maxHeartbeats 4000000 in
theorem m_X5_distanceOf_0 {G : va_G} {cy : ClassId} {q : Nat → Nat} (M : MT) (th : Int) (kept far : Int → Int) (x y : Int) (hx : In x) (hy : In y) (B : Int) (hF : WF M B) (hB2 : B ≤ 800000) : Ct G cy yX5_distanceOf cX5_distanceOf 4 (some .int) ({ frames := 4, cells := 0, slots := 0, locals := 92 } : Room) 0 0 [.ref (q 0), .int (enc (x)), .int (enc (y)), .int (enc (0))] (wP cy q M th kept far) (fun v w1 => v = some (.int (enc (if kC M x y = 0 then dO M true x y else 0))) ∧ ∃ k' f', w1 = wP cy q M (kC M x y) k' f') := by
  refine Ct.ofI (by decide) (Nat.le_of_ble_eq_true rfl) rfl rfl (fun _ _ _ => rfl) ?_
  intro c X ret
  have hB := hF.bd (by omega)
  obtain ⟨w0, w1, w2, w3, w4⟩ := hF.r
  have h17 := hF.2.2.2.2.2.1
  have h172 := hF.2.2.2.2.2.2.1
  have h20 := hF.2.2.2.2.2.2.2.1
  refine Tlv (lv' := [(0, .ref (q 0)), (1, .int (enc (x))), (2, .int (enc (y))), (3, .int (enc (0)))]) rfl ?_
  refine tw_aload_n X dX5_distanceOf_0 0 rfl rfl ?_
  refine tw_iconst X dX5_distanceOf_1 ?_
  refine pf_X5_40 X (ws' := wP cy q M (0) kept far) 0 rfl (Nat.le_of_ble_eq_true rfl) rfl rfl dX5_distanceOf_2 rfl ?_
  refine tw_aload_n X dX5_distanceOf_5 0 rfl rfl ?_
  refine tw_iload_n X dX5_distanceOf_6 1 rfl rfl ?_
  refine tw_callV X (As := [.int (enc (x))]) (st := []) vw_X5_119 (m_X5_isCrossing (q := q) M (0) kept far (x) hx hB) ([]) ([]) rfl rfl (q0 := 0) rfl rfl rfl ⟨rfl, rfl, Nat.le_of_ble_eq_true rfl, Nat.le_of_ble_eq_true rfl⟩ ⟨Nat.le_of_ble_eq_true rfl, Nat.le_of_ble_eq_true rfl⟩ (Nat.le_of_ble_eq_true rfl) dX5_distanceOf_7 (fun v w1 hp => ?_)
  obtain ⟨rfl, rfl⟩ := hp
  refine Teq (ws' := wP cy q M (0) kept far) (lv' := [(0, .ref (q 0)), (1, .int (enc (x))), (2, .int (enc (y))), (3, .int (enc (0)))]) (st' := [.int (enc (if 0 ≤ x ∧ x ≤ M 19 0 - 1 then 1 else 0))]) rfl rfl rfl ?_
  refine tw_if_eq (tgt := 31) X In_b dX5_distanceOf_10 (by decide) (fun c10 => ?_) (fun c10 => ?_)
  · skip
    have c10 := b01.mp c10
    have hk : kC M x y = 1 := kC_n (Or.inl c10)
    refine tw_aload_n X dX5_distanceOf_31 0 rfl rfl ?_
    refine tw_iconst X dX5_distanceOf_32 ?_
    refine tw_callV X (As := [.int (enc (1))]) (st := []) vw_X5_116 (m_X5_fail (q := q) M (0) kept far (1)) ([]) ([]) rfl rfl (q0 := 0) rfl rfl rfl ⟨rfl, rfl, Nat.le_of_ble_eq_true rfl, Nat.le_of_ble_eq_true rfl⟩ ⟨Nat.le_of_ble_eq_true rfl, Nat.le_of_ble_eq_true rfl⟩ (Nat.le_of_ble_eq_true rfl) dX5_distanceOf_33 (fun v w1 hp => ?_)
    obtain ⟨rfl, rfl⟩ := hp
    refine Teq (ws' := wP cy q M 1 kept far) (lv' := [(0, .ref (q 0)), (1, .int (enc (x))), (2, .int (enc (y))), (3, .int (enc (0)))]) (st' := [.int (enc (0))]) rfl rfl rfl ?_
    exact ret _ _ _ _ dX5_distanceOf_36 (by first | exact ⟨ansY hk, exP hk⟩ | exact ⟨ansN hk (by decide), exP hk⟩)
  · skip
    have c10 := b01n.mp c10
    refine tw_aload_n X dX5_distanceOf_13 0 rfl rfl ?_
    refine tw_iload_n X dX5_distanceOf_14 2 rfl rfl ?_
    refine tw_callV X (As := [.int (enc (y))]) (st := []) vw_X5_119 (m_X5_isCrossing (q := q) M (0) kept far (y) hy hB) ([]) ([]) rfl rfl (q0 := 0) rfl rfl rfl ⟨rfl, rfl, Nat.le_of_ble_eq_true rfl, Nat.le_of_ble_eq_true rfl⟩ ⟨Nat.le_of_ble_eq_true rfl, Nat.le_of_ble_eq_true rfl⟩ (Nat.le_of_ble_eq_true rfl) dX5_distanceOf_15 (fun v w1 hp => ?_)
    obtain ⟨rfl, rfl⟩ := hp
    refine Teq (ws' := wP cy q M (0) kept far) (lv' := [(0, .ref (q 0)), (1, .int (enc (x))), (2, .int (enc (y))), (3, .int (enc (0)))]) (st' := [.int (enc (if 0 ≤ y ∧ y ≤ M 19 0 - 1 then 1 else 0))]) rfl rfl rfl ?_
    refine tw_if_eq (tgt := 31) X In_b dX5_distanceOf_18 (by decide) (fun c18 => ?_) (fun c18 => ?_)
    · skip
      have c18 := b01.mp c18
      have hk : kC M x y = 1 := kC_n (Or.inr c18)
      refine tw_aload_n X dX5_distanceOf_31 0 rfl rfl ?_
      refine tw_iconst X dX5_distanceOf_32 ?_
      refine tw_callV X (As := [.int (enc (1))]) (st := []) vw_X5_116 (m_X5_fail (q := q) M (0) kept far (1)) ([]) ([]) rfl rfl (q0 := 0) rfl rfl rfl ⟨rfl, rfl, Nat.le_of_ble_eq_true rfl, Nat.le_of_ble_eq_true rfl⟩ ⟨Nat.le_of_ble_eq_true rfl, Nat.le_of_ble_eq_true rfl⟩ (Nat.le_of_ble_eq_true rfl) dX5_distanceOf_33 (fun v w1 hp => ?_)
      obtain ⟨rfl, rfl⟩ := hp
      refine Teq (ws' := wP cy q M 1 kept far) (lv' := [(0, .ref (q 0)), (1, .int (enc (x))), (2, .int (enc (y))), (3, .int (enc (0)))]) (st' := [.int (enc (0))]) rfl rfl rfl ?_
      exact ret _ _ _ _ dX5_distanceOf_36 (by first | exact ⟨ansY hk, exP hk⟩ | exact ⟨ansN hk (by decide), exP hk⟩)
    · skip
      have c18 := b01n.mp c18
      have hk : kC M x y = 0 := kC_y c10 c18
      refine tw_aload_n X dX5_distanceOf_21 0 rfl rfl ?_
      refine tw_iload_n X dX5_distanceOf_22 1 rfl rfl ?_
      refine tw_iload_n X dX5_distanceOf_23 2 rfl rfl ?_
      refine tw_iload_n X dX5_distanceOf_24 3 rfl rfl ?_
      refine tw_callV X (As := [.int (enc (x)), .int (enc (y)), .int (enc (0))]) (st := []) vw_X5_122 (m_X5_apart (q := q) M (0) kept far (x) (y) true hF.r hB (by omega) (by omega)) ([]) ([]) rfl rfl (q0 := 0) rfl rfl rfl ⟨rfl, rfl, Nat.le_of_ble_eq_true rfl, Nat.le_of_ble_eq_true rfl⟩ ⟨Nat.le_of_ble_eq_true rfl, Nat.le_of_ble_eq_true rfl⟩ (Nat.le_of_ble_eq_true rfl) dX5_distanceOf_25 (fun v w1 hp => ?_)
      obtain ⟨rfl, fm, rfl⟩ := hp
      refine Teq (ws' := wP cy q M (0) kept fm) (lv' := [(0, .ref (q 0)), (1, .int (enc (x))), (2, .int (enc (y))), (3, .int (enc (0)))]) (st' := [.int (enc (dO M true x y))]) rfl rfl rfl ?_
      refine tw_goto (tgt := 36) X dX5_distanceOf_28 (by decide) ?_
      exact ret _ _ _ _ dX5_distanceOf_36 (by first | exact ⟨ansY hk, exP hk⟩ | exact ⟨ansN hk (by decide), exP hk⟩)
set_option maxRecDepth 100000 in
set_option maxHeartbeats 4000000 in
theorem m_X5_openDistance {G : va_G} {cy : ClassId} {q : Nat → Nat} (M : MT) (th : Int) (kept far : Int → Int) (x y : Int) (hx : In x) (hy : In y) (B : Int) (hF : WF M B) (hB2 : B ≤ 800000) : Ct G cy yX5_openDistance cX5_openDistance 3 (some .int) ({ frames := 5, cells := 0, slots := 0, locals := 115 } : Room) 0 0 [.ref (q 0), .int (enc (x)), .int (enc (y))] (wP cy q M th kept far) (fun v w1 => v = some (.int (enc (if kC M x y = 0 then dO M true x y else 0))) ∧ ∃ k' f', w1 = wP cy q M (kC M x y) k' f') := by
  refine Ct.ofI (by decide) (Nat.le_of_ble_eq_true rfl) rfl rfl (fun _ _ _ => rfl) ?_
  intro c X ret
  have hB := hF.bd (by omega)
  obtain ⟨w0, w1, w2, w3, w4⟩ := hF.r
  have h17 := hF.2.2.2.2.2.1
  have h172 := hF.2.2.2.2.2.2.1
  have h20 := hF.2.2.2.2.2.2.2.1
  refine Tlv (lv' := [(0, .ref (q 0)), (1, .int (enc (x))), (2, .int (enc (y)))]) rfl ?_
  refine tw_aload_n X dX5_openDistance_0 0 rfl rfl ?_
  refine tw_iload_n X dX5_openDistance_1 1 rfl rfl ?_
  refine tw_iload_n X dX5_openDistance_2 2 rfl rfl ?_
  refine tw_iconst X dX5_openDistance_3 ?_
  refine tw_callV X (As := [.int (enc (x)), .int (enc (y)), .int (enc (0))]) (st := []) vw_X5_158 (m_X5_distanceOf_0 (q := q) M th kept far x y hx hy B hF hB2) ([]) ([]) rfl rfl (q0 := 0) rfl rfl rfl ⟨rfl, rfl, Nat.le_of_ble_eq_true rfl, Nat.le_of_ble_eq_true rfl⟩ ⟨Nat.le_of_ble_eq_true rfl, Nat.le_of_ble_eq_true rfl⟩ (Nat.le_of_ble_eq_true rfl) dX5_openDistance_4 (fun v w1 hp => ?_)
  obtain ⟨rfl, k1, f1, rfl⟩ := hp
  refine Teq (ws' := wP cy q M (kC M x y) k1 f1) (lv' := [(0, .ref (q 0)), (1, .int (enc (x))), (2, .int (enc (y)))]) (st' := [.int (enc (if kC M x y = 0 then dO M true x y else 0))]) rfl rfl rfl ?_
  exact ret _ _ _ _ dX5_openDistance_7 ⟨rfl, _, _, rfl⟩
set_option maxRecDepth 100000 in
set_option maxHeartbeats 4000000 in
theorem m_X5_distanceOf_1 {G : va_G} {cy : ClassId} {q : Nat → Nat} (M : MT) (th : Int) (kept far : Int → Int) (x y : Int) (hx : In x) (hy : In y) (B : Int) (hF : WF M B) (hB2 : B ≤ 800000) : Ct G cy yX5_distanceOf cX5_distanceOf 4 (some .int) ({ frames := 4, cells := 0, slots := 0, locals := 92 } : Room) 0 0 [.ref (q 0), .int (enc (x)), .int (enc (y)), .int (enc (1))] (wP cy q M th kept far) (fun v w1 => v = some (.int (enc (if kC M x y = 0 then dO M false x y else 0))) ∧ ∃ k' f', w1 = wP cy q M (kC M x y) k' f') := by
  refine Ct.ofI (by decide) (Nat.le_of_ble_eq_true rfl) rfl rfl (fun _ _ _ => rfl) ?_
  intro c X ret
  have hB := hF.bd (by omega)
  obtain ⟨w0, w1, w2, w3, w4⟩ := hF.r
  have h17 := hF.2.2.2.2.2.1
  have h172 := hF.2.2.2.2.2.2.1
  have h20 := hF.2.2.2.2.2.2.2.1
  refine Tlv (lv' := [(0, .ref (q 0)), (1, .int (enc (x))), (2, .int (enc (y))), (3, .int (enc (1)))]) rfl ?_
  refine tw_aload_n X dX5_distanceOf_0 0 rfl rfl ?_
  refine tw_iconst X dX5_distanceOf_1 ?_
  refine pf_X5_40 X (ws' := wP cy q M (0) kept far) 0 rfl (Nat.le_of_ble_eq_true rfl) rfl rfl dX5_distanceOf_2 rfl ?_
  refine tw_aload_n X dX5_distanceOf_5 0 rfl rfl ?_
  refine tw_iload_n X dX5_distanceOf_6 1 rfl rfl ?_
  refine tw_callV X (As := [.int (enc (x))]) (st := []) vw_X5_119 (m_X5_isCrossing (q := q) M (0) kept far (x) hx hB) ([]) ([]) rfl rfl (q0 := 0) rfl rfl rfl ⟨rfl, rfl, Nat.le_of_ble_eq_true rfl, Nat.le_of_ble_eq_true rfl⟩ ⟨Nat.le_of_ble_eq_true rfl, Nat.le_of_ble_eq_true rfl⟩ (Nat.le_of_ble_eq_true rfl) dX5_distanceOf_7 (fun v w1 hp => ?_)
  obtain ⟨rfl, rfl⟩ := hp
  refine Teq (ws' := wP cy q M (0) kept far) (lv' := [(0, .ref (q 0)), (1, .int (enc (x))), (2, .int (enc (y))), (3, .int (enc (1)))]) (st' := [.int (enc (if 0 ≤ x ∧ x ≤ M 19 0 - 1 then 1 else 0))]) rfl rfl rfl ?_
  refine tw_if_eq (tgt := 31) X In_b dX5_distanceOf_10 (by decide) (fun c10 => ?_) (fun c10 => ?_)
  · skip
    have c10 := b01.mp c10
    have hk : kC M x y = 1 := kC_n (Or.inl c10)
    refine tw_aload_n X dX5_distanceOf_31 0 rfl rfl ?_
    refine tw_iconst X dX5_distanceOf_32 ?_
    refine tw_callV X (As := [.int (enc (1))]) (st := []) vw_X5_116 (m_X5_fail (q := q) M (0) kept far (1)) ([]) ([]) rfl rfl (q0 := 0) rfl rfl rfl ⟨rfl, rfl, Nat.le_of_ble_eq_true rfl, Nat.le_of_ble_eq_true rfl⟩ ⟨Nat.le_of_ble_eq_true rfl, Nat.le_of_ble_eq_true rfl⟩ (Nat.le_of_ble_eq_true rfl) dX5_distanceOf_33 (fun v w1 hp => ?_)
    obtain ⟨rfl, rfl⟩ := hp
    refine Teq (ws' := wP cy q M 1 kept far) (lv' := [(0, .ref (q 0)), (1, .int (enc (x))), (2, .int (enc (y))), (3, .int (enc (1)))]) (st' := [.int (enc (0))]) rfl rfl rfl ?_
    exact ret _ _ _ _ dX5_distanceOf_36 (by first | exact ⟨ansY hk, exP hk⟩ | exact ⟨ansN hk (by decide), exP hk⟩)
  · skip
    have c10 := b01n.mp c10
    refine tw_aload_n X dX5_distanceOf_13 0 rfl rfl ?_
    refine tw_iload_n X dX5_distanceOf_14 2 rfl rfl ?_
    refine tw_callV X (As := [.int (enc (y))]) (st := []) vw_X5_119 (m_X5_isCrossing (q := q) M (0) kept far (y) hy hB) ([]) ([]) rfl rfl (q0 := 0) rfl rfl rfl ⟨rfl, rfl, Nat.le_of_ble_eq_true rfl, Nat.le_of_ble_eq_true rfl⟩ ⟨Nat.le_of_ble_eq_true rfl, Nat.le_of_ble_eq_true rfl⟩ (Nat.le_of_ble_eq_true rfl) dX5_distanceOf_15 (fun v w1 hp => ?_)
    obtain ⟨rfl, rfl⟩ := hp
    refine Teq (ws' := wP cy q M (0) kept far) (lv' := [(0, .ref (q 0)), (1, .int (enc (x))), (2, .int (enc (y))), (3, .int (enc (1)))]) (st' := [.int (enc (if 0 ≤ y ∧ y ≤ M 19 0 - 1 then 1 else 0))]) rfl rfl rfl ?_
    refine tw_if_eq (tgt := 31) X In_b dX5_distanceOf_18 (by decide) (fun c18 => ?_) (fun c18 => ?_)
    · skip
      have c18 := b01.mp c18
      have hk : kC M x y = 1 := kC_n (Or.inr c18)
      refine tw_aload_n X dX5_distanceOf_31 0 rfl rfl ?_
      refine tw_iconst X dX5_distanceOf_32 ?_
      refine tw_callV X (As := [.int (enc (1))]) (st := []) vw_X5_116 (m_X5_fail (q := q) M (0) kept far (1)) ([]) ([]) rfl rfl (q0 := 0) rfl rfl rfl ⟨rfl, rfl, Nat.le_of_ble_eq_true rfl, Nat.le_of_ble_eq_true rfl⟩ ⟨Nat.le_of_ble_eq_true rfl, Nat.le_of_ble_eq_true rfl⟩ (Nat.le_of_ble_eq_true rfl) dX5_distanceOf_33 (fun v w1 hp => ?_)
      obtain ⟨rfl, rfl⟩ := hp
      refine Teq (ws' := wP cy q M 1 kept far) (lv' := [(0, .ref (q 0)), (1, .int (enc (x))), (2, .int (enc (y))), (3, .int (enc (1)))]) (st' := [.int (enc (0))]) rfl rfl rfl ?_
      exact ret _ _ _ _ dX5_distanceOf_36 (by first | exact ⟨ansY hk, exP hk⟩ | exact ⟨ansN hk (by decide), exP hk⟩)
    · skip
      have c18 := b01n.mp c18
      have hk : kC M x y = 0 := kC_y c10 c18
      refine tw_aload_n X dX5_distanceOf_21 0 rfl rfl ?_
      refine tw_iload_n X dX5_distanceOf_22 1 rfl rfl ?_
      refine tw_iload_n X dX5_distanceOf_23 2 rfl rfl ?_
      refine tw_iload_n X dX5_distanceOf_24 3 rfl rfl ?_
      refine tw_callV X (As := [.int (enc (x)), .int (enc (y)), .int (enc (1))]) (st := []) vw_X5_122 (m_X5_apart (q := q) M (0) kept far (x) (y) false hF.r hB (by omega) (by omega)) ([]) ([]) rfl rfl (q0 := 0) rfl rfl rfl ⟨rfl, rfl, Nat.le_of_ble_eq_true rfl, Nat.le_of_ble_eq_true rfl⟩ ⟨Nat.le_of_ble_eq_true rfl, Nat.le_of_ble_eq_true rfl⟩ (Nat.le_of_ble_eq_true rfl) dX5_distanceOf_25 (fun v w1 hp => ?_)
      obtain ⟨rfl, fm, rfl⟩ := hp
      refine Teq (ws' := wP cy q M (0) kept fm) (lv' := [(0, .ref (q 0)), (1, .int (enc (x))), (2, .int (enc (y))), (3, .int (enc (1)))]) (st' := [.int (enc (dO M false x y))]) rfl rfl rfl ?_
      refine tw_goto (tgt := 36) X dX5_distanceOf_28 (by decide) ?_
      exact ret _ _ _ _ dX5_distanceOf_36 (by first | exact ⟨ansY hk, exP hk⟩ | exact ⟨ansN hk (by decide), exP hk⟩)
set_option maxRecDepth 100000 in
set_option maxHeartbeats 4000000 in
theorem m_X5_distance {G : va_G} {cy : ClassId} {q : Nat → Nat} (M : MT) (th : Int) (kept far : Int → Int) (x y : Int) (hx : In x) (hy : In y) (B : Int) (hF : WF M B) (hB2 : B ≤ 800000) : Ct G cy yX5_distance cX5_distance 3 (some .int) ({ frames := 5, cells := 0, slots := 0, locals := 115 } : Room) 0 0 [.ref (q 0), .int (enc (x)), .int (enc (y))] (wP cy q M th kept far) (fun v w1 => v = some (.int (enc (if kC M x y = 0 then dO M false x y else 0))) ∧ ∃ k' f', w1 = wP cy q M (kC M x y) k' f') := by
  refine Ct.ofI (by decide) (Nat.le_of_ble_eq_true rfl) rfl rfl (fun _ _ _ => rfl) ?_
  intro c X ret
  have hB := hF.bd (by omega)
  obtain ⟨w0, w1, w2, w3, w4⟩ := hF.r
  have h17 := hF.2.2.2.2.2.1
  have h172 := hF.2.2.2.2.2.2.1
  have h20 := hF.2.2.2.2.2.2.2.1
  refine Tlv (lv' := [(0, .ref (q 0)), (1, .int (enc (x))), (2, .int (enc (y)))]) rfl ?_
  refine tw_aload_n X dX5_distance_0 0 rfl rfl ?_
  refine tw_iload_n X dX5_distance_1 1 rfl rfl ?_
  refine tw_iload_n X dX5_distance_2 2 rfl rfl ?_
  refine tw_iconst X dX5_distance_3 ?_
  refine tw_callV X (As := [.int (enc (x)), .int (enc (y)), .int (enc (1))]) (st := []) vw_X5_158 (m_X5_distanceOf_1 (q := q) M th kept far x y hx hy B hF hB2) ([]) ([]) rfl rfl (q0 := 0) rfl rfl rfl ⟨rfl, rfl, Nat.le_of_ble_eq_true rfl, Nat.le_of_ble_eq_true rfl⟩ ⟨Nat.le_of_ble_eq_true rfl, Nat.le_of_ble_eq_true rfl⟩ (Nat.le_of_ble_eq_true rfl) dX5_distance_4 (fun v w1 hp => ?_)
  obtain ⟨rfl, k1, f1, rfl⟩ := hp
  refine Teq (ws' := wP cy q M (kC M x y) k1 f1) (lv' := [(0, .ref (q 0)), (1, .int (enc (x))), (2, .int (enc (y)))]) (st' := [.int (enc (if kC M x y = 0 then dO M false x y else 0))]) rfl rfl rfl ?_
  exact ret _ _ _ _ dX5_distance_7 ⟨rfl, _, _, rfl⟩
set_option maxRecDepth 100000 in
set_option maxHeartbeats 4000000 in
theorem m_X5_nextRoad {G : va_G} {cy : ClassId} {q : Nat → Nat} (M : MT) (th : Int) (kept far : Int → Int) (x y : Int) (hx : In x) (hy : In y) (B : Int) (hF : WF M B) (hB2 : B ≤ 800000) : Ct G cy yX5_nextRoad cX5_nextRoad 3 (some .int) ({ frames := 4, cells := 0, slots := 0, locals := 95 } : Room) 0 0 [.ref (q 0), .int (enc (x)), .int (enc (y))] (wP cy q M th kept far) (fun v w1 => v = some (.int (enc (if kC M x y = 0 then (if x = y then -1 else toward M x y) else 0))) ∧ ∃ k' f', w1 = wP cy q M (kC M x y) k' f') := by
  refine Ct.ofI (by decide) (Nat.le_of_ble_eq_true rfl) rfl rfl (fun _ _ _ => rfl) ?_
  intro c X ret
  have hB := hF.bd (by omega)
  obtain ⟨w0, w1, w2, w3, w4⟩ := hF.r
  have h17 := hF.2.2.2.2.2.1
  have h172 := hF.2.2.2.2.2.2.1
  have h20 := hF.2.2.2.2.2.2.2.1
  refine Tlv (lv' := [(0, .ref (q 0)), (1, .int (enc (x))), (2, .int (enc (y)))]) rfl ?_
  refine tw_aload_n X dX5_nextRoad_0 0 rfl rfl ?_
  refine tw_iconst X dX5_nextRoad_1 ?_
  refine pf_X5_40 X (ws' := wP cy q M (0) kept far) 0 rfl (Nat.le_of_ble_eq_true rfl) rfl rfl dX5_nextRoad_2 rfl ?_
  refine tw_aload_n X dX5_nextRoad_5 0 rfl rfl ?_
  refine tw_iload_n X dX5_nextRoad_6 1 rfl rfl ?_
  refine tw_callV X (As := [.int (enc (x))]) (st := []) vw_X5_119 (m_X5_isCrossing (q := q) M (0) kept far (x) hx hB) ([]) ([]) rfl rfl (q0 := 0) rfl rfl rfl ⟨rfl, rfl, Nat.le_of_ble_eq_true rfl, Nat.le_of_ble_eq_true rfl⟩ ⟨Nat.le_of_ble_eq_true rfl, Nat.le_of_ble_eq_true rfl⟩ (Nat.le_of_ble_eq_true rfl) dX5_nextRoad_7 (fun v w1 hp => ?_)
  obtain ⟨rfl, rfl⟩ := hp
  refine Teq (ws' := wP cy q M (0) kept far) (lv' := [(0, .ref (q 0)), (1, .int (enc (x))), (2, .int (enc (y)))]) (st' := [.int (enc (if 0 ≤ x ∧ x ≤ M 19 0 - 1 then 1 else 0))]) rfl rfl rfl ?_
  refine tw_if_eq (tgt := 30) X In_b dX5_nextRoad_10 (by decide) (fun c10 => ?_) (fun c10 => ?_)
  · skip
    have c10 := b01.mp c10
    have hk : kC M x y = 1 := kC_n (Or.inl c10)
    refine tw_aload_n X dX5_nextRoad_30 0 rfl rfl ?_
    refine tw_iconst X dX5_nextRoad_31 ?_
    refine tw_callV X (As := [.int (enc (1))]) (st := []) vw_X5_116 (m_X5_fail (q := q) M (0) kept far (1)) ([]) ([]) rfl rfl (q0 := 0) rfl rfl rfl ⟨rfl, rfl, Nat.le_of_ble_eq_true rfl, Nat.le_of_ble_eq_true rfl⟩ ⟨Nat.le_of_ble_eq_true rfl, Nat.le_of_ble_eq_true rfl⟩ (Nat.le_of_ble_eq_true rfl) dX5_nextRoad_32 (fun v w1 hp => ?_)
    obtain ⟨rfl, rfl⟩ := hp
    refine Teq (ws' := wP cy q M 1 kept far) (lv' := [(0, .ref (q 0)), (1, .int (enc (x))), (2, .int (enc (y)))]) (st' := [.int (enc (0))]) rfl rfl rfl ?_
    exact ret _ _ _ _ dX5_nextRoad_35 (by first | exact ⟨ansY hk, exP hk⟩ | exact ⟨ansN hk (by decide), exP hk⟩)
  · skip
    have c10 := b01n.mp c10
    refine tw_aload_n X dX5_nextRoad_13 0 rfl rfl ?_
    refine tw_iload_n X dX5_nextRoad_14 2 rfl rfl ?_
    refine tw_callV X (As := [.int (enc (y))]) (st := []) vw_X5_119 (m_X5_isCrossing (q := q) M (0) kept far (y) hy hB) ([]) ([]) rfl rfl (q0 := 0) rfl rfl rfl ⟨rfl, rfl, Nat.le_of_ble_eq_true rfl, Nat.le_of_ble_eq_true rfl⟩ ⟨Nat.le_of_ble_eq_true rfl, Nat.le_of_ble_eq_true rfl⟩ (Nat.le_of_ble_eq_true rfl) dX5_nextRoad_15 (fun v w1 hp => ?_)
    obtain ⟨rfl, rfl⟩ := hp
    refine Teq (ws' := wP cy q M (0) kept far) (lv' := [(0, .ref (q 0)), (1, .int (enc (x))), (2, .int (enc (y)))]) (st' := [.int (enc (if 0 ≤ y ∧ y ≤ M 19 0 - 1 then 1 else 0))]) rfl rfl rfl ?_
    refine tw_if_eq (tgt := 30) X In_b dX5_nextRoad_18 (by decide) (fun c18 => ?_) (fun c18 => ?_)
    · skip
      have c18 := b01.mp c18
      have hk : kC M x y = 1 := kC_n (Or.inr c18)
      refine tw_aload_n X dX5_nextRoad_30 0 rfl rfl ?_
      refine tw_iconst X dX5_nextRoad_31 ?_
      refine tw_callV X (As := [.int (enc (1))]) (st := []) vw_X5_116 (m_X5_fail (q := q) M (0) kept far (1)) ([]) ([]) rfl rfl (q0 := 0) rfl rfl rfl ⟨rfl, rfl, Nat.le_of_ble_eq_true rfl, Nat.le_of_ble_eq_true rfl⟩ ⟨Nat.le_of_ble_eq_true rfl, Nat.le_of_ble_eq_true rfl⟩ (Nat.le_of_ble_eq_true rfl) dX5_nextRoad_32 (fun v w1 hp => ?_)
      obtain ⟨rfl, rfl⟩ := hp
      refine Teq (ws' := wP cy q M 1 kept far) (lv' := [(0, .ref (q 0)), (1, .int (enc (x))), (2, .int (enc (y)))]) (st' := [.int (enc (0))]) rfl rfl rfl ?_
      exact ret _ _ _ _ dX5_nextRoad_35 (by first | exact ⟨ansY hk, exP hk⟩ | exact ⟨ansN hk (by decide), exP hk⟩)
    · skip
      have c18 := b01n.mp c18
      have hk : kC M x y = 0 := kC_y c10 c18
      refine tw_aload_n X dX5_nextRoad_21 0 rfl rfl ?_
      refine tw_iload_n X dX5_nextRoad_22 1 rfl rfl ?_
      refine tw_iload_n X dX5_nextRoad_23 2 rfl rfl ?_
      refine tw_callV X (As := [.int (enc (x)), .int (enc (y))]) (st := []) vw_X5_94 (m_X5_takes (q := q) M (0) kept far (x) (y) hF.r hB (by omega) (by omega)) ([]) ([]) rfl rfl (q0 := 0) rfl rfl rfl ⟨rfl, rfl, Nat.le_of_ble_eq_true rfl, Nat.le_of_ble_eq_true rfl⟩ ⟨Nat.le_of_ble_eq_true rfl, Nat.le_of_ble_eq_true rfl⟩ (Nat.le_of_ble_eq_true rfl) dX5_nextRoad_24 (fun v w1 hp => ?_)
      obtain ⟨rfl, fm, rfl⟩ := hp
      refine Teq (ws' := wP cy q M (0) kept fm) (lv' := [(0, .ref (q 0)), (1, .int (enc (x))), (2, .int (enc (y)))]) (st' := [.int (enc (if x = y then -1 else toward M x y))]) rfl rfl rfl ?_
      refine tw_goto (tgt := 35) X dX5_nextRoad_27 (by decide) ?_
      exact ret _ _ _ _ dX5_nextRoad_35 (by first | exact ⟨ansY hk, exP hk⟩ | exact ⟨ansN hk (by decide), exP hk⟩)
set_option maxRecDepth 100000 in
set_option maxHeartbeats 4000000 in
theorem m_X5_frayedIn {G : va_G} {cy : ClassId} {q : Nat → Nat} (M : MT) (th : Int) (kept far : Int → Int) (x : Int) (hx : In x) (B : Int) (hF : WF M B) (hB2 : B ≤ 800000) : Ct G cy yX5_frayedIn cX5_frayedIn 3 (some .int) ({ frames := 7, cells := 0, slots := 0, locals := 161 } : Room) 0 0 [.ref (q 0), .int (enc (x))] (wP cy q M th kept far) (fun v w1 => v = some (.int (enc (if kP x = 0 then foreI M x.toNat else 0))) ∧ ∃ k' f', w1 = wP cy q M (kP x) k' f') := by
  refine Ct.ofI (by decide) (Nat.le_of_ble_eq_true rfl) rfl rfl (fun _ _ _ => rfl) ?_
  intro c X ret
  have hB := hF.bd (by omega)
  obtain ⟨w0, w1, w2, w3, w4⟩ := hF.r
  have h17 := hF.2.2.2.2.2.1
  have h172 := hF.2.2.2.2.2.2.1
  have h20 := hF.2.2.2.2.2.2.2.1
  refine Tlv (lv' := [(0, .ref (q 0)), (1, .int (enc (x)))]) rfl ?_
  refine tw_aload_n X dX5_frayedIn_0 0 rfl rfl ?_
  refine tw_iconst X dX5_frayedIn_1 ?_
  refine pf_X5_40 X (ws' := wP cy q M (0) kept far) 0 rfl (Nat.le_of_ble_eq_true rfl) rfl rfl dX5_frayedIn_2 rfl ?_
  refine tw_iload_n X dX5_frayedIn_5 1 rfl rfl ?_
  refine tw_iconst X dX5_frayedIn_6 ?_
  refine tw_bipush X dX5_frayedIn_7 (by decide) ?_
  refine tw_callS X (As := [.int (enc (x)), .int (enc (1)), .int (enc (50))]) (st := []) sw_X5_47 (m_X5_isIn (x) (1) (50) hx (In_of (by decide) (by decide)) (In_of (by decide) (by decide))) ([]) (wP cy q M (0) kept far) rfl rfl rfl ⟨rfl, rfl, Nat.le_of_ble_eq_true rfl, Nat.le_of_ble_eq_true rfl⟩ ⟨Nat.le_of_ble_eq_true rfl, Nat.le_of_ble_eq_true rfl⟩ (Nat.le_of_ble_eq_true rfl) dX5_frayedIn_9 (fun v w1 hp => ?_)
  obtain ⟨rfl, rfl⟩ := hp
  refine Teq (ws' := wP cy q M (0) kept far) (lv' := [(0, .ref (q 0)), (1, .int (enc (x)))]) (st' := [.int (enc (if 1 ≤ x ∧ x ≤ 50 then 1 else 0))]) rfl rfl rfl ?_
  refine tw_if_ne (tgt := 21) X In_b dX5_frayedIn_12 (by decide) (fun c12 => ?_) (fun c12 => ?_)
  · skip
    have c12 := b01n.mp c12
    have hk : kP x = 0 := if_pos c12
    have e0 := frI_fore M x.toNat
    refine tw_aload_n X dX5_frayedIn_21 0 rfl rfl ?_
    refine tw_callV X (As := []) (st := []) vw_X5_170 (m_X5_keep (q := q) M (0) kept far) ([]) ([]) rfl rfl (q0 := 0) rfl rfl rfl ⟨rfl, rfl, Nat.le_of_ble_eq_true rfl, Nat.le_of_ble_eq_true rfl⟩ ⟨Nat.le_of_ble_eq_true rfl, Nat.le_of_ble_eq_true rfl⟩ (Nat.le_of_ble_eq_true rfl) dX5_frayedIn_22 (fun v w1 hp => ?_)
    obtain ⟨rfl, rfl⟩ := hp
    refine Teq (ws' := wP cy q M (0) (pack M) far) (lv' := [(0, .ref (q 0)), (1, .int (enc (x)))]) (st' := []) rfl rfl rfl ?_
    refine tw_aload_n X dX5_frayedIn_25 0 rfl rfl ?_
    refine tw_iload_n X dX5_frayedIn_26 1 rfl rfl ?_
    refine tw_callV X (As := [.int (enc (x))]) (st := []) vw_X5_133 (m_X5_hoursOn (q := q) M (0) (pack M) far (x) x.toNat (by omega) (by omega) B hF hB2) ([]) ([]) rfl rfl (q0 := 0) rfl rfl rfl ⟨rfl, rfl, Nat.le_of_ble_eq_true rfl, Nat.le_of_ble_eq_true rfl⟩ ⟨Nat.le_of_ble_eq_true rfl, Nat.le_of_ble_eq_true rfl⟩ (Nat.le_of_ble_eq_true rfl) dX5_frayedIn_27 (fun v w1 hp => ?_)
    obtain ⟨rfl, fh, rfl⟩ := hp
    refine Teq (ws' := wP cy q (hoursM M x.toNat) (0) (pack M) fh) (lv' := [(0, .ref (q 0)), (1, .int (enc (x)))]) (st' := []) rfl rfl rfl ?_
    refine tw_aload_n X dX5_frayedIn_30 0 rfl rfl ?_
    refine tw_iconst X dX5_frayedIn_31 ?_
    refine tw_callV X (As := [.int (enc (0))]) (st := []) vw_X5_148 (m_X5_frays_0 (q := q) (hoursM M x.toNat) (0) (pack M) fh (B + 26 * (x.toNat : Nat)) (hF.hours x.toNat) (by omega)) ([]) ([]) rfl rfl (q0 := 0) rfl rfl rfl ⟨rfl, rfl, Nat.le_of_ble_eq_true rfl, Nat.le_of_ble_eq_true rfl⟩ ⟨Nat.le_of_ble_eq_true rfl, Nat.le_of_ble_eq_true rfl⟩ (Nat.le_of_ble_eq_true rfl) dX5_frayedIn_32 (fun v w1 hp => ?_)
    obtain ⟨rfl, rfl⟩ := hp
    refine Teq (ws' := wP cy q (hoursM M x.toNat) (0) (pack M) fh) (lv' := [(0, .ref (q 0)), (1, .int (enc (x)))]) (st' := [.int (enc (frI (hoursM M x.toNat) ((hoursM M x.toNat) 17 0).toNat))]) rfl rfl rfl ?_
    refine Tst (st' := [.int (enc (foreI M x.toNat))]) (by rw [e0]) ?_
    refine tw_istore_n (lv' := [(2, .int (enc (foreI M x.toNat))), (0, .ref (q 0)), (1, .int (enc (x)))]) X dX5_frayedIn_35 rfl (by decide) rfl ?_
    refine tw_aload_n X dX5_frayedIn_36 1 rfl rfl ?_
    refine tw_callV X (As := []) (st := []) vw_X5_173 (m_X5_bringBackP (q := q) (hoursM M x.toNat) M (0) fh (FX.hours M x.toNat)) ([]) ([]) rfl rfl (q0 := 0) rfl rfl rfl ⟨rfl, rfl, Nat.le_of_ble_eq_true rfl, Nat.le_of_ble_eq_true rfl⟩ ⟨Nat.le_of_ble_eq_true rfl, Nat.le_of_ble_eq_true rfl⟩ (Nat.le_of_ble_eq_true rfl) dX5_frayedIn_37 (fun v w1 hp => ?_)
    obtain ⟨rfl, rfl⟩ := hp
    refine Teq (ws' := wP cy q M (0) (pack M) fh) (lv' := [(2, .int (enc (foreI M x.toNat))), (0, .ref (q 0)), (1, .int (enc (x)))]) (st' := []) rfl rfl rfl ?_
    refine tw_iload_n X dX5_frayedIn_40 0 rfl rfl ?_
    exact ret _ _ _ _ dX5_frayedIn_41 (by first | exact ⟨ansY hk, exP hk⟩ | exact ⟨ansN hk (by decide), exP hk⟩)
  · skip
    have c12 := b01.mp c12
    have hk : kP x = 1 := if_neg c12
    refine tw_aload_n X dX5_frayedIn_15 0 rfl rfl ?_
    refine tw_iconst X dX5_frayedIn_16 ?_
    refine tw_callV X (As := [.int (enc (1))]) (st := []) vw_X5_116 (m_X5_fail (q := q) M (0) kept far (1)) ([]) ([]) rfl rfl (q0 := 0) rfl rfl rfl ⟨rfl, rfl, Nat.le_of_ble_eq_true rfl, Nat.le_of_ble_eq_true rfl⟩ ⟨Nat.le_of_ble_eq_true rfl, Nat.le_of_ble_eq_true rfl⟩ (Nat.le_of_ble_eq_true rfl) dX5_frayedIn_17 (fun v w1 hp => ?_)
    obtain ⟨rfl, rfl⟩ := hp
    refine Teq (ws' := wP cy q M 1 kept far) (lv' := [(0, .ref (q 0)), (1, .int (enc (x)))]) (st' := [.int (enc (0))]) rfl rfl rfl ?_
    exact ret _ _ _ _ dX5_frayedIn_20 (by first | exact ⟨ansY hk, exP hk⟩ | exact ⟨ansN hk (by decide), exP hk⟩)
