/-! THE CLASS: its methods that may throw, called so that they don't -/
noncomputable def dO (M : MT) (o : Bool) (a b : Int) : Int := if dst M o a b < 1000000 then dst M o a b else -1
theorem dO_rng {M : MT} (hW : WFR M) {o : Bool} {a b : Int} (ha : 0 ≤ a ∧ a < M 19 0) : -1 ≤ dO M o a b ∧ dO M o a b ≤ 108 := by
  have := (dst_ok (o := o) hW a b).1
  unfold dO
  split
  · rename_i z
    have := dst_108 hW ha.1 ha.2 z
    omega
  · omega
set_option maxRecDepth 100000 in
set_option maxHeartbeats 4000000 in
theorem m_X4_requireCrossing {G : va_G} {cy : ClassId} {q : Nat → Nat} (N : MT) (sN : Int → Int) (oN : Int) (U : MT) (sU : Int → Int) (oU : Int) (A : Int → Int) (x : Int) (hx : 0 ≤ x ∧ x < N 19 0) (hB : Bd N) : Ct G cy yX4_requireCrossing cX4_requireCrossing 2 none ({ frames := 0, cells := 0, slots := 0, locals := 0 } : Room) 0 0 [.ref (q 0), .int (enc (x))] (wD cy q N sN oN U sU oU A) (fun v w1 => v = none ∧ w1 = wD cy q N sN oN U sU oU A) := by
  refine Ct.ofV (by decide) (Nat.le_of_ble_eq_true rfl) rfl rfl ?_
  intro c X ret
  have bk := hB 19 0
  refine Tlv (lv' := [(0, .ref (q 0)), (1, .int (enc (x)))]) rfl ?_
  refine tw_iload_n X dX4_requireCrossing_0 1 rfl rfl ?_
  refine tw_if_lt (tgt := 15) X (In_of (by omega) (by omega)) dX4_requireCrossing_1 (by decide) (fun c1 => ?_) (fun c1 => ?_)
  · skip
    exact (show False by omega).elim
  · skip
    refine tw_iload_n X dX4_requireCrossing_4 1 rfl rfl ?_
    refine tw_aload_n X dX4_requireCrossing_5 0 rfl rfl ?_
    refine gf_X4_10 X (v := .ref (q 1)) 0 rfl rfl dX4_requireCrossing_6 ?_
    refine gf_X4_26 X (v := .int (enc (N 19 0))) 1 rfl rfl dX4_requireCrossing_9 ?_
    have b1 := hB 19 0
    refine tw_icmp_lt (tgt := 25) X (In_of (by omega) (by omega)) (In_of (by omega) (by omega)) dX4_requireCrossing_12 (by decide) (fun c12 => ?_) (fun c12 => ?_)
    · skip
      exact ret _ _ _ dX4_requireCrossing_25 ⟨rfl, rfl⟩
    · skip
      exact (show False by omega).elim
set_option maxRecDepth 100000 in
set_option maxHeartbeats 4000000 in
theorem m_X4_requireRoad {G : va_G} {cy : ClassId} {q : Nat → Nat} (N : MT) (sN : Int → Int) (oN : Int) (U : MT) (sU : Int → Int) (oU : Int) (A : Int → Int) (x : Int) (hx : 0 ≤ x ∧ x < N 16 0) (hB : Bd N) : Ct G cy yX4_requireRoad cX4_requireRoad 2 none ({ frames := 0, cells := 0, slots := 0, locals := 0 } : Room) 0 0 [.ref (q 0), .int (enc (x))] (wD cy q N sN oN U sU oU A) (fun v w1 => v = none ∧ w1 = wD cy q N sN oN U sU oU A) := by
  refine Ct.ofV (by decide) (Nat.le_of_ble_eq_true rfl) rfl rfl ?_
  intro c X ret
  have bk := hB 16 0
  refine Tlv (lv' := [(0, .ref (q 0)), (1, .int (enc (x)))]) rfl ?_
  refine tw_iload_n X dX4_requireRoad_0 1 rfl rfl ?_
  refine tw_if_lt (tgt := 18) X (In_of (by omega) (by omega)) dX4_requireRoad_1 (by decide) (fun c1 => ?_) (fun c1 => ?_)
  · skip
    exact (show False by omega).elim
  · skip
    refine tw_iload_n X dX4_requireRoad_4 1 rfl rfl ?_
    refine tw_aload_n X dX4_requireRoad_5 0 rfl rfl ?_
    refine gf_X4_10 X (v := .ref (q 1)) 0 rfl rfl dX4_requireRoad_6 ?_
    refine gf_X4_54 X (v := .ref (q 2)) 1 rfl rfl dX4_requireRoad_9 ?_
    refine gf_X4_58 X (v := .int (enc (N 16 0))) 2 rfl rfl dX4_requireRoad_12 ?_
    have b1 := hB 16 0
    refine tw_icmp_lt (tgt := 28) X (In_of (by omega) (by omega)) (In_of (by omega) (by omega)) dX4_requireRoad_15 (by decide) (fun c15 => ?_) (fun c15 => ?_)
    · skip
      exact ret _ _ _ dX4_requireRoad_28 ⟨rfl, rfl⟩
    · skip
      exact (show False by omega).elim
set_option maxRecDepth 100000 in
set_option maxHeartbeats 4000000 in
theorem m_X4_requireTourist {G : va_G} {cy : ClassId} {q : Nat → Nat} (N : MT) (sN : Int → Int) (oN : Int) (U : MT) (sU : Int → Int) (oU : Int) (A : Int → Int) (x : Int) (hx : 0 ≤ x ∧ x < N 17 0) (hB : Bd N) : Ct G cy yX4_requireTourist cX4_requireTourist 2 none ({ frames := 0, cells := 0, slots := 0, locals := 0 } : Room) 0 0 [.ref (q 0), .int (enc (x))] (wD cy q N sN oN U sU oU A) (fun v w1 => v = none ∧ w1 = wD cy q N sN oN U sU oU A) := by
  refine Ct.ofV (by decide) (Nat.le_of_ble_eq_true rfl) rfl rfl ?_
  intro c X ret
  have bk := hB 17 0
  refine Tlv (lv' := [(0, .ref (q 0)), (1, .int (enc (x)))]) rfl ?_
  refine tw_iload_n X dX4_requireTourist_0 1 rfl rfl ?_
  refine tw_if_lt (tgt := 18) X (In_of (by omega) (by omega)) dX4_requireTourist_1 (by decide) (fun c1 => ?_) (fun c1 => ?_)
  · skip
    exact (show False by omega).elim
  · skip
    refine tw_iload_n X dX4_requireTourist_4 1 rfl rfl ?_
    refine tw_aload_n X dX4_requireTourist_5 0 rfl rfl ?_
    refine gf_X4_10 X (v := .ref (q 1)) 0 rfl rfl dX4_requireTourist_6 ?_
    refine gf_X4_69 X (v := .ref (q 10)) 1 rfl rfl dX4_requireTourist_9 ?_
    refine gf_X4_73 X (v := .int (enc (N 17 0))) 10 rfl rfl dX4_requireTourist_12 ?_
    have b1 := hB 17 0
    refine tw_icmp_lt (tgt := 28) X (In_of (by omega) (by omega)) (In_of (by omega) (by omega)) dX4_requireTourist_15 (by decide) (fun c15 => ?_) (fun c15 => ?_)
    · skip
      exact ret _ _ _ dX4_requireTourist_28 ⟨rfl, rfl⟩
    · skip
      exact (show False by omega).elim
set_option maxRecDepth 100000 in
set_option maxHeartbeats 4000000 in
theorem m_X4_requirePassing {G : va_G} {cy : ClassId} {q : Nat → Nat} (N : MT) (sN : Int → Int) (oN : Int) (U : MT) (sU : Int → Int) (oU : Int) (A : Int → Int) (x : Int) (hx : 1 ≤ x ∧ x ≤ 50) : Ct G cy yX4_requirePassing cX4_requirePassing 2 none ({ frames := 0, cells := 0, slots := 0, locals := 0 } : Room) 0 0 [.ref (q 0), .int (enc (x))] (wD cy q N sN oN U sU oU A) (fun v w1 => v = none ∧ w1 = wD cy q N sN oN U sU oU A) := by
  refine Ct.ofV (by decide) (Nat.le_of_ble_eq_true rfl) rfl rfl ?_
  intro c X ret
  refine Tlv (lv' := [(0, .ref (q 0)), (1, .int (enc (x)))]) rfl ?_
  refine tw_iload_n X dX4_requirePassing_0 1 rfl rfl ?_
  refine tw_iconst X dX4_requirePassing_1 ?_
  refine tw_icmp_lt (tgt := 11) X (In_of (by omega) (by omega)) (In_of (by omega) (by omega)) dX4_requirePassing_2 (by decide) (fun c2 => ?_) (fun c2 => ?_)
  · skip
    exact (show False by omega).elim
  · skip
    refine tw_iload_n X dX4_requirePassing_5 1 rfl rfl ?_
    refine tw_bipush X dX4_requirePassing_6 (by decide) ?_
    refine tw_icmp_le (tgt := 21) X (In_of (by omega) (by omega)) (In_of (by omega) (by omega)) dX4_requirePassing_8 (by decide) (fun c8 => ?_) (fun c8 => ?_)
    · skip
      exact ret _ _ _ dX4_requirePassing_21 ⟨rfl, rfl⟩
    · skip
      exact (show False by omega).elim
set_option maxRecDepth 100000 in
set_option maxHeartbeats 4000000 in
theorem m_X4_lengthOf {G : va_G} {cy : ClassId} {q : Nat → Nat} (N : MT) (sN : Int → Int) (oN : Int) (U : MT) (sU : Int → Int) (oU : Int) (A : Int → Int) (x : Int) (hx : 0 ≤ x ∧ x < N 16 0) (B0 : Int) (hF : WF N B0) (hB2 : B0 ≤ 800000) : Ct G cy yX4_lengthOf cX4_lengthOf 2 (some .int) ({ frames := 1, cells := 0, slots := 0, locals := 21 } : Room) 0 0 [.ref (q 0), .int (enc (x))] (wD cy q N sN oN U sU oU A) (fun v w1 => v = some (.int (enc (len N x))) ∧ w1 = wD cy q N sN oN U sU oU A) := by
  refine Ct.ofI (by decide) (Nat.le_of_ble_eq_true rfl) rfl rfl (fun _ _ _ => rfl) ?_
  intro c X ret
  have hB := hF.bd (by omega)
  obtain ⟨w0, w1, w2, w3, w4⟩ := hF.r
  have h17 := hF.2.2.2.2.2.1
  have h172 := hF.2.2.2.2.2.2.1
  have h20 := hF.2.2.2.2.2.2.2.1
  refine Tlv (lv' := [(0, .ref (q 0)), (1, .int (enc (x)))]) rfl ?_
  refine tw_aload_n X dX4_lengthOf_0 0 rfl rfl ?_
  refine tw_iload_n X dX4_lengthOf_1 1 rfl rfl ?_
  refine tw_callV X (As := [.int (enc (x))]) (st := []) vw_X4_90 (m_X4_requireRoad (q := q) N sN oN U sU oU A (x) hx hB) ([]) ([]) rfl rfl (q0 := 0) rfl rfl rfl ⟨rfl, rfl, Nat.le_of_ble_eq_true rfl, Nat.le_of_ble_eq_true rfl⟩ ⟨Nat.le_of_ble_eq_true rfl, Nat.le_of_ble_eq_true rfl⟩ (Nat.le_of_ble_eq_true rfl) dX4_lengthOf_2 (fun v w1 hp => ?_)
  obtain ⟨rfl, rfl⟩ := hp
  refine Teq (ws' := wD cy q N sN oN U sU oU A) (lv' := [(0, .ref (q 0)), (1, .int (enc (x)))]) (st' := []) rfl rfl rfl ?_
  refine tw_aload_n X dX4_lengthOf_5 0 rfl rfl ?_
  refine gf_X4_10 X (v := .ref (q 1)) 0 rfl rfl dX4_lengthOf_6 ?_
  refine gf_X4_54 X (v := .ref (q 2)) 1 rfl rfl dX4_lengthOf_9 ?_
  refine tw_iload_n X dX4_lengthOf_12 1 rfl rfl ?_
  refine tw_callV X (As := [.int (enc (x))]) (st := []) vw_X4_132 (m_X0_lengthNow (q := (fun i => q (2 + i))) N (x) (by omega)) (([(q 0, .inr (4, [.ref (q 1), .ref (q 22), .ref (q 43)]))]) ++ ([(q 1, .inr (3, [.ref (q 2), .ref (q 10), .ref (q 20), .int (enc (N 19 0)), .int (enc (N 20 0)), .int (enc (oN))]))])) ((wT cy (fun i => q (10 + i)) N) ++ (wY cy (fun i => q (20 + i)) sN) ++ ([(q 22, .inr (3, [.ref (q 23), .ref (q 31), .ref (q 41), .int (enc (U 19 0)), .int (enc (U 20 0)), .int (enc (oU))]))]) ++ (wR cy (fun i => q (23 + i)) U) ++ (wT cy (fun i => q (31 + i)) U) ++ (wY cy (fun i => q (41 + i)) sU) ++ (wY cy (fun i => q (43 + i)) A)) rfl rfl (q0 := 0) rfl rfl rfl ⟨rfl, rfl, Nat.le_of_ble_eq_true rfl, Nat.le_of_ble_eq_true rfl⟩ ⟨Nat.le_of_ble_eq_true rfl, Nat.le_of_ble_eq_true rfl⟩ (Nat.le_of_ble_eq_true rfl) dX4_lengthOf_13 (fun v w1 hp => ?_)
  obtain ⟨rfl, rfl⟩ := hp
  refine Teq (ws' := wD cy q N sN oN U sU oU A) (lv' := [(0, .ref (q 0)), (1, .int (enc (x)))]) (st' := [.int (enc (len N x))]) rfl rfl rfl ?_
  exact ret _ _ _ _ dX4_lengthOf_16 ⟨rfl, rfl⟩
set_option maxRecDepth 100000 in
set_option maxHeartbeats 4000000 in
theorem m_X4_wearOf {G : va_G} {cy : ClassId} {q : Nat → Nat} (N : MT) (sN : Int → Int) (oN : Int) (U : MT) (sU : Int → Int) (oU : Int) (A : Int → Int) (x : Int) (hx : 0 ≤ x ∧ x < N 16 0) (B0 : Int) (hF : WF N B0) (hB2 : B0 ≤ 800000) : Ct G cy yX4_wearOf cX4_wearOf 2 (some .int) ({ frames := 1, cells := 0, slots := 0, locals := 21 } : Room) 0 0 [.ref (q 0), .int (enc (x))] (wD cy q N sN oN U sU oU A) (fun v w1 => v = some (.int (enc (N 4 x))) ∧ w1 = wD cy q N sN oN U sU oU A) := by
  refine Ct.ofI (by decide) (Nat.le_of_ble_eq_true rfl) rfl rfl (fun _ _ _ => rfl) ?_
  intro c X ret
  have hB := hF.bd (by omega)
  obtain ⟨w0, w1, w2, w3, w4⟩ := hF.r
  have h17 := hF.2.2.2.2.2.1
  have h172 := hF.2.2.2.2.2.2.1
  have h20 := hF.2.2.2.2.2.2.2.1
  refine Tlv (lv' := [(0, .ref (q 0)), (1, .int (enc (x)))]) rfl ?_
  refine tw_aload_n X dX4_wearOf_0 0 rfl rfl ?_
  refine tw_iload_n X dX4_wearOf_1 1 rfl rfl ?_
  refine tw_callV X (As := [.int (enc (x))]) (st := []) vw_X4_90 (m_X4_requireRoad (q := q) N sN oN U sU oU A (x) hx hB) ([]) ([]) rfl rfl (q0 := 0) rfl rfl rfl ⟨rfl, rfl, Nat.le_of_ble_eq_true rfl, Nat.le_of_ble_eq_true rfl⟩ ⟨Nat.le_of_ble_eq_true rfl, Nat.le_of_ble_eq_true rfl⟩ (Nat.le_of_ble_eq_true rfl) dX4_wearOf_2 (fun v w1 hp => ?_)
  obtain ⟨rfl, rfl⟩ := hp
  refine Teq (ws' := wD cy q N sN oN U sU oU A) (lv' := [(0, .ref (q 0)), (1, .int (enc (x)))]) (st' := []) rfl rfl rfl ?_
  refine tw_aload_n X dX4_wearOf_5 0 rfl rfl ?_
  refine gf_X4_10 X (v := .ref (q 1)) 0 rfl rfl dX4_wearOf_6 ?_
  refine gf_X4_54 X (v := .ref (q 2)) 1 rfl rfl dX4_wearOf_9 ?_
  refine gf_X4_105 X (v := .ref (q 7)) 2 rfl rfl dX4_wearOf_12 ?_
  refine tw_iload_n X dX4_wearOf_15 1 rfl rfl ?_
  refine tw_iald X (N := 20) (f := (N 4)) 7 rfl (by decide) (by omega) dX4_wearOf_16 ?_
  refine Tst (st' := [.int (enc (N 4 x))]) rfl ?_
  have b1 := hB 4 x
  exact ret _ _ _ _ dX4_wearOf_17 ⟨rfl, rfl⟩
set_option maxRecDepth 100000 in
set_option maxHeartbeats 4000000 in
theorem m_X4_knotsOf {G : va_G} {cy : ClassId} {q : Nat → Nat} (N : MT) (sN : Int → Int) (oN : Int) (U : MT) (sU : Int → Int) (oU : Int) (A : Int → Int) (x : Int) (hx : 0 ≤ x ∧ x < N 16 0) (B0 : Int) (hF : WF N B0) (hB2 : B0 ≤ 800000) : Ct G cy yX4_knotsOf cX4_knotsOf 2 (some .int) ({ frames := 1, cells := 0, slots := 0, locals := 21 } : Room) 0 0 [.ref (q 0), .int (enc (x))] (wD cy q N sN oN U sU oU A) (fun v w1 => v = some (.int (enc (N 5 x))) ∧ w1 = wD cy q N sN oN U sU oU A) := by
  refine Ct.ofI (by decide) (Nat.le_of_ble_eq_true rfl) rfl rfl (fun _ _ _ => rfl) ?_
  intro c X ret
  have hB := hF.bd (by omega)
  obtain ⟨w0, w1, w2, w3, w4⟩ := hF.r
  have h17 := hF.2.2.2.2.2.1
  have h172 := hF.2.2.2.2.2.2.1
  have h20 := hF.2.2.2.2.2.2.2.1
  refine Tlv (lv' := [(0, .ref (q 0)), (1, .int (enc (x)))]) rfl ?_
  refine tw_aload_n X dX4_knotsOf_0 0 rfl rfl ?_
  refine tw_iload_n X dX4_knotsOf_1 1 rfl rfl ?_
  refine tw_callV X (As := [.int (enc (x))]) (st := []) vw_X4_90 (m_X4_requireRoad (q := q) N sN oN U sU oU A (x) hx hB) ([]) ([]) rfl rfl (q0 := 0) rfl rfl rfl ⟨rfl, rfl, Nat.le_of_ble_eq_true rfl, Nat.le_of_ble_eq_true rfl⟩ ⟨Nat.le_of_ble_eq_true rfl, Nat.le_of_ble_eq_true rfl⟩ (Nat.le_of_ble_eq_true rfl) dX4_knotsOf_2 (fun v w1 hp => ?_)
  obtain ⟨rfl, rfl⟩ := hp
  refine Teq (ws' := wD cy q N sN oN U sU oU A) (lv' := [(0, .ref (q 0)), (1, .int (enc (x)))]) (st' := []) rfl rfl rfl ?_
  refine tw_aload_n X dX4_knotsOf_5 0 rfl rfl ?_
  refine gf_X4_10 X (v := .ref (q 1)) 0 rfl rfl dX4_knotsOf_6 ?_
  refine gf_X4_54 X (v := .ref (q 2)) 1 rfl rfl dX4_knotsOf_9 ?_
  refine gf_X4_135 X (v := .ref (q 8)) 2 rfl rfl dX4_knotsOf_12 ?_
  refine tw_iload_n X dX4_knotsOf_15 1 rfl rfl ?_
  refine tw_iald X (N := 20) (f := (N 5)) 8 rfl (by decide) (by omega) dX4_knotsOf_16 ?_
  refine Tst (st' := [.int (enc (N 5 x))]) rfl ?_
  have b1 := hB 5 x
  exact ret _ _ _ _ dX4_knotsOf_17 ⟨rfl, rfl⟩
set_option maxRecDepth 100000 in
set_option maxHeartbeats 4000000 in
theorem m_X4_closedFor {G : va_G} {cy : ClassId} {q : Nat → Nat} (N : MT) (sN : Int → Int) (oN : Int) (U : MT) (sU : Int → Int) (oU : Int) (A : Int → Int) (x : Int) (hx : 0 ≤ x ∧ x < N 16 0) (B0 : Int) (hF : WF N B0) (hB2 : B0 ≤ 800000) : Ct G cy yX4_closedFor cX4_closedFor 2 (some .int) ({ frames := 1, cells := 0, slots := 0, locals := 21 } : Room) 0 0 [.ref (q 0), .int (enc (x))] (wD cy q N sN oN U sU oU A) (fun v w1 => v = some (.int (enc (N 6 x))) ∧ w1 = wD cy q N sN oN U sU oU A) := by
  refine Ct.ofI (by decide) (Nat.le_of_ble_eq_true rfl) rfl rfl (fun _ _ _ => rfl) ?_
  intro c X ret
  have hB := hF.bd (by omega)
  obtain ⟨w0, w1, w2, w3, w4⟩ := hF.r
  have h17 := hF.2.2.2.2.2.1
  have h172 := hF.2.2.2.2.2.2.1
  have h20 := hF.2.2.2.2.2.2.2.1
  refine Tlv (lv' := [(0, .ref (q 0)), (1, .int (enc (x)))]) rfl ?_
  refine tw_aload_n X dX4_closedFor_0 0 rfl rfl ?_
  refine tw_iload_n X dX4_closedFor_1 1 rfl rfl ?_
  refine tw_callV X (As := [.int (enc (x))]) (st := []) vw_X4_90 (m_X4_requireRoad (q := q) N sN oN U sU oU A (x) hx hB) ([]) ([]) rfl rfl (q0 := 0) rfl rfl rfl ⟨rfl, rfl, Nat.le_of_ble_eq_true rfl, Nat.le_of_ble_eq_true rfl⟩ ⟨Nat.le_of_ble_eq_true rfl, Nat.le_of_ble_eq_true rfl⟩ (Nat.le_of_ble_eq_true rfl) dX4_closedFor_2 (fun v w1 hp => ?_)
  obtain ⟨rfl, rfl⟩ := hp
  refine Teq (ws' := wD cy q N sN oN U sU oU A) (lv' := [(0, .ref (q 0)), (1, .int (enc (x)))]) (st' := []) rfl rfl rfl ?_
  refine tw_aload_n X dX4_closedFor_5 0 rfl rfl ?_
  refine gf_X4_10 X (v := .ref (q 1)) 0 rfl rfl dX4_closedFor_6 ?_
  refine gf_X4_54 X (v := .ref (q 2)) 1 rfl rfl dX4_closedFor_9 ?_
  refine gf_X4_95 X (v := .ref (q 9)) 2 rfl rfl dX4_closedFor_12 ?_
  refine tw_iload_n X dX4_closedFor_15 1 rfl rfl ?_
  refine tw_iald X (N := 20) (f := (N 6)) 9 rfl (by decide) (by omega) dX4_closedFor_16 ?_
  refine Tst (st' := [.int (enc (N 6 x))]) rfl ?_
  have b1 := hB 6 x
  exact ret _ _ _ _ dX4_closedFor_17 ⟨rfl, rfl⟩
set_option maxRecDepth 100000 in
set_option maxHeartbeats 4000000 in
theorem m_X4_touristsOn {G : va_G} {cy : ClassId} {q : Nat → Nat} (N : MT) (sN : Int → Int) (oN : Int) (U : MT) (sU : Int → Int) (oU : Int) (A : Int → Int) (x : Int) (hx : 0 ≤ x ∧ x < N 16 0) (B0 : Int) (hF : WF N B0) (hB2 : B0 ≤ 800000) : Ct G cy yX4_touristsOn cX4_touristsOn 2 (some .int) ({ frames := 1, cells := 0, slots := 0, locals := 23 } : Room) 0 0 [.ref (q 0), .int (enc (x))] (wD cy q N sN oN U sU oU A) (fun v w1 => v = some (.int (enc (onR N x (N 17 0).toNat))) ∧ w1 = wD cy q N sN oN U sU oU A) := by
  refine Ct.ofI (by decide) (Nat.le_of_ble_eq_true rfl) rfl rfl (fun _ _ _ => rfl) ?_
  intro c X ret
  have hB := hF.bd (by omega)
  obtain ⟨w0, w1, w2, w3, w4⟩ := hF.r
  have h17 := hF.2.2.2.2.2.1
  have h172 := hF.2.2.2.2.2.2.1
  have h20 := hF.2.2.2.2.2.2.2.1
  refine Tlv (lv' := [(0, .ref (q 0)), (1, .int (enc (x)))]) rfl ?_
  refine tw_aload_n X dX4_touristsOn_0 0 rfl rfl ?_
  refine tw_iload_n X dX4_touristsOn_1 1 rfl rfl ?_
  refine tw_callV X (As := [.int (enc (x))]) (st := []) vw_X4_90 (m_X4_requireRoad (q := q) N sN oN U sU oU A (x) hx hB) ([]) ([]) rfl rfl (q0 := 0) rfl rfl rfl ⟨rfl, rfl, Nat.le_of_ble_eq_true rfl, Nat.le_of_ble_eq_true rfl⟩ ⟨Nat.le_of_ble_eq_true rfl, Nat.le_of_ble_eq_true rfl⟩ (Nat.le_of_ble_eq_true rfl) dX4_touristsOn_2 (fun v w1 hp => ?_)
  obtain ⟨rfl, rfl⟩ := hp
  refine Teq (ws' := wD cy q N sN oN U sU oU A) (lv' := [(0, .ref (q 0)), (1, .int (enc (x)))]) (st' := []) rfl rfl rfl ?_
  refine tw_aload_n X dX4_touristsOn_5 0 rfl rfl ?_
  refine gf_X4_10 X (v := .ref (q 1)) 0 rfl rfl dX4_touristsOn_6 ?_
  refine gf_X4_69 X (v := .ref (q 10)) 1 rfl rfl dX4_touristsOn_9 ?_
  refine tw_iload_n X dX4_touristsOn_12 1 rfl rfl ?_
  refine tw_callV X (As := [.int (enc (x))]) (st := []) vw_X4_108 (m_X1_countOn (q := (fun i => q (10 + i))) N (x) hB (by omega) (by omega)) (([(q 0, .inr (4, [.ref (q 1), .ref (q 22), .ref (q 43)]))]) ++ ([(q 1, .inr (3, [.ref (q 2), .ref (q 10), .ref (q 20), .int (enc (N 19 0)), .int (enc (N 20 0)), .int (enc (oN))]))]) ++ (wR cy (fun i => q (2 + i)) N)) ((wY cy (fun i => q (20 + i)) sN) ++ ([(q 22, .inr (3, [.ref (q 23), .ref (q 31), .ref (q 41), .int (enc (U 19 0)), .int (enc (U 20 0)), .int (enc (oU))]))]) ++ (wR cy (fun i => q (23 + i)) U) ++ (wT cy (fun i => q (31 + i)) U) ++ (wY cy (fun i => q (41 + i)) sU) ++ (wY cy (fun i => q (43 + i)) A)) rfl rfl (q0 := 0) rfl rfl rfl ⟨rfl, rfl, Nat.le_of_ble_eq_true rfl, Nat.le_of_ble_eq_true rfl⟩ ⟨Nat.le_of_ble_eq_true rfl, Nat.le_of_ble_eq_true rfl⟩ (Nat.le_of_ble_eq_true rfl) dX4_touristsOn_13 (fun v w1 hp => ?_)
  obtain ⟨rfl, rfl⟩ := hp
  refine Teq (ws' := wD cy q N sN oN U sU oU A) (lv' := [(0, .ref (q 0)), (1, .int (enc (x)))]) (st' := [.int (enc (onR N x (N 17 0).toNat))]) rfl rfl rfl ?_
  exact ret _ _ _ _ dX4_touristsOn_16 ⟨rfl, rfl⟩
set_option maxRecDepth 100000 in
set_option maxHeartbeats 4000000 in
theorem m_X4_placeOf {G : va_G} {cy : ClassId} {q : Nat → Nat} (N : MT) (sN : Int → Int) (oN : Int) (U : MT) (sU : Int → Int) (oU : Int) (A : Int → Int) (x : Int) (hx : 0 ≤ x ∧ x < N 17 0) (B0 : Int) (hF : WF N B0) (hB2 : B0 ≤ 800000) : Ct G cy yX4_placeOf cX4_placeOf 2 (some .int) ({ frames := 1, cells := 0, slots := 0, locals := 21 } : Room) 0 0 [.ref (q 0), .int (enc (x))] (wD cy q N sN oN U sU oU A) (fun v w1 => v = some (.int (enc (N 7 x))) ∧ w1 = wD cy q N sN oN U sU oU A) := by
  refine Ct.ofI (by decide) (Nat.le_of_ble_eq_true rfl) rfl rfl (fun _ _ _ => rfl) ?_
  intro c X ret
  have hB := hF.bd (by omega)
  obtain ⟨w0, w1, w2, w3, w4⟩ := hF.r
  have h17 := hF.2.2.2.2.2.1
  have h172 := hF.2.2.2.2.2.2.1
  have h20 := hF.2.2.2.2.2.2.2.1
  refine Tlv (lv' := [(0, .ref (q 0)), (1, .int (enc (x)))]) rfl ?_
  refine tw_aload_n X dX4_placeOf_0 0 rfl rfl ?_
  refine tw_iload_n X dX4_placeOf_1 1 rfl rfl ?_
  refine tw_callV X (As := [.int (enc (x))]) (st := []) vw_X4_160 (m_X4_requireTourist (q := q) N sN oN U sU oU A (x) hx hB) ([]) ([]) rfl rfl (q0 := 0) rfl rfl rfl ⟨rfl, rfl, Nat.le_of_ble_eq_true rfl, Nat.le_of_ble_eq_true rfl⟩ ⟨Nat.le_of_ble_eq_true rfl, Nat.le_of_ble_eq_true rfl⟩ (Nat.le_of_ble_eq_true rfl) dX4_placeOf_2 (fun v w1 hp => ?_)
  obtain ⟨rfl, rfl⟩ := hp
  refine Teq (ws' := wD cy q N sN oN U sU oU A) (lv' := [(0, .ref (q 0)), (1, .int (enc (x)))]) (st' := []) rfl rfl rfl ?_
  refine tw_aload_n X dX4_placeOf_5 0 rfl rfl ?_
  refine gf_X4_10 X (v := .ref (q 1)) 0 rfl rfl dX4_placeOf_6 ?_
  refine gf_X4_69 X (v := .ref (q 10)) 1 rfl rfl dX4_placeOf_9 ?_
  refine gf_X4_163 X (v := .ref (q 11)) 10 rfl rfl dX4_placeOf_12 ?_
  refine tw_iload_n X dX4_placeOf_15 1 rfl rfl ?_
  refine tw_iald X (N := 12) (f := (N 7)) 11 rfl (by decide) (by omega) dX4_placeOf_16 ?_
  refine Tst (st' := [.int (enc (N 7 x))]) rfl ?_
  have b1 := hB 7 x
  exact ret _ _ _ _ dX4_placeOf_17 ⟨rfl, rfl⟩
set_option maxRecDepth 100000 in
set_option maxHeartbeats 4000000 in
theorem m_X4_roadOf {G : va_G} {cy : ClassId} {q : Nat → Nat} (N : MT) (sN : Int → Int) (oN : Int) (U : MT) (sU : Int → Int) (oU : Int) (A : Int → Int) (x : Int) (hx : 0 ≤ x ∧ x < N 17 0) (B0 : Int) (hF : WF N B0) (hB2 : B0 ≤ 800000) : Ct G cy yX4_roadOf cX4_roadOf 2 (some .int) ({ frames := 1, cells := 0, slots := 0, locals := 21 } : Room) 0 0 [.ref (q 0), .int (enc (x))] (wD cy q N sN oN U sU oU A) (fun v w1 => v = some (.int (enc (N 8 x))) ∧ w1 = wD cy q N sN oN U sU oU A) := by
  refine Ct.ofI (by decide) (Nat.le_of_ble_eq_true rfl) rfl rfl (fun _ _ _ => rfl) ?_
  intro c X ret
  have hB := hF.bd (by omega)
  obtain ⟨w0, w1, w2, w3, w4⟩ := hF.r
  have h17 := hF.2.2.2.2.2.1
  have h172 := hF.2.2.2.2.2.2.1
  have h20 := hF.2.2.2.2.2.2.2.1
  refine Tlv (lv' := [(0, .ref (q 0)), (1, .int (enc (x)))]) rfl ?_
  refine tw_aload_n X dX4_roadOf_0 0 rfl rfl ?_
  refine tw_iload_n X dX4_roadOf_1 1 rfl rfl ?_
  refine tw_callV X (As := [.int (enc (x))]) (st := []) vw_X4_160 (m_X4_requireTourist (q := q) N sN oN U sU oU A (x) hx hB) ([]) ([]) rfl rfl (q0 := 0) rfl rfl rfl ⟨rfl, rfl, Nat.le_of_ble_eq_true rfl, Nat.le_of_ble_eq_true rfl⟩ ⟨Nat.le_of_ble_eq_true rfl, Nat.le_of_ble_eq_true rfl⟩ (Nat.le_of_ble_eq_true rfl) dX4_roadOf_2 (fun v w1 hp => ?_)
  obtain ⟨rfl, rfl⟩ := hp
  refine Teq (ws' := wD cy q N sN oN U sU oU A) (lv' := [(0, .ref (q 0)), (1, .int (enc (x)))]) (st' := []) rfl rfl rfl ?_
  refine tw_aload_n X dX4_roadOf_5 0 rfl rfl ?_
  refine gf_X4_10 X (v := .ref (q 1)) 0 rfl rfl dX4_roadOf_6 ?_
  refine gf_X4_69 X (v := .ref (q 10)) 1 rfl rfl dX4_roadOf_9 ?_
  refine gf_X4_166 X (v := .ref (q 12)) 10 rfl rfl dX4_roadOf_12 ?_
  refine tw_iload_n X dX4_roadOf_15 1 rfl rfl ?_
  refine tw_iald X (N := 12) (f := (N 8)) 12 rfl (by decide) (by omega) dX4_roadOf_16 ?_
  refine Tst (st' := [.int (enc (N 8 x))]) rfl ?_
  have b1 := hB 8 x
  exact ret _ _ _ _ dX4_roadOf_17 ⟨rfl, rfl⟩
set_option maxRecDepth 100000 in
set_option maxHeartbeats 4000000 in
theorem m_X4_dyeOf {G : va_G} {cy : ClassId} {q : Nat → Nat} (N : MT) (sN : Int → Int) (oN : Int) (U : MT) (sU : Int → Int) (oU : Int) (A : Int → Int) (x : Int) (hx : 0 ≤ x ∧ x < N 17 0) (B0 : Int) (hF : WF N B0) (hB2 : B0 ≤ 800000) : Ct G cy yX4_dyeOf cX4_dyeOf 2 (some .int) ({ frames := 1, cells := 0, slots := 0, locals := 21 } : Room) 0 0 [.ref (q 0), .int (enc (x))] (wD cy q N sN oN U sU oU A) (fun v w1 => v = some (.int (enc (N 12 x))) ∧ w1 = wD cy q N sN oN U sU oU A) := by
  refine Ct.ofI (by decide) (Nat.le_of_ble_eq_true rfl) rfl rfl (fun _ _ _ => rfl) ?_
  intro c X ret
  have hB := hF.bd (by omega)
  obtain ⟨w0, w1, w2, w3, w4⟩ := hF.r
  have h17 := hF.2.2.2.2.2.1
  have h172 := hF.2.2.2.2.2.2.1
  have h20 := hF.2.2.2.2.2.2.2.1
  refine Tlv (lv' := [(0, .ref (q 0)), (1, .int (enc (x)))]) rfl ?_
  refine tw_aload_n X dX4_dyeOf_0 0 rfl rfl ?_
  refine tw_iload_n X dX4_dyeOf_1 1 rfl rfl ?_
  refine tw_callV X (As := [.int (enc (x))]) (st := []) vw_X4_160 (m_X4_requireTourist (q := q) N sN oN U sU oU A (x) hx hB) ([]) ([]) rfl rfl (q0 := 0) rfl rfl rfl ⟨rfl, rfl, Nat.le_of_ble_eq_true rfl, Nat.le_of_ble_eq_true rfl⟩ ⟨Nat.le_of_ble_eq_true rfl, Nat.le_of_ble_eq_true rfl⟩ (Nat.le_of_ble_eq_true rfl) dX4_dyeOf_2 (fun v w1 hp => ?_)
  obtain ⟨rfl, rfl⟩ := hp
  refine Teq (ws' := wD cy q N sN oN U sU oU A) (lv' := [(0, .ref (q 0)), (1, .int (enc (x)))]) (st' := []) rfl rfl rfl ?_
  refine tw_aload_n X dX4_dyeOf_5 0 rfl rfl ?_
  refine gf_X4_10 X (v := .ref (q 1)) 0 rfl rfl dX4_dyeOf_6 ?_
  refine gf_X4_69 X (v := .ref (q 10)) 1 rfl rfl dX4_dyeOf_9 ?_
  refine gf_X4_169 X (v := .ref (q 16)) 10 rfl rfl dX4_dyeOf_12 ?_
  refine tw_iload_n X dX4_dyeOf_15 1 rfl rfl ?_
  refine tw_iald X (N := 12) (f := (N 12)) 16 rfl (by decide) (by omega) dX4_dyeOf_16 ?_
  refine Tst (st' := [.int (enc (N 12 x))]) rfl ?_
  have b1 := hB 12 x
  exact ret _ _ _ _ dX4_dyeOf_17 ⟨rfl, rfl⟩
set_option maxRecDepth 100000 in
set_option maxHeartbeats 4000000 in
theorem m_X4_frayOf {G : va_G} {cy : ClassId} {q : Nat → Nat} (N : MT) (sN : Int → Int) (oN : Int) (U : MT) (sU : Int → Int) (oU : Int) (A : Int → Int) (x : Int) (hx : 0 ≤ x ∧ x < N 17 0) (B0 : Int) (hF : WF N B0) (hB2 : B0 ≤ 800000) : Ct G cy yX4_frayOf cX4_frayOf 2 (some .int) ({ frames := 2, cells := 0, slots := 0, locals := 44 } : Room) 0 0 [.ref (q 0), .int (enc (x))] (wD cy q N sN oN U sU oU A) (fun v w1 => v = some (.int (enc (frayAt N x (N 20 0)))) ∧ w1 = wD cy q N sN oN U sU oU A) := by
  refine Ct.ofI (by decide) (Nat.le_of_ble_eq_true rfl) rfl rfl (fun _ _ _ => rfl) ?_
  intro c X ret
  have hB := hF.bd (by omega)
  obtain ⟨w0, w1, w2, w3, w4⟩ := hF.r
  have h17 := hF.2.2.2.2.2.1
  have h172 := hF.2.2.2.2.2.2.1
  have h20 := hF.2.2.2.2.2.2.2.1
  refine Tlv (lv' := [(0, .ref (q 0)), (1, .int (enc (x)))]) rfl ?_
  refine tw_aload_n X dX4_frayOf_0 0 rfl rfl ?_
  refine tw_iload_n X dX4_frayOf_1 1 rfl rfl ?_
  refine tw_callV X (As := [.int (enc (x))]) (st := []) vw_X4_160 (m_X4_requireTourist (q := q) N sN oN U sU oU A (x) hx hB) ([]) ([]) rfl rfl (q0 := 0) rfl rfl rfl ⟨rfl, rfl, Nat.le_of_ble_eq_true rfl, Nat.le_of_ble_eq_true rfl⟩ ⟨Nat.le_of_ble_eq_true rfl, Nat.le_of_ble_eq_true rfl⟩ (Nat.le_of_ble_eq_true rfl) dX4_frayOf_2 (fun v w1 hp => ?_)
  obtain ⟨rfl, rfl⟩ := hp
  refine Teq (ws' := wD cy q N sN oN U sU oU A) (lv' := [(0, .ref (q 0)), (1, .int (enc (x)))]) (st' := []) rfl rfl rfl ?_
  refine tw_aload_n X dX4_frayOf_5 0 rfl rfl ?_
  refine gf_X4_10 X (v := .ref (q 1)) 0 rfl rfl dX4_frayOf_6 ?_
  refine gf_X4_69 X (v := .ref (q 10)) 1 rfl rfl dX4_frayOf_9 ?_
  refine tw_iload_n X dX4_frayOf_12 1 rfl rfl ?_
  refine tw_aload_n X dX4_frayOf_13 0 rfl rfl ?_
  refine gf_X4_10 X (v := .ref (q 1)) 0 rfl rfl dX4_frayOf_14 ?_
  refine gf_X4_84 X (v := .int (enc (N 20 0))) 1 rfl rfl dX4_frayOf_17 ?_
  have b1 := hB 20 0
  refine tw_callV X (As := [.int (enc (x)), .int (enc (N 20 0))]) (st := []) vw_X4_172 (m_X1_frayAt (q := (fun i => q (10 + i))) N (x) (N 20 0) hB (by omega) (by have := hB 20 0; omega)) (([(q 0, .inr (4, [.ref (q 1), .ref (q 22), .ref (q 43)]))]) ++ ([(q 1, .inr (3, [.ref (q 2), .ref (q 10), .ref (q 20), .int (enc (N 19 0)), .int (enc (N 20 0)), .int (enc (oN))]))]) ++ (wR cy (fun i => q (2 + i)) N)) ((wY cy (fun i => q (20 + i)) sN) ++ ([(q 22, .inr (3, [.ref (q 23), .ref (q 31), .ref (q 41), .int (enc (U 19 0)), .int (enc (U 20 0)), .int (enc (oU))]))]) ++ (wR cy (fun i => q (23 + i)) U) ++ (wT cy (fun i => q (31 + i)) U) ++ (wY cy (fun i => q (41 + i)) sU) ++ (wY cy (fun i => q (43 + i)) A)) rfl rfl (q0 := 0) rfl rfl rfl ⟨rfl, rfl, Nat.le_of_ble_eq_true rfl, Nat.le_of_ble_eq_true rfl⟩ ⟨Nat.le_of_ble_eq_true rfl, Nat.le_of_ble_eq_true rfl⟩ (Nat.le_of_ble_eq_true rfl) dX4_frayOf_20 (fun v w1 hp => ?_)
  obtain ⟨rfl, rfl⟩ := hp
  refine Teq (ws' := wD cy q N sN oN U sU oU A) (lv' := [(0, .ref (q 0)), (1, .int (enc (x)))]) (st' := [.int (enc (frayAt N x (N 20 0)))]) rfl rfl rfl ?_
  exact ret _ _ _ _ dX4_frayOf_23 ⟨rfl, rfl⟩
set_option maxRecDepth 100000 in
set_option maxHeartbeats 4000000 in
theorem m_X4_hasArrived {G : va_G} {cy : ClassId} {q : Nat → Nat} (N : MT) (sN : Int → Int) (oN : Int) (U : MT) (sU : Int → Int) (oU : Int) (A : Int → Int) (x : Int) (hx : 0 ≤ x ∧ x < N 17 0) (B0 : Int) (hF : WF N B0) (hB2 : B0 ≤ 800000) : Ct G cy yX4_hasArrived cX4_hasArrived 2 (some .boolean) ({ frames := 1, cells := 0, slots := 0, locals := 21 } : Room) 0 0 [.ref (q 0), .int (enc (x))] (wD cy q N sN oN U sU oU A) (fun v w1 => v = some (.int (enc (if 0 ≤ N 15 x then 1 else 0))) ∧ w1 = wD cy q N sN oN U sU oU A) := by
  refine Ct.ofI (by decide) (Nat.le_of_ble_eq_true rfl) rfl rfl (fun x w1 h => by obtain ⟨h1, -⟩ := h; cases h1; exact nar_b) ?_
  intro c X ret
  have hB := hF.bd (by omega)
  obtain ⟨w0, w1, w2, w3, w4⟩ := hF.r
  have h17 := hF.2.2.2.2.2.1
  have h172 := hF.2.2.2.2.2.2.1
  have h20 := hF.2.2.2.2.2.2.2.1
  refine Tlv (lv' := [(0, .ref (q 0)), (1, .int (enc (x)))]) rfl ?_
  refine tw_aload_n X dX4_hasArrived_0 0 rfl rfl ?_
  refine tw_iload_n X dX4_hasArrived_1 1 rfl rfl ?_
  refine tw_callV X (As := [.int (enc (x))]) (st := []) vw_X4_160 (m_X4_requireTourist (q := q) N sN oN U sU oU A (x) hx hB) ([]) ([]) rfl rfl (q0 := 0) rfl rfl rfl ⟨rfl, rfl, Nat.le_of_ble_eq_true rfl, Nat.le_of_ble_eq_true rfl⟩ ⟨Nat.le_of_ble_eq_true rfl, Nat.le_of_ble_eq_true rfl⟩ (Nat.le_of_ble_eq_true rfl) dX4_hasArrived_2 (fun v w1 hp => ?_)
  obtain ⟨rfl, rfl⟩ := hp
  refine Teq (ws' := wD cy q N sN oN U sU oU A) (lv' := [(0, .ref (q 0)), (1, .int (enc (x)))]) (st' := []) rfl rfl rfl ?_
  refine tw_aload_n X dX4_hasArrived_5 0 rfl rfl ?_
  refine gf_X4_10 X (v := .ref (q 1)) 0 rfl rfl dX4_hasArrived_6 ?_
  refine gf_X4_69 X (v := .ref (q 10)) 1 rfl rfl dX4_hasArrived_9 ?_
  refine tw_iload_n X dX4_hasArrived_12 1 rfl rfl ?_
  refine tw_callV X (As := [.int (enc (x))]) (st := []) vw_X4_175 (m_X1_isIn (q := (fun i => q (10 + i))) N (x) hB (by omega)) (([(q 0, .inr (4, [.ref (q 1), .ref (q 22), .ref (q 43)]))]) ++ ([(q 1, .inr (3, [.ref (q 2), .ref (q 10), .ref (q 20), .int (enc (N 19 0)), .int (enc (N 20 0)), .int (enc (oN))]))]) ++ (wR cy (fun i => q (2 + i)) N)) ((wY cy (fun i => q (20 + i)) sN) ++ ([(q 22, .inr (3, [.ref (q 23), .ref (q 31), .ref (q 41), .int (enc (U 19 0)), .int (enc (U 20 0)), .int (enc (oU))]))]) ++ (wR cy (fun i => q (23 + i)) U) ++ (wT cy (fun i => q (31 + i)) U) ++ (wY cy (fun i => q (41 + i)) sU) ++ (wY cy (fun i => q (43 + i)) A)) rfl rfl (q0 := 0) rfl rfl rfl ⟨rfl, rfl, Nat.le_of_ble_eq_true rfl, Nat.le_of_ble_eq_true rfl⟩ ⟨Nat.le_of_ble_eq_true rfl, Nat.le_of_ble_eq_true rfl⟩ (Nat.le_of_ble_eq_true rfl) dX4_hasArrived_13 (fun v w1 hp => ?_)
  obtain ⟨rfl, rfl⟩ := hp
  refine Teq (ws' := wD cy q N sN oN U sU oU A) (lv' := [(0, .ref (q 0)), (1, .int (enc (x)))]) (st' := [.int (enc (if 0 ≤ N 15 x then 1 else 0))]) rfl rfl rfl ?_
  exact ret _ _ _ _ dX4_hasArrived_16 ⟨rfl, rfl⟩
set_option maxRecDepth 100000 in
set_option maxHeartbeats 4000000 in
theorem m_X4_distance {G : va_G} {cy : ClassId} {q : Nat → Nat} (N : MT) (sN : Int → Int) (oN : Int) (U : MT) (sU : Int → Int) (oU : Int) (A : Int → Int) (x : Int) (hx : 0 ≤ x ∧ x < N 19 0) (y : Int) (hy : 0 ≤ y ∧ y < N 19 0) (B0 : Int) (hF : WF N B0) (hB2 : B0 ≤ 800000) (hV : WVo N sN oN) : Ct G cy yX4_distance cX4_distance 3 (some .int) ({ frames := 2, cells := 0, slots := 0, locals := 52 } : Room) 0 0 [.ref (q 0), .int (enc (x)), .int (enc (y))] (wD cy q N sN oN U sU oU A) (fun v w1 => v = some (.int (enc (dO N false x y))) ∧ ∃ s' o' U' sU' oU' A', WVo (N) s' o' ∧ w1 = wD cy q (N) s' o' U' sU' oU' A') := by
  refine Ct.ofI (by decide) (Nat.le_of_ble_eq_true rfl) rfl rfl (fun _ _ _ => rfl) ?_
  intro c X ret
  have hB := hF.bd (by omega)
  obtain ⟨w0, w1, w2, w3, w4⟩ := hF.r
  have h17 := hF.2.2.2.2.2.1
  have h172 := hF.2.2.2.2.2.2.1
  have h20 := hF.2.2.2.2.2.2.2.1
  refine Tlv (lv' := [(0, .ref (q 0)), (1, .int (enc (x))), (2, .int (enc (y)))]) rfl ?_
  refine tw_aload_n X dX4_distance_0 0 rfl rfl ?_
  refine tw_iload_n X dX4_distance_1 1 rfl rfl ?_
  refine tw_callV X (As := [.int (enc (x))]) (st := []) vw_X4_41 (m_X4_requireCrossing (q := q) N sN oN U sU oU A (x) hx hB) ([]) ([]) rfl rfl (q0 := 0) rfl rfl rfl ⟨rfl, rfl, Nat.le_of_ble_eq_true rfl, Nat.le_of_ble_eq_true rfl⟩ ⟨Nat.le_of_ble_eq_true rfl, Nat.le_of_ble_eq_true rfl⟩ (Nat.le_of_ble_eq_true rfl) dX4_distance_2 (fun v w1 hp => ?_)
  obtain ⟨rfl, rfl⟩ := hp
  refine Teq (ws' := wD cy q N sN oN U sU oU A) (lv' := [(0, .ref (q 0)), (1, .int (enc (x))), (2, .int (enc (y)))]) (st' := []) rfl rfl rfl ?_
  refine tw_aload_n X dX4_distance_5 0 rfl rfl ?_
  refine tw_iload_n X dX4_distance_6 2 rfl rfl ?_
  refine tw_callV X (As := [.int (enc (y))]) (st := []) vw_X4_41 (m_X4_requireCrossing (q := q) N sN oN U sU oU A (y) hy hB) ([]) ([]) rfl rfl (q0 := 0) rfl rfl rfl ⟨rfl, rfl, Nat.le_of_ble_eq_true rfl, Nat.le_of_ble_eq_true rfl⟩ ⟨Nat.le_of_ble_eq_true rfl, Nat.le_of_ble_eq_true rfl⟩ (Nat.le_of_ble_eq_true rfl) dX4_distance_7 (fun v w1 hp => ?_)
  obtain ⟨rfl, rfl⟩ := hp
  refine Teq (ws' := wD cy q N sN oN U sU oU A) (lv' := [(0, .ref (q 0)), (1, .int (enc (x))), (2, .int (enc (y)))]) (st' := []) rfl rfl rfl ?_
  refine tw_aload_n X dX4_distance_10 0 rfl rfl ?_
  refine gf_X4_22 X (v := .ref (q 43)) 0 rfl rfl dX4_distance_11 ?_
  refine tw_aload_n X dX4_distance_14 0 rfl rfl ?_
  refine gf_X4_10 X (v := .ref (q 1)) 0 rfl rfl dX4_distance_15 ?_
  refine gf_X4_54 X (v := .ref (q 2)) 1 rfl rfl dX4_distance_18 ?_
  refine tw_aload_n X dX4_distance_21 0 rfl rfl ?_
  refine gf_X4_10 X (v := .ref (q 1)) 0 rfl rfl dX4_distance_22 ?_
  refine gf_X4_26 X (v := .int (enc (N 19 0))) 1 rfl rfl dX4_distance_25 ?_
  have b1 := hB 19 0
  refine tw_iconst X dX4_distance_28 ?_
  refine Tperm (ws' := (([(q 0, .inr (4, [.ref (q 1), .ref (q 22), .ref (q 43)]))]) ++ ([(q 1, .inr (3, [.ref (q 2), .ref (q 10), .ref (q 20), .int (enc (N 19 0)), .int (enc (N 20 0)), .int (enc (oN))]))]) ++ (wT cy (fun i => q (10 + i)) N) ++ (wY cy (fun i => q (20 + i)) sN) ++ ([(q 22, .inr (3, [.ref (q 23), .ref (q 31), .ref (q 41), .int (enc (U 19 0)), .int (enc (U 20 0)), .int (enc (oU))]))]) ++ (wR cy (fun i => q (23 + i)) U) ++ (wT cy (fun i => q (31 + i)) U) ++ (wY cy (fun i => q (41 + i)) sU)) ++ ((wR cy (fun i => q (2 + i)) N) ++ (wY cy (fun i => q (43 + i)) A))) [0, 1, 10, 11, 12, 13, 14, 15, 16, 17, 18, 19, 20, 21, 22, 23, 24, 25, 26, 27, 28, 29, 30, 31, 32, 33, 34, 35, 36, 37, 38, 39, 40, 41, 42, 2, 3, 4, 5, 6, 7, 8, 9, 43, 44] rfl rfl rfl ?_
  refine tw_callV X (As := [.ref (q 2), .int (enc (N 19 0)), .int (enc (0))]) (st := []) vw_X4_150 (m_X2_find (q := (fun i => cond (Nat.blt i 8) (q (2 + (i - 0))) (q (43 + (i - 8))))) N A false hF.r hB) (([(q 0, .inr (4, [.ref (q 1), .ref (q 22), .ref (q 43)]))]) ++ ([(q 1, .inr (3, [.ref (q 2), .ref (q 10), .ref (q 20), .int (enc (N 19 0)), .int (enc (N 20 0)), .int (enc (oN))]))]) ++ (wT cy (fun i => q (10 + i)) N) ++ (wY cy (fun i => q (20 + i)) sN) ++ ([(q 22, .inr (3, [.ref (q 23), .ref (q 31), .ref (q 41), .int (enc (U 19 0)), .int (enc (U 20 0)), .int (enc (oU))]))]) ++ (wR cy (fun i => q (23 + i)) U) ++ (wT cy (fun i => q (31 + i)) U) ++ (wY cy (fun i => q (41 + i)) sU)) ([]) rfl rfl (q0 := 8) rfl rfl rfl ⟨rfl, rfl, Nat.le_of_ble_eq_true rfl, Nat.le_of_ble_eq_true rfl⟩ ⟨Nat.le_of_ble_eq_true rfl, Nat.le_of_ble_eq_true rfl⟩ (Nat.le_of_ble_eq_true rfl) dX4_distance_29 (fun v w1 hp => ?_)
  obtain ⟨rfl, sf, hsf, rfl⟩ := hp
  have hsd := Stg.dst hF.r hsf (a := x) (b := y) (by omega) (by omega) (by omega) (by omega)
  have hd := dst_ok (o := false) hF.r x y
  have hd0 := hd.1
  have hd1 := hd.2.1
  refine Teq (ws' := (([(q 0, .inr (4, [.ref (q 1), .ref (q 22), .ref (q 43)]))]) ++ ([(q 1, .inr (3, [.ref (q 2), .ref (q 10), .ref (q 20), .int (enc (N 19 0)), .int (enc (N 20 0)), .int (enc (oN))]))]) ++ (wT cy (fun i => q (10 + i)) N) ++ (wY cy (fun i => q (20 + i)) sN) ++ ([(q 22, .inr (3, [.ref (q 23), .ref (q 31), .ref (q 41), .int (enc (U 19 0)), .int (enc (U 20 0)), .int (enc (oU))]))]) ++ (wR cy (fun i => q (23 + i)) U) ++ (wT cy (fun i => q (31 + i)) U) ++ (wY cy (fun i => q (41 + i)) sU)) ++ ((wR cy (fun i => q (2 + i)) N) ++ (wY cy (fun i => q (43 + i)) sf))) (lv' := [(0, .ref (q 0)), (1, .int (enc (x))), (2, .int (enc (y)))]) (st' := []) rfl rfl rfl ?_
  refine Tperm (ws' := wD cy q N sN oN U sU oU sf) [0, 1, 35, 36, 37, 38, 39, 40, 41, 42, 2, 3, 4, 5, 6, 7, 8, 9, 10, 11, 12, 13, 14, 15, 16, 17, 18, 19, 20, 21, 22, 23, 24, 25, 26, 27, 28, 29, 30, 31, 32, 33, 34, 43, 44] rfl rfl rfl ?_
  refine tw_aload_n X dX4_distance_32 0 rfl rfl ?_
  refine gf_X4_22 X (v := .ref (q 43)) 0 rfl rfl dX4_distance_33 ?_
  refine tw_iload_n X dX4_distance_36 1 rfl rfl ?_
  refine tw_iload_n X dX4_distance_37 2 rfl rfl ?_
  refine tw_callV X (As := [.int (enc (x)), .int (enc (y))]) (st := []) vw_X4_147 (m_X2_sumOrNone (q := (fun i => q (43 + i))) sf (x) (y) (by omega) (by omega) (by omega)) (([(q 0, .inr (4, [.ref (q 1), .ref (q 22), .ref (q 43)]))]) ++ ([(q 1, .inr (3, [.ref (q 2), .ref (q 10), .ref (q 20), .int (enc (N 19 0)), .int (enc (N 20 0)), .int (enc (oN))]))]) ++ (wR cy (fun i => q (2 + i)) N) ++ (wT cy (fun i => q (10 + i)) N) ++ (wY cy (fun i => q (20 + i)) sN) ++ ([(q 22, .inr (3, [.ref (q 23), .ref (q 31), .ref (q 41), .int (enc (U 19 0)), .int (enc (U 20 0)), .int (enc (oU))]))]) ++ (wR cy (fun i => q (23 + i)) U) ++ (wT cy (fun i => q (31 + i)) U) ++ (wY cy (fun i => q (41 + i)) sU)) ([]) rfl rfl (q0 := 0) rfl rfl rfl ⟨rfl, rfl, Nat.le_of_ble_eq_true rfl, Nat.le_of_ble_eq_true rfl⟩ ⟨Nat.le_of_ble_eq_true rfl, Nat.le_of_ble_eq_true rfl⟩ (Nat.le_of_ble_eq_true rfl) dX4_distance_38 (fun v w1 hp => ?_)
  obtain ⟨rfl, rfl⟩ := hp
  refine Teq (ws' := wD cy q N sN oN U sU oU sf) (lv' := [(0, .ref (q 0)), (1, .int (enc (x))), (2, .int (enc (y)))]) (st' := [.int (enc (if sf (x * 10 + y) < 1000000 then sf (x * 10 + y) else -1))]) rfl rfl rfl ?_
  refine Tst (st' := [.int (enc (dO N false x y))]) (by rw [hsd]; rfl) ?_
  exact ret _ _ _ _ dX4_distance_41 ⟨rfl, _, _, _, _, _, _, hV, rfl⟩
set_option maxRecDepth 100000 in
set_option maxHeartbeats 4000000 in
theorem m_X4_openDistance {G : va_G} {cy : ClassId} {q : Nat → Nat} (N : MT) (sN : Int → Int) (oN : Int) (U : MT) (sU : Int → Int) (oU : Int) (A : Int → Int) (x : Int) (hx : 0 ≤ x ∧ x < N 19 0) (y : Int) (hy : 0 ≤ y ∧ y < N 19 0) (B0 : Int) (hF : WF N B0) (hB2 : B0 ≤ 800000) (hV : WVo N sN oN) : Ct G cy yX4_openDistance cX4_openDistance 3 (some .int) ({ frames := 3, cells := 0, slots := 0, locals := 72 } : Room) 0 0 [.ref (q 0), .int (enc (x)), .int (enc (y))] (wD cy q N sN oN U sU oU A) (fun v w1 => v = some (.int (enc (dO N true x y))) ∧ ∃ s' o' U' sU' oU' A', WVo (N) s' o' ∧ w1 = wD cy q (N) s' o' U' sU' oU' A') := by
  refine Ct.ofI (by decide) (Nat.le_of_ble_eq_true rfl) rfl rfl (fun _ _ _ => rfl) ?_
  intro c X ret
  have hB := hF.bd (by omega)
  obtain ⟨w0, w1, w2, w3, w4⟩ := hF.r
  have h17 := hF.2.2.2.2.2.1
  have h172 := hF.2.2.2.2.2.2.1
  have h20 := hF.2.2.2.2.2.2.2.1
  refine Tlv (lv' := [(0, .ref (q 0)), (1, .int (enc (x))), (2, .int (enc (y)))]) rfl ?_
  refine tw_aload_n X dX4_openDistance_0 0 rfl rfl ?_
  refine tw_iload_n X dX4_openDistance_1 1 rfl rfl ?_
  refine tw_callV X (As := [.int (enc (x))]) (st := []) vw_X4_41 (m_X4_requireCrossing (q := q) N sN oN U sU oU A (x) hx hB) ([]) ([]) rfl rfl (q0 := 0) rfl rfl rfl ⟨rfl, rfl, Nat.le_of_ble_eq_true rfl, Nat.le_of_ble_eq_true rfl⟩ ⟨Nat.le_of_ble_eq_true rfl, Nat.le_of_ble_eq_true rfl⟩ (Nat.le_of_ble_eq_true rfl) dX4_openDistance_2 (fun v w1 hp => ?_)
  obtain ⟨rfl, rfl⟩ := hp
  refine Teq (ws' := wD cy q N sN oN U sU oU A) (lv' := [(0, .ref (q 0)), (1, .int (enc (x))), (2, .int (enc (y)))]) (st' := []) rfl rfl rfl ?_
  refine tw_aload_n X dX4_openDistance_5 0 rfl rfl ?_
  refine tw_iload_n X dX4_openDistance_6 2 rfl rfl ?_
  refine tw_callV X (As := [.int (enc (y))]) (st := []) vw_X4_41 (m_X4_requireCrossing (q := q) N sN oN U sU oU A (y) hy hB) ([]) ([]) rfl rfl (q0 := 0) rfl rfl rfl ⟨rfl, rfl, Nat.le_of_ble_eq_true rfl, Nat.le_of_ble_eq_true rfl⟩ ⟨Nat.le_of_ble_eq_true rfl, Nat.le_of_ble_eq_true rfl⟩ (Nat.le_of_ble_eq_true rfl) dX4_openDistance_7 (fun v w1 hp => ?_)
  obtain ⟨rfl, rfl⟩ := hp
  refine Teq (ws' := wD cy q N sN oN U sU oU A) (lv' := [(0, .ref (q 0)), (1, .int (enc (x))), (2, .int (enc (y)))]) (st' := []) rfl rfl rfl ?_
  refine tw_aload_n X dX4_openDistance_10 0 rfl rfl ?_
  refine gf_X4_10 X (v := .ref (q 1)) 0 rfl rfl dX4_openDistance_11 ?_
  refine tw_callV X (As := []) (st := []) vw_X4_141 (m_X3_findOpenWays (q := (fun i => q (1 + i))) N sN oN hF.r hB hV) (([(q 0, .inr (4, [.ref (q 1), .ref (q 22), .ref (q 43)]))])) (([(q 22, .inr (3, [.ref (q 23), .ref (q 31), .ref (q 41), .int (enc (U 19 0)), .int (enc (U 20 0)), .int (enc (oU))]))]) ++ (wR cy (fun i => q (23 + i)) U) ++ (wT cy (fun i => q (31 + i)) U) ++ (wY cy (fun i => q (41 + i)) sU) ++ (wY cy (fun i => q (43 + i)) A)) rfl rfl (q0 := 0) rfl rfl rfl ⟨rfl, rfl, Nat.le_of_ble_eq_true rfl, Nat.le_of_ble_eq_true rfl⟩ ⟨Nat.le_of_ble_eq_true rfl, Nat.le_of_ble_eq_true rfl⟩ (Nat.le_of_ble_eq_true rfl) dX4_openDistance_14 (fun v w1 hp => ?_)
  obtain ⟨rfl, sf, hVf, rfl⟩ := hp
  refine Teq (ws' := wD cy q N sf 0 U sU oU A) (lv' := [(0, .ref (q 0)), (1, .int (enc (x))), (2, .int (enc (y)))]) (st' := []) rfl rfl rfl ?_
  have hsd := hVf x y (by omega) (by omega) (by omega) (by omega)
  have hd := dst_ok (o := true) hF.r x y
  have hd0 := hd.1
  have hd1 := hd.2.1
  refine tw_aload_n X dX4_openDistance_17 0 rfl rfl ?_
  refine gf_X4_10 X (v := .ref (q 1)) 0 rfl rfl dX4_openDistance_18 ?_
  refine gf_X4_144 X (v := .ref (q 20)) 1 rfl rfl dX4_openDistance_21 ?_
  refine tw_iload_n X dX4_openDistance_24 1 rfl rfl ?_
  refine tw_iload_n X dX4_openDistance_25 2 rfl rfl ?_
  refine tw_callV X (As := [.int (enc (x)), .int (enc (y))]) (st := []) vw_X4_147 (m_X2_sumOrNone (q := (fun i => q (20 + i))) sf (x) (y) (by omega) (by omega) (by omega)) (([(q 0, .inr (4, [.ref (q 1), .ref (q 22), .ref (q 43)]))]) ++ ([(q 1, .inr (3, [.ref (q 2), .ref (q 10), .ref (q 20), .int (enc (N 19 0)), .int (enc (N 20 0)), .int (enc (0))]))]) ++ (wR cy (fun i => q (2 + i)) N) ++ (wT cy (fun i => q (10 + i)) N)) (([(q 22, .inr (3, [.ref (q 23), .ref (q 31), .ref (q 41), .int (enc (U 19 0)), .int (enc (U 20 0)), .int (enc (oU))]))]) ++ (wR cy (fun i => q (23 + i)) U) ++ (wT cy (fun i => q (31 + i)) U) ++ (wY cy (fun i => q (41 + i)) sU) ++ (wY cy (fun i => q (43 + i)) A)) rfl rfl (q0 := 0) rfl rfl rfl ⟨rfl, rfl, Nat.le_of_ble_eq_true rfl, Nat.le_of_ble_eq_true rfl⟩ ⟨Nat.le_of_ble_eq_true rfl, Nat.le_of_ble_eq_true rfl⟩ (Nat.le_of_ble_eq_true rfl) dX4_openDistance_26 (fun v w1 hp => ?_)
  obtain ⟨rfl, rfl⟩ := hp
  refine Teq (ws' := wD cy q N sf 0 U sU oU A) (lv' := [(0, .ref (q 0)), (1, .int (enc (x))), (2, .int (enc (y)))]) (st' := [.int (enc (if sf (x * 10 + y) < 1000000 then sf (x * 10 + y) else -1))]) rfl rfl rfl ?_
  refine Tst (st' := [.int (enc (dO N true x y))]) (by rw [hsd]; rfl) ?_
  exact ret _ _ _ _ dX4_openDistance_29 ⟨rfl, _, _, _, _, _, _, ⟨Or.inl rfl, fun _ => hVf⟩, rfl⟩
set_option maxRecDepth 100000 in
set_option maxHeartbeats 4000000 in
theorem m_X4_nextRoad {G : va_G} {cy : ClassId} {q : Nat → Nat} (N : MT) (sN : Int → Int) (oN : Int) (U : MT) (sU : Int → Int) (oU : Int) (A : Int → Int) (x : Int) (hx : 0 ≤ x ∧ x < N 19 0) (y : Int) (hy : 0 ≤ y ∧ y < N 19 0) (B0 : Int) (hF : WF N B0) (hB2 : B0 ≤ 800000) (hV : WVo N sN oN) : Ct G cy yX4_nextRoad cX4_nextRoad 3 (some .int) ({ frames := 3, cells := 0, slots := 0, locals := 72 } : Room) 0 0 [.ref (q 0), .int (enc (x)), .int (enc (y))] (wD cy q N sN oN U sU oU A) (fun v w1 => v = some (.int (enc (if x = y then -1 else toward N x y))) ∧ ∃ s' o' U' sU' oU' A', WVo (N) s' o' ∧ w1 = wD cy q (N) s' o' U' sU' oU' A') := by
  refine Ct.ofI (by decide) (Nat.le_of_ble_eq_true rfl) rfl rfl (fun _ _ _ => rfl) ?_
  intro c X ret
  have hB := hF.bd (by omega)
  obtain ⟨w0, w1, w2, w3, w4⟩ := hF.r
  have h17 := hF.2.2.2.2.2.1
  have h172 := hF.2.2.2.2.2.2.1
  have h20 := hF.2.2.2.2.2.2.2.1
  refine Tlv (lv' := [(0, .ref (q 0)), (1, .int (enc (x))), (2, .int (enc (y)))]) rfl ?_
  refine tw_aload_n X dX4_nextRoad_0 0 rfl rfl ?_
  refine tw_iload_n X dX4_nextRoad_1 1 rfl rfl ?_
  refine tw_callV X (As := [.int (enc (x))]) (st := []) vw_X4_41 (m_X4_requireCrossing (q := q) N sN oN U sU oU A (x) hx hB) ([]) ([]) rfl rfl (q0 := 0) rfl rfl rfl ⟨rfl, rfl, Nat.le_of_ble_eq_true rfl, Nat.le_of_ble_eq_true rfl⟩ ⟨Nat.le_of_ble_eq_true rfl, Nat.le_of_ble_eq_true rfl⟩ (Nat.le_of_ble_eq_true rfl) dX4_nextRoad_2 (fun v w1 hp => ?_)
  obtain ⟨rfl, rfl⟩ := hp
  refine Teq (ws' := wD cy q N sN oN U sU oU A) (lv' := [(0, .ref (q 0)), (1, .int (enc (x))), (2, .int (enc (y)))]) (st' := []) rfl rfl rfl ?_
  refine tw_aload_n X dX4_nextRoad_5 0 rfl rfl ?_
  refine tw_iload_n X dX4_nextRoad_6 2 rfl rfl ?_
  refine tw_callV X (As := [.int (enc (y))]) (st := []) vw_X4_41 (m_X4_requireCrossing (q := q) N sN oN U sU oU A (y) hy hB) ([]) ([]) rfl rfl (q0 := 0) rfl rfl rfl ⟨rfl, rfl, Nat.le_of_ble_eq_true rfl, Nat.le_of_ble_eq_true rfl⟩ ⟨Nat.le_of_ble_eq_true rfl, Nat.le_of_ble_eq_true rfl⟩ (Nat.le_of_ble_eq_true rfl) dX4_nextRoad_7 (fun v w1 hp => ?_)
  obtain ⟨rfl, rfl⟩ := hp
  refine Teq (ws' := wD cy q N sN oN U sU oU A) (lv' := [(0, .ref (q 0)), (1, .int (enc (x))), (2, .int (enc (y)))]) (st' := []) rfl rfl rfl ?_
  refine tw_iload_n X dX4_nextRoad_10 1 rfl rfl ?_
  refine tw_iload_n X dX4_nextRoad_11 2 rfl rfl ?_
  refine tw_icmp_ne (tgt := 17) X (In_of (by omega) (by omega)) (In_of (by omega) (by omega)) dX4_nextRoad_12 (by decide) (fun c12 => ?_) (fun c12 => ?_)
  · skip
    refine tw_aload_n X dX4_nextRoad_17 0 rfl rfl ?_
    refine gf_X4_10 X (v := .ref (q 1)) 0 rfl rfl dX4_nextRoad_18 ?_
    refine tw_callV X (As := []) (st := []) vw_X4_141 (m_X3_findOpenWays (q := (fun i => q (1 + i))) N sN oN hF.r hB hV) (([(q 0, .inr (4, [.ref (q 1), .ref (q 22), .ref (q 43)]))])) (([(q 22, .inr (3, [.ref (q 23), .ref (q 31), .ref (q 41), .int (enc (U 19 0)), .int (enc (U 20 0)), .int (enc (oU))]))]) ++ (wR cy (fun i => q (23 + i)) U) ++ (wT cy (fun i => q (31 + i)) U) ++ (wY cy (fun i => q (41 + i)) sU) ++ (wY cy (fun i => q (43 + i)) A)) rfl rfl (q0 := 0) rfl rfl rfl ⟨rfl, rfl, Nat.le_of_ble_eq_true rfl, Nat.le_of_ble_eq_true rfl⟩ ⟨Nat.le_of_ble_eq_true rfl, Nat.le_of_ble_eq_true rfl⟩ (Nat.le_of_ble_eq_true rfl) dX4_nextRoad_21 (fun v w1 hp => ?_)
    obtain ⟨rfl, sf, hVf, rfl⟩ := hp
    refine Teq (ws' := wD cy q N sf 0 U sU oU A) (lv' := [(0, .ref (q 0)), (1, .int (enc (x))), (2, .int (enc (y)))]) (st' := []) rfl rfl rfl ?_
    refine tw_aload_n X dX4_nextRoad_24 0 rfl rfl ?_
    refine gf_X4_10 X (v := .ref (q 1)) 0 rfl rfl dX4_nextRoad_25 ?_
    refine tw_iload_n X dX4_nextRoad_28 1 rfl rfl ?_
    refine tw_iload_n X dX4_nextRoad_29 2 rfl rfl ?_
    refine tw_callV X (As := [.int (enc (x)), .int (enc (y))]) (st := []) vw_X4_154 (m_X3_roadToward (q := (fun i => q (1 + i))) N sf 0 (x) (y) hF.r hB (fun r => (hF.2.2.2.1 r).2.1) hVf (by omega) (by omega)) (([(q 0, .inr (4, [.ref (q 1), .ref (q 22), .ref (q 43)]))])) (([(q 22, .inr (3, [.ref (q 23), .ref (q 31), .ref (q 41), .int (enc (U 19 0)), .int (enc (U 20 0)), .int (enc (oU))]))]) ++ (wR cy (fun i => q (23 + i)) U) ++ (wT cy (fun i => q (31 + i)) U) ++ (wY cy (fun i => q (41 + i)) sU) ++ (wY cy (fun i => q (43 + i)) A)) rfl rfl (q0 := 0) rfl rfl rfl ⟨rfl, rfl, Nat.le_of_ble_eq_true rfl, Nat.le_of_ble_eq_true rfl⟩ ⟨Nat.le_of_ble_eq_true rfl, Nat.le_of_ble_eq_true rfl⟩ (Nat.le_of_ble_eq_true rfl) dX4_nextRoad_30 (fun v w1 hp => ?_)
    obtain ⟨rfl, rfl⟩ := hp
    refine Teq (ws' := wD cy q N sf 0 U sU oU A) (lv' := [(0, .ref (q 0)), (1, .int (enc (x))), (2, .int (enc (y)))]) (st' := [.int (enc (toward N x y))]) rfl rfl rfl ?_
    exact ret _ _ _ _ dX4_nextRoad_33 ⟨by rw [if_neg c12], _, _, _, _, _, _, ⟨Or.inl rfl, fun _ => hVf⟩, rfl⟩
  · skip
    refine tw_iconst X dX4_nextRoad_15 ?_
    exact ret _ _ _ _ dX4_nextRoad_16 ⟨by rw [if_pos c12], _, _, _, _, _, _, hV, rfl⟩
set_option maxRecDepth 100000 in
set_option maxHeartbeats 4000000 in
theorem m_X4_addCrossing {G : va_G} {cy : ClassId} {q : Nat → Nat} (N : MT) (sN : Int → Int) (oN : Int) (U : MT) (sU : Int → Int) (oU : Int) (A : Int → Int) (B0 : Int) (hF : WF N B0) (hB2 : B0 ≤ 800000) (hV : WVo N sN oN) (h10 : N 19 0 < 10) : Ct G cy yX4_addCrossing cX4_addCrossing 1 (some .int) ({ frames := 1, cells := 0, slots := 0, locals := 20 } : Room) 0 0 [.ref (q 0)] (wD cy q N sN oN U sU oU A) (fun v w1 => v = some (.int (enc (N 19 0))) ∧ ∃ s' o' U' sU' oU' A', WVo (upc N 19 (N 19 0 + 1)) s' o' ∧ w1 = wD cy q (upc N 19 (N 19 0 + 1)) s' o' U' sU' oU' A') := by
  refine Ct.ofI (by decide) (Nat.le_of_ble_eq_true rfl) rfl rfl (fun _ _ _ => rfl) ?_
  intro c X ret
  have hB := hF.bd (by omega)
  obtain ⟨w0, w1, w2, w3, w4⟩ := hF.r
  have h17 := hF.2.2.2.2.2.1
  have h172 := hF.2.2.2.2.2.2.1
  have h20 := hF.2.2.2.2.2.2.2.1
  refine Tlv (lv' := [(0, .ref (q 0))]) rfl ?_
  refine tw_aload_n X dX4_addCrossing_0 0 rfl rfl ?_
  refine gf_X4_10 X (v := .ref (q 1)) 0 rfl rfl dX4_addCrossing_1 ?_
  refine gf_X4_26 X (v := .int (enc (N 19 0))) 1 rfl rfl dX4_addCrossing_4 ?_
  have b1 := hB 19 0
  refine tw_bipush X dX4_addCrossing_7 (by decide) ?_
  refine tw_icmp_lt (tgt := 22) X (In_of (by omega) (by omega)) (In_of (by omega) (by omega)) dX4_addCrossing_9 (by decide) (fun c9 => ?_) (fun c9 => ?_)
  · skip
    refine tw_aload_n X dX4_addCrossing_22 0 rfl rfl ?_
    refine gf_X4_10 X (v := .ref (q 1)) 0 rfl rfl dX4_addCrossing_23 ?_
    refine tw_callV X (As := []) (st := []) vw_X4_37 (m_X3_putCrossing (q := (fun i => q (1 + i))) N sN oN) (([(q 0, .inr (4, [.ref (q 1), .ref (q 22), .ref (q 43)]))])) (([(q 22, .inr (3, [.ref (q 23), .ref (q 31), .ref (q 41), .int (enc (U 19 0)), .int (enc (U 20 0)), .int (enc (oU))]))]) ++ (wR cy (fun i => q (23 + i)) U) ++ (wT cy (fun i => q (31 + i)) U) ++ (wY cy (fun i => q (41 + i)) sU) ++ (wY cy (fun i => q (43 + i)) A)) rfl rfl (q0 := 0) rfl rfl rfl ⟨rfl, rfl, Nat.le_of_ble_eq_true rfl, Nat.le_of_ble_eq_true rfl⟩ ⟨Nat.le_of_ble_eq_true rfl, Nat.le_of_ble_eq_true rfl⟩ (Nat.le_of_ble_eq_true rfl) dX4_addCrossing_26 (fun v w1 hp => ?_)
    obtain ⟨rfl, rfl⟩ := hp
    refine Teq (ws' := wD cy q (upc N 19 (N 19 0 + 1)) sN 1 U sU oU A) (lv' := [(0, .ref (q 0))]) (st' := [.int (enc (N 19 0))]) rfl rfl rfl ?_
    have b2 := hB 19 0
    exact ret _ _ _ _ dX4_addCrossing_29 ⟨rfl, _, _, _, _, _, _, WVo.old, rfl⟩
  · skip
    exact (show False by omega).elim
set_option maxRecDepth 100000 in
set_option maxHeartbeats 4000000 in
theorem m_X4_addRoad {G : va_G} {cy : ClassId} {q : Nat → Nat} (N : MT) (sN : Int → Int) (oN : Int) (U : MT) (sU : Int → Int) (oU : Int) (A : Int → Int) (x : Int) (hx : 0 ≤ x ∧ x < N 19 0) (y : Int) (hy : 0 ≤ y ∧ y < N 19 0) (hxy : x ≠ y) (z u : Int) (hz : 1 ≤ z ∧ z ≤ 9) (hu : 0 ≤ u ∧ u ≤ 3) (h20r : N 16 0 < 20) (B0 : Int) (hF : WF N B0) (hB2 : B0 ≤ 800000) (hV : WVo N sN oN) : Ct G cy yX4_addRoad cX4_addRoad 5 (some .int) ({ frames := 2, cells := 0, slots := 0, locals := 49 } : Room) 0 0 [.ref (q 0), .int (enc (x)), .int (enc (y)), .int (enc (z)), .int (enc (u))] (wD cy q N sN oN U sU oU A) (fun v w1 => v = some (.int (enc (N 16 0))) ∧ ∃ s' o' U' sU' oU' A', WVo (putR N x y z u) s' o' ∧ w1 = wD cy q (putR N x y z u) s' o' U' sU' oU' A') := by
  refine Ct.ofI (by decide) (Nat.le_of_ble_eq_true rfl) rfl rfl (fun _ _ _ => rfl) ?_
  intro c X ret
  have hB := hF.bd (by omega)
  obtain ⟨w0, w1, w2, w3, w4⟩ := hF.r
  have h17 := hF.2.2.2.2.2.1
  have h172 := hF.2.2.2.2.2.2.1
  have h20 := hF.2.2.2.2.2.2.2.1
  refine Tlv (lv' := [(0, .ref (q 0)), (1, .int (enc (x))), (2, .int (enc (y))), (3, .int (enc (z))), (4, .int (enc (u)))]) rfl ?_
  refine tw_aload_n X dX4_addRoad_0 0 rfl rfl ?_
  refine tw_iload_n X dX4_addRoad_1 1 rfl rfl ?_
  refine tw_callV X (As := [.int (enc (x))]) (st := []) vw_X4_41 (m_X4_requireCrossing (q := q) N sN oN U sU oU A (x) hx hB) ([]) ([]) rfl rfl (q0 := 0) rfl rfl rfl ⟨rfl, rfl, Nat.le_of_ble_eq_true rfl, Nat.le_of_ble_eq_true rfl⟩ ⟨Nat.le_of_ble_eq_true rfl, Nat.le_of_ble_eq_true rfl⟩ (Nat.le_of_ble_eq_true rfl) dX4_addRoad_2 (fun v w1 hp => ?_)
  obtain ⟨rfl, rfl⟩ := hp
  refine Teq (ws' := wD cy q N sN oN U sU oU A) (lv' := [(0, .ref (q 0)), (1, .int (enc (x))), (2, .int (enc (y))), (3, .int (enc (z))), (4, .int (enc (u)))]) (st' := []) rfl rfl rfl ?_
  refine tw_aload_n X dX4_addRoad_5 0 rfl rfl ?_
  refine tw_iload_n X dX4_addRoad_6 2 rfl rfl ?_
  refine tw_callV X (As := [.int (enc (y))]) (st := []) vw_X4_41 (m_X4_requireCrossing (q := q) N sN oN U sU oU A (y) hy hB) ([]) ([]) rfl rfl (q0 := 0) rfl rfl rfl ⟨rfl, rfl, Nat.le_of_ble_eq_true rfl, Nat.le_of_ble_eq_true rfl⟩ ⟨Nat.le_of_ble_eq_true rfl, Nat.le_of_ble_eq_true rfl⟩ (Nat.le_of_ble_eq_true rfl) dX4_addRoad_7 (fun v w1 hp => ?_)
  obtain ⟨rfl, rfl⟩ := hp
  refine Teq (ws' := wD cy q N sN oN U sU oU A) (lv' := [(0, .ref (q 0)), (1, .int (enc (x))), (2, .int (enc (y))), (3, .int (enc (z))), (4, .int (enc (u)))]) (st' := []) rfl rfl rfl ?_
  refine tw_iload_n X dX4_addRoad_10 1 rfl rfl ?_
  refine tw_iload_n X dX4_addRoad_11 2 rfl rfl ?_
  refine tw_icmp_ne (tgt := 25) X (In_of (by omega) (by omega)) (In_of (by omega) (by omega)) dX4_addRoad_12 (by decide) (fun c12 => ?_) (fun c12 => ?_)
  · skip
    refine tw_iload_n X dX4_addRoad_25 3 rfl rfl ?_
    refine tw_iconst X dX4_addRoad_26 ?_
    refine tw_icmp_lt (tgt := 36) X (In_of (by omega) (by omega)) (In_of (by omega) (by omega)) dX4_addRoad_27 (by decide) (fun c27 => ?_) (fun c27 => ?_)
    · skip
      exact (show False by omega).elim
    · skip
      refine tw_iload_n X dX4_addRoad_30 3 rfl rfl ?_
      refine tw_bipush X dX4_addRoad_31 (by decide) ?_
      refine tw_icmp_le (tgt := 46) X (In_of (by omega) (by omega)) (In_of (by omega) (by omega)) dX4_addRoad_33 (by decide) (fun c33 => ?_) (fun c33 => ?_)
      · skip
        refine tw_iload X dX4_addRoad_46 4 rfl ?_
        refine tw_if_lt (tgt := 57) X (In_of (by omega) (by omega)) dX4_addRoad_48 (by decide) (fun c48 => ?_) (fun c48 => ?_)
        · skip
          exact (show False by omega).elim
        · skip
          refine tw_iload X dX4_addRoad_51 4 rfl ?_
          refine tw_iconst X dX4_addRoad_53 ?_
          refine tw_icmp_le (tgt := 67) X (In_of (by omega) (by omega)) (In_of (by omega) (by omega)) dX4_addRoad_54 (by decide) (fun c54 => ?_) (fun c54 => ?_)
          · skip
            refine tw_aload_n X dX4_addRoad_67 0 rfl rfl ?_
            refine gf_X4_10 X (v := .ref (q 1)) 0 rfl rfl dX4_addRoad_68 ?_
            refine gf_X4_54 X (v := .ref (q 2)) 1 rfl rfl dX4_addRoad_71 ?_
            refine gf_X4_58 X (v := .int (enc (N 16 0))) 2 rfl rfl dX4_addRoad_74 ?_
            have b1 := hB 16 0
            refine tw_bipush X dX4_addRoad_77 (by decide) ?_
            refine tw_icmp_lt (tgt := 92) X (In_of (by omega) (by omega)) (In_of (by omega) (by omega)) dX4_addRoad_79 (by decide) (fun c79 => ?_) (fun c79 => ?_)
            · skip
              refine tw_aload_n X dX4_addRoad_92 0 rfl rfl ?_
              refine gf_X4_10 X (v := .ref (q 1)) 0 rfl rfl dX4_addRoad_93 ?_
              refine tw_iload_n X dX4_addRoad_96 1 rfl rfl ?_
              refine tw_iload_n X dX4_addRoad_97 2 rfl rfl ?_
              refine tw_iload_n X dX4_addRoad_98 3 rfl rfl ?_
              refine tw_iload X dX4_addRoad_99 4 rfl ?_
              refine tw_callV X (As := [.int (enc (x)), .int (enc (y)), .int (enc (z)), .int (enc (u))]) (st := []) vw_X4_65 (m_X3_putRoad (q := (fun i => q (1 + i))) N sN oN (x) (y) (z) (u) (by omega)) (([(q 0, .inr (4, [.ref (q 1), .ref (q 22), .ref (q 43)]))])) (([(q 22, .inr (3, [.ref (q 23), .ref (q 31), .ref (q 41), .int (enc (U 19 0)), .int (enc (U 20 0)), .int (enc (oU))]))]) ++ (wR cy (fun i => q (23 + i)) U) ++ (wT cy (fun i => q (31 + i)) U) ++ (wY cy (fun i => q (41 + i)) sU) ++ (wY cy (fun i => q (43 + i)) A)) rfl rfl (q0 := 0) rfl rfl rfl ⟨rfl, rfl, Nat.le_of_ble_eq_true rfl, Nat.le_of_ble_eq_true rfl⟩ ⟨Nat.le_of_ble_eq_true rfl, Nat.le_of_ble_eq_true rfl⟩ (Nat.le_of_ble_eq_true rfl) dX4_addRoad_101 (fun v w1 hp => ?_)
              obtain ⟨rfl, rfl⟩ := hp
              refine Teq (ws' := wD cy q (putR N x y z u) sN 1 U sU oU A) (lv' := [(0, .ref (q 0)), (1, .int (enc (x))), (2, .int (enc (y))), (3, .int (enc (z))), (4, .int (enc (u)))]) (st' := [.int (enc (N 16 0))]) rfl rfl rfl ?_
              have b2 := hB 16 0
              exact ret _ _ _ _ dX4_addRoad_104 ⟨rfl, _, _, _, _, _, _, WVo.old, rfl⟩
            · skip
              exact (show False by omega).elim
          · skip
            exact (show False by omega).elim
      · skip
        exact (show False by omega).elim
  · skip
    exact (show False by omega).elim
set_option maxRecDepth 100000 in
set_option maxHeartbeats 4000000 in
theorem m_X4_addTourist {G : va_G} {cy : ClassId} {q : Nat → Nat} (N : MT) (sN : Int → Int) (oN : Int) (U : MT) (sU : Int → Int) (oU : Int) (A : Int → Int) (x : Int) (hx : 0 ≤ x ∧ x < N 19 0) (y : Int) (hy : 0 ≤ y ∧ y < N 19 0) (hxy : x ≠ y) (h12 : N 17 0 < 12) (hdd : 0 ≤ dO N false x y) (B0 : Int) (hF : WF N B0) (hB2 : B0 ≤ 800000) (hV : WVo N sN oN) : Ct G cy yX4_addTourist cX4_addTourist 4 (some .int) ({ frames := 3, cells := 0, slots := 0, locals := 74 } : Room) 0 0 [.ref (q 0), .int (enc (x)), .int (enc (y))] (wD cy q N sN oN U sU oU A) (fun v w1 => v = some (.int (enc (N 17 0))) ∧ ∃ s' o' U' sU' oU' A', WVo (putT N x y (dO N false x y) (N 20 0)) s' o' ∧ w1 = wD cy q (putT N x y (dO N false x y) (N 20 0)) s' o' U' sU' oU' A') := by
  refine Ct.ofI (by decide) (Nat.le_of_ble_eq_true rfl) rfl rfl (fun _ _ _ => rfl) ?_
  intro c X ret
  have hB := hF.bd (by omega)
  obtain ⟨w0, w1, w2, w3, w4⟩ := hF.r
  have h17 := hF.2.2.2.2.2.1
  have h172 := hF.2.2.2.2.2.2.1
  have h20 := hF.2.2.2.2.2.2.2.1
  refine Tlv (lv' := [(0, .ref (q 0)), (1, .int (enc (x))), (2, .int (enc (y)))]) rfl ?_
  refine tw_aload_n X dX4_addTourist_0 0 rfl rfl ?_
  refine tw_iload_n X dX4_addTourist_1 1 rfl rfl ?_
  refine tw_callV X (As := [.int (enc (x))]) (st := []) vw_X4_41 (m_X4_requireCrossing (q := q) N sN oN U sU oU A (x) hx hB) ([]) ([]) rfl rfl (q0 := 0) rfl rfl rfl ⟨rfl, rfl, Nat.le_of_ble_eq_true rfl, Nat.le_of_ble_eq_true rfl⟩ ⟨Nat.le_of_ble_eq_true rfl, Nat.le_of_ble_eq_true rfl⟩ (Nat.le_of_ble_eq_true rfl) dX4_addTourist_2 (fun v w1 hp => ?_)
  obtain ⟨rfl, rfl⟩ := hp
  refine Teq (ws' := wD cy q N sN oN U sU oU A) (lv' := [(0, .ref (q 0)), (1, .int (enc (x))), (2, .int (enc (y)))]) (st' := []) rfl rfl rfl ?_
  refine tw_aload_n X dX4_addTourist_5 0 rfl rfl ?_
  refine tw_iload_n X dX4_addTourist_6 2 rfl rfl ?_
  refine tw_callV X (As := [.int (enc (y))]) (st := []) vw_X4_41 (m_X4_requireCrossing (q := q) N sN oN U sU oU A (y) hy hB) ([]) ([]) rfl rfl (q0 := 0) rfl rfl rfl ⟨rfl, rfl, Nat.le_of_ble_eq_true rfl, Nat.le_of_ble_eq_true rfl⟩ ⟨Nat.le_of_ble_eq_true rfl, Nat.le_of_ble_eq_true rfl⟩ (Nat.le_of_ble_eq_true rfl) dX4_addTourist_7 (fun v w1 hp => ?_)
  obtain ⟨rfl, rfl⟩ := hp
  refine Teq (ws' := wD cy q N sN oN U sU oU A) (lv' := [(0, .ref (q 0)), (1, .int (enc (x))), (2, .int (enc (y)))]) (st' := []) rfl rfl rfl ?_
  refine tw_iload_n X dX4_addTourist_10 1 rfl rfl ?_
  refine tw_iload_n X dX4_addTourist_11 2 rfl rfl ?_
  refine tw_icmp_ne (tgt := 25) X (In_of (by omega) (by omega)) (In_of (by omega) (by omega)) dX4_addTourist_12 (by decide) (fun c12 => ?_) (fun c12 => ?_)
  · skip
    refine tw_aload_n X dX4_addTourist_25 0 rfl rfl ?_
    refine gf_X4_10 X (v := .ref (q 1)) 0 rfl rfl dX4_addTourist_26 ?_
    refine gf_X4_69 X (v := .ref (q 10)) 1 rfl rfl dX4_addTourist_29 ?_
    refine gf_X4_73 X (v := .int (enc (N 17 0))) 10 rfl rfl dX4_addTourist_32 ?_
    have b1 := hB 17 0
    refine tw_bipush X dX4_addTourist_35 (by decide) ?_
    refine tw_icmp_lt (tgt := 50) X (In_of (by omega) (by omega)) (In_of (by omega) (by omega)) dX4_addTourist_37 (by decide) (fun c37 => ?_) (fun c37 => ?_)
    · skip
      refine tw_aload_n X dX4_addTourist_50 0 rfl rfl ?_
      refine tw_iload_n X dX4_addTourist_51 1 rfl rfl ?_
      refine tw_iload_n X dX4_addTourist_52 2 rfl rfl ?_
      refine tw_callV X (As := [.int (enc (x)), .int (enc (y))]) (st := []) vw_X4_78 (m_X4_distance (q := q) N sN oN U sU oU A (x) hx (y) hy B0 hF hB2 hV) ([]) ([]) rfl rfl (q0 := 0) rfl rfl rfl ⟨rfl, rfl, Nat.le_of_ble_eq_true rfl, Nat.le_of_ble_eq_true rfl⟩ ⟨Nat.le_of_ble_eq_true rfl, Nat.le_of_ble_eq_true rfl⟩ (Nat.le_of_ble_eq_true rfl) dX4_addTourist_53 (fun v w1 hp => ?_)
      obtain ⟨rfl, s1, o1, U1, sU1, oU1, A1, hV1, rfl⟩ := hp
      refine Teq (ws' := wD cy q N s1 o1 U1 sU1 oU1 A1) (lv' := [(0, .ref (q 0)), (1, .int (enc (x))), (2, .int (enc (y)))]) (st' := [.int (enc (dO N false x y))]) rfl rfl rfl ?_
      have hdo := dO_rng hF.r (o := false) (a := x) (b := y) (by omega)
      refine tw_istore_n (lv' := [(3, .int (enc (dO N false x y))), (0, .ref (q 0)), (1, .int (enc (x))), (2, .int (enc (y)))]) X dX4_addTourist_56 rfl (by decide) rfl ?_
      refine tw_iload_n X dX4_addTourist_57 0 rfl rfl ?_
      refine tw_if_ge (tgt := 71) X (In_of (by omega) (by omega)) dX4_addTourist_58 (by decide) (fun c58 => ?_) (fun c58 => ?_)
      · skip
        refine tw_aload_n X dX4_addTourist_71 1 rfl rfl ?_
        refine gf_X4_10 X (v := .ref (q 1)) 0 rfl rfl dX4_addTourist_72 ?_
        refine gf_X4_69 X (v := .ref (q 10)) 1 rfl rfl dX4_addTourist_75 ?_
        refine tw_iload_n X dX4_addTourist_78 2 rfl rfl ?_
        refine tw_iload_n X dX4_addTourist_79 3 rfl rfl ?_
        refine tw_iload_n X dX4_addTourist_80 0 rfl rfl ?_
        refine tw_aload_n X dX4_addTourist_81 1 rfl rfl ?_
        refine gf_X4_10 X (v := .ref (q 1)) 0 rfl rfl dX4_addTourist_82 ?_
        refine gf_X4_84 X (v := .int (enc (N 20 0))) 1 rfl rfl dX4_addTourist_85 ?_
        have b2 := hB 20 0
        refine tw_callV X (As := [.int (enc (x)), .int (enc (y)), .int (enc (dO N false x y)), .int (enc (N 20 0))]) (st := []) vw_X4_87 (m_X1_put (q := (fun i => q (10 + i))) N (x) (y) (dO N false x y) (N 20 0) (by omega)) (([(q 0, .inr (4, [.ref (q 1), .ref (q 22), .ref (q 43)]))]) ++ ([(q 1, .inr (3, [.ref (q 2), .ref (q 10), .ref (q 20), .int (enc (N 19 0)), .int (enc (N 20 0)), .int (enc (o1))]))]) ++ (wR cy (fun i => q (2 + i)) N)) ((wY cy (fun i => q (20 + i)) s1) ++ ([(q 22, .inr (3, [.ref (q 23), .ref (q 31), .ref (q 41), .int (enc (U1 19 0)), .int (enc (U1 20 0)), .int (enc (oU1))]))]) ++ (wR cy (fun i => q (23 + i)) U1) ++ (wT cy (fun i => q (31 + i)) U1) ++ (wY cy (fun i => q (41 + i)) sU1) ++ (wY cy (fun i => q (43 + i)) A1)) rfl rfl (q0 := 0) rfl rfl rfl ⟨rfl, rfl, Nat.le_of_ble_eq_true rfl, Nat.le_of_ble_eq_true rfl⟩ ⟨Nat.le_of_ble_eq_true rfl, Nat.le_of_ble_eq_true rfl⟩ (Nat.le_of_ble_eq_true rfl) dX4_addTourist_88 (fun v w1 hp => ?_)
        obtain ⟨rfl, rfl⟩ := hp
        refine Teq (ws' := wD cy q (putT N x y (dO N false x y) (N 20 0)) s1 o1 U1 sU1 oU1 A1) (lv' := [(3, .int (enc (dO N false x y))), (0, .ref (q 0)), (1, .int (enc (x))), (2, .int (enc (y)))]) (st' := [.int (enc (N 17 0))]) rfl rfl rfl ?_
        have b3 := hB 17 0
        exact ret _ _ _ _ dX4_addTourist_91 ⟨rfl, _, _, _, _, _, _, (hV1.congr rfl rfl rfl rfl (fun _ => Iff.rfl) rfl rfl), rfl⟩
      · skip
        exact (show False by omega).elim
    · skip
      exact (show False by omega).elim
  · skip
    exact (show False by omega).elim
set_option maxRecDepth 100000 in
set_option maxHeartbeats 4000000 in
theorem m_X4_mend {G : va_G} {cy : ClassId} {q : Nat → Nat} (N : MT) (sN : Int → Int) (oN : Int) (U : MT) (sU : Int → Int) (oU : Int) (A : Int → Int) (x : Int) (hx : 0 ≤ x ∧ x < N 16 0) (y : Int) (hy : 1 ≤ y ∧ y ≤ 20) (h6 : N 6 x = 0) (B0 : Int) (hF : WF N B0) (hB2 : B0 ≤ 800000) (hV : WVo N sN oN) : Ct G cy yX4_mend cX4_mend 3 (some .int) ({ frames := 1, cells := 0, slots := 0, locals := 22 } : Room) 0 0 [.ref (q 0), .int (enc (x)), .int (enc (y))] (wD cy q N sN oN U sU oU A) (fun v w1 => v = some (.int (enc (N 4 x))) ∧ ∃ s' o' U' sU' oU' A', WVo (up N 6 x y) s' o' ∧ w1 = wD cy q (up N 6 x y) s' o' U' sU' oU' A') := by
  refine Ct.ofI (by decide) (Nat.le_of_ble_eq_true rfl) rfl rfl (fun _ _ _ => rfl) ?_
  intro c X ret
  have hB := hF.bd (by omega)
  obtain ⟨w0, w1, w2, w3, w4⟩ := hF.r
  have h17 := hF.2.2.2.2.2.1
  have h172 := hF.2.2.2.2.2.2.1
  have h20 := hF.2.2.2.2.2.2.2.1
  refine Tlv (lv' := [(0, .ref (q 0)), (1, .int (enc (x))), (2, .int (enc (y)))]) rfl ?_
  refine tw_aload_n X dX4_mend_0 0 rfl rfl ?_
  refine tw_iload_n X dX4_mend_1 1 rfl rfl ?_
  refine tw_callV X (As := [.int (enc (x))]) (st := []) vw_X4_90 (m_X4_requireRoad (q := q) N sN oN U sU oU A (x) hx hB) ([]) ([]) rfl rfl (q0 := 0) rfl rfl rfl ⟨rfl, rfl, Nat.le_of_ble_eq_true rfl, Nat.le_of_ble_eq_true rfl⟩ ⟨Nat.le_of_ble_eq_true rfl, Nat.le_of_ble_eq_true rfl⟩ (Nat.le_of_ble_eq_true rfl) dX4_mend_2 (fun v w1 hp => ?_)
  obtain ⟨rfl, rfl⟩ := hp
  refine Teq (ws' := wD cy q N sN oN U sU oU A) (lv' := [(0, .ref (q 0)), (1, .int (enc (x))), (2, .int (enc (y)))]) (st' := []) rfl rfl rfl ?_
  refine tw_iload_n X dX4_mend_5 2 rfl rfl ?_
  refine tw_iconst X dX4_mend_6 ?_
  refine tw_icmp_lt (tgt := 16) X (In_of (by omega) (by omega)) (In_of (by omega) (by omega)) dX4_mend_7 (by decide) (fun c7 => ?_) (fun c7 => ?_)
  · skip
    exact (show False by omega).elim
  · skip
    refine tw_iload_n X dX4_mend_10 2 rfl rfl ?_
    refine tw_bipush X dX4_mend_11 (by decide) ?_
    refine tw_icmp_le (tgt := 26) X (In_of (by omega) (by omega)) (In_of (by omega) (by omega)) dX4_mend_13 (by decide) (fun c13 => ?_) (fun c13 => ?_)
    · skip
      refine tw_aload_n X dX4_mend_26 0 rfl rfl ?_
      refine gf_X4_10 X (v := .ref (q 1)) 0 rfl rfl dX4_mend_27 ?_
      refine gf_X4_54 X (v := .ref (q 2)) 1 rfl rfl dX4_mend_30 ?_
      refine gf_X4_95 X (v := .ref (q 9)) 2 rfl rfl dX4_mend_33 ?_
      refine tw_iload_n X dX4_mend_36 1 rfl rfl ?_
      refine tw_iald X (N := 20) (f := (N 6)) 9 rfl (by decide) (by omega) dX4_mend_37 ?_
      refine Tst (st' := [.int (enc (N 6 x))]) rfl ?_
      have b1 := hB 6 x
      refine tw_if_le (tgt := 51) X (In_of (by omega) (by omega)) dX4_mend_38 (by decide) (fun c38 => ?_) (fun c38 => ?_)
      · skip
        refine tw_aload_n X dX4_mend_51 0 rfl rfl ?_
        refine gf_X4_10 X (v := .ref (q 1)) 0 rfl rfl dX4_mend_52 ?_
        refine tw_iload_n X dX4_mend_55 1 rfl rfl ?_
        refine tw_iload_n X dX4_mend_56 2 rfl rfl ?_
        refine tw_callV X (As := [.int (enc (x)), .int (enc (y))]) (st := []) vw_X4_101 (m_X3_closeRoad (q := (fun i => q (1 + i))) N sN oN (x) (y) (by omega)) (([(q 0, .inr (4, [.ref (q 1), .ref (q 22), .ref (q 43)]))])) (([(q 22, .inr (3, [.ref (q 23), .ref (q 31), .ref (q 41), .int (enc (U 19 0)), .int (enc (U 20 0)), .int (enc (oU))]))]) ++ (wR cy (fun i => q (23 + i)) U) ++ (wT cy (fun i => q (31 + i)) U) ++ (wY cy (fun i => q (41 + i)) sU) ++ (wY cy (fun i => q (43 + i)) A)) rfl rfl (q0 := 0) rfl rfl rfl ⟨rfl, rfl, Nat.le_of_ble_eq_true rfl, Nat.le_of_ble_eq_true rfl⟩ ⟨Nat.le_of_ble_eq_true rfl, Nat.le_of_ble_eq_true rfl⟩ (Nat.le_of_ble_eq_true rfl) dX4_mend_57 (fun v w1 hp => ?_)
        obtain ⟨rfl, rfl⟩ := hp
        refine Teq (ws' := wD cy q (up N 6 (x) (y)) sN 1 U sU oU A) (lv' := [(0, .ref (q 0)), (1, .int (enc (x))), (2, .int (enc (y)))]) (st' := []) rfl rfl rfl ?_
        refine tw_aload_n X dX4_mend_60 0 rfl rfl ?_
        refine gf_X4_10 X (v := .ref (q 1)) 0 rfl rfl dX4_mend_61 ?_
        refine gf_X4_54 X (v := .ref (q 2)) 1 rfl rfl dX4_mend_64 ?_
        refine gf_X4_105 X (v := .ref (q 7)) 2 rfl rfl dX4_mend_67 ?_
        refine tw_iload_n X dX4_mend_70 1 rfl rfl ?_
        refine tw_iald X (N := 20) (f := (N 4)) 7 rfl (by decide) (by omega) dX4_mend_71 ?_
        refine Tst (st' := [.int (enc (N 4 x))]) rfl ?_
        have b2 := hB 4 x
        exact ret _ _ _ _ dX4_mend_72 ⟨rfl, _, _, _, _, _, _, WVo.old, rfl⟩
      · skip
        exact (show False by omega).elim
    · skip
      exact (show False by omega).elim
set_option maxRecDepth 100000 in
set_option maxHeartbeats 4000000 in
theorem m_X4_cutKnots {G : va_G} {cy : ClassId} {q : Nat → Nat} (N : MT) (sN : Int → Int) (oN : Int) (U : MT) (sU : Int → Int) (oU : Int) (A : Int → Int) (x : Int) (hx : 0 ≤ x ∧ x < N 16 0) (h6 : N 6 x = 0) (h8 : onR N x (N 17 0).toNat = 0) (B0 : Int) (hF : WF N B0) (hB2 : B0 ≤ 800000) (hV : WVo N sN oN) : Ct G cy yX4_cutKnots cX4_cutKnots 2 (some .int) ({ frames := 1, cells := 0, slots := 0, locals := 23 } : Room) 0 0 [.ref (q 0), .int (enc (x))] (wD cy q N sN oN U sU oU A) (fun v w1 => v = some (.int (enc (N 5 x))) ∧ ∃ s' o' U' sU' oU' A', WVo (up N 5 x 0) s' o' ∧ w1 = wD cy q (up N 5 x 0) s' o' U' sU' oU' A') := by
  refine Ct.ofI (by decide) (Nat.le_of_ble_eq_true rfl) rfl rfl (fun _ _ _ => rfl) ?_
  intro c X ret
  have hB := hF.bd (by omega)
  obtain ⟨w0, w1, w2, w3, w4⟩ := hF.r
  have h17 := hF.2.2.2.2.2.1
  have h172 := hF.2.2.2.2.2.2.1
  have h20 := hF.2.2.2.2.2.2.2.1
  refine Tlv (lv' := [(0, .ref (q 0)), (1, .int (enc (x)))]) rfl ?_
  refine tw_aload_n X dX4_cutKnots_0 0 rfl rfl ?_
  refine tw_iload_n X dX4_cutKnots_1 1 rfl rfl ?_
  refine tw_callV X (As := [.int (enc (x))]) (st := []) vw_X4_90 (m_X4_requireRoad (q := q) N sN oN U sU oU A (x) hx hB) ([]) ([]) rfl rfl (q0 := 0) rfl rfl rfl ⟨rfl, rfl, Nat.le_of_ble_eq_true rfl, Nat.le_of_ble_eq_true rfl⟩ ⟨Nat.le_of_ble_eq_true rfl, Nat.le_of_ble_eq_true rfl⟩ (Nat.le_of_ble_eq_true rfl) dX4_cutKnots_2 (fun v w1 hp => ?_)
  obtain ⟨rfl, rfl⟩ := hp
  refine Teq (ws' := wD cy q N sN oN U sU oU A) (lv' := [(0, .ref (q 0)), (1, .int (enc (x)))]) (st' := []) rfl rfl rfl ?_
  refine tw_aload_n X dX4_cutKnots_5 0 rfl rfl ?_
  refine gf_X4_10 X (v := .ref (q 1)) 0 rfl rfl dX4_cutKnots_6 ?_
  refine gf_X4_54 X (v := .ref (q 2)) 1 rfl rfl dX4_cutKnots_9 ?_
  refine gf_X4_95 X (v := .ref (q 9)) 2 rfl rfl dX4_cutKnots_12 ?_
  refine tw_iload_n X dX4_cutKnots_15 1 rfl rfl ?_
  refine tw_iald X (N := 20) (f := (N 6)) 9 rfl (by decide) (by omega) dX4_cutKnots_16 ?_
  refine Tst (st' := [.int (enc (N 6 x))]) rfl ?_
  have b1 := hB 6 x
  refine tw_if_le (tgt := 30) X (In_of (by omega) (by omega)) dX4_cutKnots_17 (by decide) (fun c17 => ?_) (fun c17 => ?_)
  · skip
    refine tw_aload_n X dX4_cutKnots_30 0 rfl rfl ?_
    refine gf_X4_10 X (v := .ref (q 1)) 0 rfl rfl dX4_cutKnots_31 ?_
    refine gf_X4_69 X (v := .ref (q 10)) 1 rfl rfl dX4_cutKnots_34 ?_
    refine tw_iload_n X dX4_cutKnots_37 1 rfl rfl ?_
    refine tw_callV X (As := [.int (enc (x))]) (st := []) vw_X4_108 (m_X1_countOn (q := (fun i => q (10 + i))) N (x) hB (by omega) (by omega)) (([(q 0, .inr (4, [.ref (q 1), .ref (q 22), .ref (q 43)]))]) ++ ([(q 1, .inr (3, [.ref (q 2), .ref (q 10), .ref (q 20), .int (enc (N 19 0)), .int (enc (N 20 0)), .int (enc (oN))]))]) ++ (wR cy (fun i => q (2 + i)) N)) ((wY cy (fun i => q (20 + i)) sN) ++ ([(q 22, .inr (3, [.ref (q 23), .ref (q 31), .ref (q 41), .int (enc (U 19 0)), .int (enc (U 20 0)), .int (enc (oU))]))]) ++ (wR cy (fun i => q (23 + i)) U) ++ (wT cy (fun i => q (31 + i)) U) ++ (wY cy (fun i => q (41 + i)) sU) ++ (wY cy (fun i => q (43 + i)) A)) rfl rfl (q0 := 0) rfl rfl rfl ⟨rfl, rfl, Nat.le_of_ble_eq_true rfl, Nat.le_of_ble_eq_true rfl⟩ ⟨Nat.le_of_ble_eq_true rfl, Nat.le_of_ble_eq_true rfl⟩ (Nat.le_of_ble_eq_true rfl) dX4_cutKnots_38 (fun v w1 hp => ?_)
    obtain ⟨rfl, rfl⟩ := hp
    refine Teq (ws' := wD cy q N sN oN U sU oU A) (lv' := [(0, .ref (q 0)), (1, .int (enc (x)))]) (st' := [.int (enc (onR N x (N 17 0).toNat))]) rfl rfl rfl ?_
    have hon := onR_rng N x (N 17 0).toNat
    refine tw_if_le (tgt := 54) X (In_of (by omega) (by omega)) dX4_cutKnots_41 (by decide) (fun c41 => ?_) (fun c41 => ?_)
    · skip
      refine tw_aload_n X dX4_cutKnots_54 0 rfl rfl ?_
      refine gf_X4_10 X (v := .ref (q 1)) 0 rfl rfl dX4_cutKnots_55 ?_
      refine tw_iload_n X dX4_cutKnots_58 1 rfl rfl ?_
      refine tw_callV X (As := [.int (enc (x))]) (st := []) vw_X4_114 (m_X3_untie (q := (fun i => q (1 + i))) N sN oN (x) (by omega)) (([(q 0, .inr (4, [.ref (q 1), .ref (q 22), .ref (q 43)]))])) (([(q 22, .inr (3, [.ref (q 23), .ref (q 31), .ref (q 41), .int (enc (U 19 0)), .int (enc (U 20 0)), .int (enc (oU))]))]) ++ (wR cy (fun i => q (23 + i)) U) ++ (wT cy (fun i => q (31 + i)) U) ++ (wY cy (fun i => q (41 + i)) sU) ++ (wY cy (fun i => q (43 + i)) A)) rfl rfl (q0 := 0) rfl rfl rfl ⟨rfl, rfl, Nat.le_of_ble_eq_true rfl, Nat.le_of_ble_eq_true rfl⟩ ⟨Nat.le_of_ble_eq_true rfl, Nat.le_of_ble_eq_true rfl⟩ (Nat.le_of_ble_eq_true rfl) dX4_cutKnots_59 (fun v w1 hp => ?_)
      obtain ⟨rfl, rfl⟩ := hp
      refine Teq (ws' := wD cy q (up N 5 (x) 0) sN 1 U sU oU A) (lv' := [(0, .ref (q 0)), (1, .int (enc (x)))]) (st' := [.int (enc (N 5 x))]) rfl rfl rfl ?_
      have b2 := hB 5 x
      exact ret _ _ _ _ dX4_cutKnots_62 ⟨rfl, _, _, _, _, _, _, WVo.old, rfl⟩
    · skip
      exact (show False by omega).elim
  · skip
    exact (show False by omega).elim
set_option maxRecDepth 100000 in
set_option maxHeartbeats 4000000 in
theorem m_X4_pass {G : va_G} {cy : ClassId} {q : Nat → Nat} (N : MT) (sN : Int → Int) (oN : Int) (U : MT) (sU : Int → Int) (oU : Int) (A : Int → Int) (x : Int) (hx : 1 ≤ x ∧ x ≤ 50) (B0 : Int) (hF : WF N B0) (hB2 : B0 ≤ 800000) (hV : WVo N sN oN) : Ct G cy yX4_pass cX4_pass 4 (some .int) ({ frames := 4, cells := 0, slots := 0, locals := 93 } : Room) 0 0 [.ref (q 0), .int (enc (x))] (wD cy q N sN oN U sU oU A) (fun v w1 => v = some (.int (enc (hoursM N x.toNat 18 0 - N 18 0))) ∧ ∃ s' o' U' sU' oU' A', WVo (hoursM N x.toNat) s' o' ∧ w1 = wD cy q (hoursM N x.toNat) s' o' U' sU' oU' A') := by
  refine Ct.ofI (by decide) (Nat.le_of_ble_eq_true rfl) rfl rfl (fun _ _ _ => rfl) ?_
  intro c X ret
  have hB := hF.bd (by omega)
  obtain ⟨w0, w1, w2, w3, w4⟩ := hF.r
  have h17 := hF.2.2.2.2.2.1
  have h172 := hF.2.2.2.2.2.2.1
  have h20 := hF.2.2.2.2.2.2.2.1
  have b18 := hB 18 0
  refine Tlv (lv' := [(0, .ref (q 0)), (1, .int (enc (x)))]) rfl ?_
  refine tw_aload_n X dX4_pass_0 0 rfl rfl ?_
  refine tw_iload_n X dX4_pass_1 1 rfl rfl ?_
  refine tw_callV X (As := [.int (enc (x))]) (st := []) vw_X4_117 (m_X4_requirePassing (q := q) N sN oN U sU oU A (x) hx) ([]) ([]) rfl rfl (q0 := 0) rfl rfl rfl ⟨rfl, rfl, Nat.le_of_ble_eq_true rfl, Nat.le_of_ble_eq_true rfl⟩ ⟨Nat.le_of_ble_eq_true rfl, Nat.le_of_ble_eq_true rfl⟩ (Nat.le_of_ble_eq_true rfl) dX4_pass_2 (fun v w1 hp => ?_)
  obtain ⟨rfl, rfl⟩ := hp
  refine Teq (ws' := wD cy q N sN oN U sU oU A) (lv' := [(0, .ref (q 0)), (1, .int (enc (x)))]) (st' := []) rfl rfl rfl ?_
  refine tw_aload_n X dX4_pass_5 0 rfl rfl ?_
  refine gf_X4_10 X (v := .ref (q 1)) 0 rfl rfl dX4_pass_6 ?_
  refine gf_X4_69 X (v := .ref (q 10)) 1 rfl rfl dX4_pass_9 ?_
  refine gf_X4_120 X (v := .int (enc (N 18 0))) 10 rfl rfl dX4_pass_12 ?_
  have b1 := hB 18 0
  refine tw_istore_n (lv' := [(2, .int (enc (N 18 0))), (0, .ref (q 0)), (1, .int (enc (x)))]) X dX4_pass_15 rfl (by decide) rfl ?_
  refine tw_iconst X dX4_pass_16 ?_
  refine tw_istore_n (lv' := [(3, .int (enc (0))), (2, .int (enc (N 18 0))), (0, .ref (q 0)), (1, .int (enc (x)))]) X dX4_pass_17 rfl (by decide) rfl ?_
  have L18 : ∀ (fu i : Nat) (s2 : Int → Int) (o2 : Int), (i : Int) ≤ x → x + 1 ≤ (i : Int) + fu → WVo (hoursM N i) s2 o2 → T G c ({ frames := 4, cells := 0, slots := 0, locals := 93 } : Room) 4 0 0 (wD cy q (hoursM N i) s2 o2 U sU oU A) 18 [(0, .ref (q 0)), (1, .int (enc (x))), (2, .int (enc (N 18 0))), (3, .int (enc ((i : Int))))] [] := by
    intro fu
    induction fu with
    | zero =>
      intro i s2 o2 hi0 hi1
      exact absurd hi1 (by omega)
    | succ fu ih18 =>
      intro i s2 o2 hi0_18 hi1_18 hVi
      have hWi := hF.hours i
      refine tw_iload_n X dX4_pass_18 3 rfl rfl ?_
      refine tw_iload_n X dX4_pass_19 1 rfl rfl ?_
      refine tw_icmp_ge (tgt := 36) X (In_of (by omega) (by omega)) (In_of (by omega) (by omega)) dX4_pass_20 (by decide) (fun c20 => ?_) (fun c20 => ?_)
      · skip
        refine tw_aload_n X dX4_pass_36 0 rfl rfl ?_
        refine gf_X4_10 X (v := .ref (q 1)) 0 rfl rfl dX4_pass_37 ?_
        refine gf_X4_69 X (v := .ref (q 10)) 1 rfl rfl dX4_pass_40 ?_
        refine gf_X4_120 X (v := .int (enc ((hoursM N i) 18 0))) 10 rfl rfl dX4_pass_43 ?_
        refine tw_iload_n X dX4_pass_46 2 rfl rfl ?_
        refine tw_isub (z := ((hoursM N i) 18 0) - (N 18 0)) X dX4_pass_47 rfl ?_
        exact ret _ _ _ _ dX4_pass_48 ⟨by rw [show x.toNat = i by omega], _, _, _, _, _, _, by rw [show x.toNat = i by omega]; exact hVi, by rw [show x.toNat = i by omega]⟩
      · skip
        refine tw_aload_n X dX4_pass_23 0 rfl rfl ?_
        refine gf_X4_10 X (v := .ref (q 1)) 0 rfl rfl dX4_pass_24 ?_
        refine tw_callV X (As := []) (st := []) vw_X4_123 (m_X3_letHourGoBy (q := (fun i => q (1 + i))) (hoursM N i) s2 o2 (B0 + 26 * i) hWi (by omega) hVi) (([(q 0, .inr (4, [.ref (q 1), .ref (q 22), .ref (q 43)]))])) (([(q 22, .inr (3, [.ref (q 23), .ref (q 31), .ref (q 41), .int (enc (U 19 0)), .int (enc (U 20 0)), .int (enc (oU))]))]) ++ (wR cy (fun i => q (23 + i)) U) ++ (wT cy (fun i => q (31 + i)) U) ++ (wY cy (fun i => q (41 + i)) sU) ++ (wY cy (fun i => q (43 + i)) A)) rfl rfl (q0 := 0) rfl rfl rfl ⟨rfl, rfl, Nat.le_of_ble_eq_true rfl, Nat.le_of_ble_eq_true rfl⟩ ⟨Nat.le_of_ble_eq_true rfl, Nat.le_of_ble_eq_true rfl⟩ (Nat.le_of_ble_eq_true rfl) dX4_pass_27 (fun v w1 hp => ?_)
        obtain ⟨rfl, sh, oh, hVh, rfl⟩ := hp
        refine Teq (ws' := wD cy q (hourM (hoursM N i)) sh oh U sU oU A) (lv' := [(0, .ref (q 0)), (1, .int (enc (x))), (2, .int (enc (N 18 0))), (3, .int (enc ((i : Int))))]) (st' := []) rfl rfl rfl ?_
        refine tw_iinc (q := 3) (x := (i : Int)) (y := (i : Int) + 1) (lv' := [(3, .int (enc ((i : Int) + 1))), (0, .ref (q 0)), (1, .int (enc (x))), (2, .int (enc (N 18 0)))]) X dX4_pass_30 rfl rfl (by decide) rfl ?_
        refine tw_goto (tgt := 18) X dX4_pass_33 (by decide) ?_
        refine Tsub (lv' := [(0, .ref (q 0)), (1, .int (enc (x))), (2, .int (enc (N 18 0))), (3, .int (enc ((i : Int) + 1)))]) [1, 2, 3, 0] rfl ?_
        refine Teq (ws' := wD cy q (hoursM N (i + 1)) (sh) (oh) U sU oU A) (lv' := [(0, .ref (q 0)), (1, .int (enc (x))), (2, .int (enc (N 18 0))), (3, .int (enc (((i + 1 : Nat) : Int))))]) (st' := []) (rfl) (lvk (lvk (lvk (lvc (i_succ i) (rfl))))) rfl (ih18 (i + 1) (sh) (oh) (by omega) (by omega) (hVh))
  refine Tsub (lv' := [(0, .ref (q 0)), (1, .int (enc (x))), (2, .int (enc (N 18 0))), (3, .int (enc (0)))]) [2, 3, 1, 0] rfl ?_
  refine Teq (ws' := wD cy q (hoursM N 0) (sN) (oN) U sU oU A) (lv' := [(0, .ref (q 0)), (1, .int (enc (x))), (2, .int (enc (N 18 0))), (3, .int (enc (((0 : Nat) : Int))))]) (st' := []) (rfl) (rfl) rfl (L18 (x + 1).toNat 0 (sN) (oN) (by omega) (by omega) (hV))
