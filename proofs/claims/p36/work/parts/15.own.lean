/-! THE CLASS: its own methods that throw nothing -/
theorem cntC_rng (M : MT) : ∀ n : Nat, 0 ≤ cntC M n ∧ cntC M n ≤ n
  | 0 => ⟨Int.le_refl _, Int.le_refl _⟩
  | n + 1 => by
    have := cntC_rng M n
    rw [cntC_s]
    split <;> omega
theorem mostW_rng (M : MT) : ∀ n : Nat, -1 ≤ (mostW M n).1 ∧ (mostW M n).1 < n
  | 0 => ⟨Int.le_refl _, by show (-1 : Int) < ((0 : Nat) : Int); decide⟩
  | n + 1 => by
    have ih := mostW_rng M n
    by_cases h : M 6 n = 0 ∧ (mostW M n).2 < M 4 n
    · rw [mostW_y h.1 h.2]
      exact ⟨by show (-1 : Int) ≤ (n : Int); omega, by show (n : Int) < ((n + 1 : Nat) : Int); omega⟩
    · rw [mostW_n (by omega)]; omega
set_option maxRecDepth 100000 in
set_option maxHeartbeats 4000000 in
theorem m_X4_hour {G : va_G} {cy : ClassId} {q : Nat → Nat} (N : MT) (sN : Int → Int) (oN : Int) (U : MT) (sU : Int → Int) (oU : Int) (A : Int → Int) : Ct G cy yX4_hour cX4_hour 1 (some .int) ({ frames := 0, cells := 0, slots := 0, locals := 0 } : Room) 0 0 [.ref (q 0)] (wD cy q N sN oN U sU oU A) (fun v w1 => v = some (.int (enc (N 20 0))) ∧ w1 = wD cy q N sN oN U sU oU A) := by
  refine Ct.ofI (by decide) (Nat.le_of_ble_eq_true rfl) rfl rfl (fun _ _ _ => rfl) ?_
  intro c X ret
  refine Tlv (lv' := [(0, .ref (q 0))]) rfl ?_
  refine tw_aload_n X dX4_hour_0 0 rfl rfl ?_
  refine gf_X4_10 X (v := .ref (q 1)) 0 rfl rfl dX4_hour_1 ?_
  refine gf_X4_84 X (v := .int (enc (N 20 0))) 1 rfl rfl dX4_hour_4 ?_
  exact ret _ _ _ _ dX4_hour_7 ⟨rfl, rfl⟩
set_option maxRecDepth 100000 in
set_option maxHeartbeats 4000000 in
theorem m_X4_crossings {G : va_G} {cy : ClassId} {q : Nat → Nat} (N : MT) (sN : Int → Int) (oN : Int) (U : MT) (sU : Int → Int) (oU : Int) (A : Int → Int) : Ct G cy yX4_crossings cX4_crossings 1 (some .int) ({ frames := 0, cells := 0, slots := 0, locals := 0 } : Room) 0 0 [.ref (q 0)] (wD cy q N sN oN U sU oU A) (fun v w1 => v = some (.int (enc (N 19 0))) ∧ w1 = wD cy q N sN oN U sU oU A) := by
  refine Ct.ofI (by decide) (Nat.le_of_ble_eq_true rfl) rfl rfl (fun _ _ _ => rfl) ?_
  intro c X ret
  refine Tlv (lv' := [(0, .ref (q 0))]) rfl ?_
  refine tw_aload_n X dX4_crossings_0 0 rfl rfl ?_
  refine gf_X4_10 X (v := .ref (q 1)) 0 rfl rfl dX4_crossings_1 ?_
  refine gf_X4_26 X (v := .int (enc (N 19 0))) 1 rfl rfl dX4_crossings_4 ?_
  exact ret _ _ _ _ dX4_crossings_7 ⟨rfl, rfl⟩
set_option maxRecDepth 100000 in
set_option maxHeartbeats 4000000 in
theorem m_X4_roads {G : va_G} {cy : ClassId} {q : Nat → Nat} (N : MT) (sN : Int → Int) (oN : Int) (U : MT) (sU : Int → Int) (oU : Int) (A : Int → Int) : Ct G cy yX4_roads cX4_roads 1 (some .int) ({ frames := 0, cells := 0, slots := 0, locals := 0 } : Room) 0 0 [.ref (q 0)] (wD cy q N sN oN U sU oU A) (fun v w1 => v = some (.int (enc (N 16 0))) ∧ w1 = wD cy q N sN oN U sU oU A) := by
  refine Ct.ofI (by decide) (Nat.le_of_ble_eq_true rfl) rfl rfl (fun _ _ _ => rfl) ?_
  intro c X ret
  refine Tlv (lv' := [(0, .ref (q 0))]) rfl ?_
  refine tw_aload_n X dX4_roads_0 0 rfl rfl ?_
  refine gf_X4_10 X (v := .ref (q 1)) 0 rfl rfl dX4_roads_1 ?_
  refine gf_X4_54 X (v := .ref (q 2)) 1 rfl rfl dX4_roads_4 ?_
  refine gf_X4_58 X (v := .int (enc (N 16 0))) 2 rfl rfl dX4_roads_7 ?_
  exact ret _ _ _ _ dX4_roads_10 ⟨rfl, rfl⟩
set_option maxRecDepth 100000 in
set_option maxHeartbeats 4000000 in
theorem m_X4_tourists {G : va_G} {cy : ClassId} {q : Nat → Nat} (N : MT) (sN : Int → Int) (oN : Int) (U : MT) (sU : Int → Int) (oU : Int) (A : Int → Int) : Ct G cy yX4_tourists cX4_tourists 1 (some .int) ({ frames := 0, cells := 0, slots := 0, locals := 0 } : Room) 0 0 [.ref (q 0)] (wD cy q N sN oN U sU oU A) (fun v w1 => v = some (.int (enc (N 17 0))) ∧ w1 = wD cy q N sN oN U sU oU A) := by
  refine Ct.ofI (by decide) (Nat.le_of_ble_eq_true rfl) rfl rfl (fun _ _ _ => rfl) ?_
  intro c X ret
  refine Tlv (lv' := [(0, .ref (q 0))]) rfl ?_
  refine tw_aload_n X dX4_tourists_0 0 rfl rfl ?_
  refine gf_X4_10 X (v := .ref (q 1)) 0 rfl rfl dX4_tourists_1 ?_
  refine gf_X4_69 X (v := .ref (q 10)) 1 rfl rfl dX4_tourists_4 ?_
  refine gf_X4_73 X (v := .int (enc (N 17 0))) 10 rfl rfl dX4_tourists_7 ?_
  exact ret _ _ _ _ dX4_tourists_10 ⟨rfl, rfl⟩
set_option maxRecDepth 100000 in
set_option maxHeartbeats 4000000 in
theorem m_X4_arrived {G : va_G} {cy : ClassId} {q : Nat → Nat} (N : MT) (sN : Int → Int) (oN : Int) (U : MT) (sU : Int → Int) (oU : Int) (A : Int → Int) : Ct G cy yX4_arrived cX4_arrived 1 (some .int) ({ frames := 0, cells := 0, slots := 0, locals := 0 } : Room) 0 0 [.ref (q 0)] (wD cy q N sN oN U sU oU A) (fun v w1 => v = some (.int (enc (N 18 0))) ∧ w1 = wD cy q N sN oN U sU oU A) := by
  refine Ct.ofI (by decide) (Nat.le_of_ble_eq_true rfl) rfl rfl (fun _ _ _ => rfl) ?_
  intro c X ret
  refine Tlv (lv' := [(0, .ref (q 0))]) rfl ?_
  refine tw_aload_n X dX4_arrived_0 0 rfl rfl ?_
  refine gf_X4_10 X (v := .ref (q 1)) 0 rfl rfl dX4_arrived_1 ?_
  refine gf_X4_69 X (v := .ref (q 10)) 1 rfl rfl dX4_arrived_4 ?_
  refine gf_X4_120 X (v := .int (enc (N 18 0))) 10 rfl rfl dX4_arrived_7 ?_
  exact ret _ _ _ _ dX4_arrived_10 ⟨rfl, rfl⟩
set_option maxRecDepth 100000 in
set_option maxHeartbeats 4000000 in
theorem m_X4_closedRoads {G : va_G} {cy : ClassId} {q : Nat → Nat} (N : MT) (sN : Int → Int) (oN : Int) (U : MT) (sU : Int → Int) (oU : Int) (A : Int → Int) (hB : Bd N) (h : 0 ≤ N 16 0 ∧ N 16 0 ≤ 20) : Ct G cy yX4_closedRoads cX4_closedRoads 1 (some .int) ({ frames := 1, cells := 0, slots := 0, locals := 22 } : Room) 0 0 [.ref (q 0)] (wD cy q N sN oN U sU oU A) (fun v w1 => v = some (.int (enc (cntC N (N 16 0).toNat))) ∧ w1 = wD cy q N sN oN U sU oU A) := by
  refine Ct.ofI (by decide) (Nat.le_of_ble_eq_true rfl) rfl rfl (fun _ _ _ => rfl) ?_
  intro c X ret
  refine Tlv (lv' := [(0, .ref (q 0))]) rfl ?_
  refine tw_aload_n X dX4_closedRoads_0 0 rfl rfl ?_
  refine gf_X4_10 X (v := .ref (q 1)) 0 rfl rfl dX4_closedRoads_1 ?_
  refine gf_X4_54 X (v := .ref (q 2)) 1 rfl rfl dX4_closedRoads_4 ?_
  refine tw_callV X (As := []) (st := []) vw_X4_126 (m_X0_countClosed (q := (fun i => q (2 + i))) N hB (by omega)) (([(q 0, .inr (4, [.ref (q 1), .ref (q 22), .ref (q 43)]))]) ++ ([(q 1, .inr (3, [.ref (q 2), .ref (q 10), .ref (q 20), .int (enc (N 19 0)), .int (enc (N 20 0)), .int (enc (oN))]))])) ((wT cy (fun i => q (10 + i)) N) ++ (wY cy (fun i => q (20 + i)) sN) ++ ([(q 22, .inr (3, [.ref (q 23), .ref (q 31), .ref (q 41), .int (enc (U 19 0)), .int (enc (U 20 0)), .int (enc (oU))]))]) ++ (wR cy (fun i => q (23 + i)) U) ++ (wT cy (fun i => q (31 + i)) U) ++ (wY cy (fun i => q (41 + i)) sU) ++ (wY cy (fun i => q (43 + i)) A)) rfl rfl (q0 := 0) rfl rfl rfl ⟨rfl, rfl, Nat.le_of_ble_eq_true rfl, Nat.le_of_ble_eq_true rfl⟩ ⟨Nat.le_of_ble_eq_true rfl, Nat.le_of_ble_eq_true rfl⟩ (Nat.le_of_ble_eq_true rfl) dX4_closedRoads_7 (fun v w1 hp => ?_)
  obtain ⟨rfl, rfl⟩ := hp
  refine Teq (ws' := wD cy q N sN oN U sU oU A) (lv' := [(0, .ref (q 0))]) (st' := [.int (enc (cntC N (N 16 0).toNat))]) rfl rfl rfl ?_
  exact ret _ _ _ _ dX4_closedRoads_10 ⟨rfl, rfl⟩
set_option maxRecDepth 100000 in
set_option maxHeartbeats 4000000 in
theorem m_X4_allFrayed {G : va_G} {cy : ClassId} {q : Nat → Nat} (N : MT) (sN : Int → Int) (oN : Int) (U : MT) (sU : Int → Int) (oU : Int) (A : Int → Int) (hB : Bd N) (h : 0 ≤ N 17 0 ∧ N 17 0 ≤ 12) : Ct G cy yX4_allFrayed cX4_allFrayed 1 (some .int) ({ frames := 2, cells := 0, slots := 0, locals := 43 } : Room) 0 0 [.ref (q 0)] (wD cy q N sN oN U sU oU A) (fun v w1 => v = some (.int (enc (frI N (N 17 0).toNat))) ∧ w1 = wD cy q N sN oN U sU oU A) := by
  refine Ct.ofI (by decide) (Nat.le_of_ble_eq_true rfl) rfl rfl (fun _ _ _ => rfl) ?_
  intro c X ret
  refine Tlv (lv' := [(0, .ref (q 0))]) rfl ?_
  refine tw_aload_n X dX4_allFrayed_0 0 rfl rfl ?_
  refine gf_X4_10 X (v := .ref (q 1)) 0 rfl rfl dX4_allFrayed_1 ?_
  refine gf_X4_69 X (v := .ref (q 10)) 1 rfl rfl dX4_allFrayed_4 ?_
  refine tw_callV X (As := []) (st := []) vw_X4_129 (m_X1_frayOfThoseIn (q := (fun i => q (10 + i))) N hB (by omega)) (([(q 0, .inr (4, [.ref (q 1), .ref (q 22), .ref (q 43)]))]) ++ ([(q 1, .inr (3, [.ref (q 2), .ref (q 10), .ref (q 20), .int (enc (N 19 0)), .int (enc (N 20 0)), .int (enc (oN))]))]) ++ (wR cy (fun i => q (2 + i)) N)) ((wY cy (fun i => q (20 + i)) sN) ++ ([(q 22, .inr (3, [.ref (q 23), .ref (q 31), .ref (q 41), .int (enc (U 19 0)), .int (enc (U 20 0)), .int (enc (oU))]))]) ++ (wR cy (fun i => q (23 + i)) U) ++ (wT cy (fun i => q (31 + i)) U) ++ (wY cy (fun i => q (41 + i)) sU) ++ (wY cy (fun i => q (43 + i)) A)) rfl rfl (q0 := 0) rfl rfl rfl ⟨rfl, rfl, Nat.le_of_ble_eq_true rfl, Nat.le_of_ble_eq_true rfl⟩ ⟨Nat.le_of_ble_eq_true rfl, Nat.le_of_ble_eq_true rfl⟩ (Nat.le_of_ble_eq_true rfl) dX4_allFrayed_7 (fun v w1 hp => ?_)
  obtain ⟨rfl, rfl⟩ := hp
  refine Teq (ws' := wD cy q N sN oN U sU oU A) (lv' := [(0, .ref (q 0))]) (st' := [.int (enc (frI N (N 17 0).toNat))]) rfl rfl rfl ?_
  exact ret _ _ _ _ dX4_allFrayed_10 ⟨rfl, rfl⟩
set_option maxRecDepth 100000 in
set_option maxHeartbeats 4000000 in
theorem m_X4_mostWorn {G : va_G} {cy : ClassId} {q : Nat → Nat} (N : MT) (sN : Int → Int) (oN : Int) (U : MT) (sU : Int → Int) (oU : Int) (A : Int → Int) (hB : Bd N) (h : 0 ≤ N 16 0 ∧ N 16 0 ≤ 20) : Ct G cy yX4_mostWorn cX4_mostWorn 1 (some .int) ({ frames := 1, cells := 0, slots := 0, locals := 23 } : Room) 0 0 [.ref (q 0)] (wD cy q N sN oN U sU oU A) (fun v w1 => v = some (.int (enc (mostW N (N 16 0).toNat).1)) ∧ w1 = wD cy q N sN oN U sU oU A) := by
  refine Ct.ofI (by decide) (Nat.le_of_ble_eq_true rfl) rfl rfl (fun _ _ _ => rfl) ?_
  intro c X ret
  refine Tlv (lv' := [(0, .ref (q 0))]) rfl ?_
  refine tw_aload_n X dX4_mostWorn_0 0 rfl rfl ?_
  refine gf_X4_10 X (v := .ref (q 1)) 0 rfl rfl dX4_mostWorn_1 ?_
  refine gf_X4_54 X (v := .ref (q 2)) 1 rfl rfl dX4_mostWorn_4 ?_
  refine tw_callV X (As := []) (st := []) vw_X4_138 (m_X0_openWithMostWear (q := (fun i => q (2 + i))) N hB (by omega)) (([(q 0, .inr (4, [.ref (q 1), .ref (q 22), .ref (q 43)]))]) ++ ([(q 1, .inr (3, [.ref (q 2), .ref (q 10), .ref (q 20), .int (enc (N 19 0)), .int (enc (N 20 0)), .int (enc (oN))]))])) ((wT cy (fun i => q (10 + i)) N) ++ (wY cy (fun i => q (20 + i)) sN) ++ ([(q 22, .inr (3, [.ref (q 23), .ref (q 31), .ref (q 41), .int (enc (U 19 0)), .int (enc (U 20 0)), .int (enc (oU))]))]) ++ (wR cy (fun i => q (23 + i)) U) ++ (wT cy (fun i => q (31 + i)) U) ++ (wY cy (fun i => q (41 + i)) sU) ++ (wY cy (fun i => q (43 + i)) A)) rfl rfl (q0 := 0) rfl rfl rfl ⟨rfl, rfl, Nat.le_of_ble_eq_true rfl, Nat.le_of_ble_eq_true rfl⟩ ⟨Nat.le_of_ble_eq_true rfl, Nat.le_of_ble_eq_true rfl⟩ (Nat.le_of_ble_eq_true rfl) dX4_mostWorn_7 (fun v w1 hp => ?_)
  obtain ⟨rfl, rfl⟩ := hp
  refine Teq (ws' := wD cy q N sN oN U sU oU A) (lv' := [(0, .ref (q 0))]) (st' := [.int (enc ((mostW N (N 16 0).toNat).1))]) rfl rfl rfl ?_
  exact ret _ _ _ _ dX4_mostWorn_10 ⟨rfl, rfl⟩
def sumL (N : MT) : Nat → Int
  | 0 => 0
  | r + 1 => sumL N r + len N r
theorem sumL_s (N : MT) (r : Nat) : sumL N (r + 1) = sumL N r + len N r := rfl
theorem sumL_rng {N : MT} (hW : WFR N) : ∀ n : Nat, (n : Int) ≤ N 16 0 → 0 ≤ sumL N n ∧ sumL N n ≤ 12 * (n : Int)
  | 0, _ => ⟨Int.le_refl _, Int.le_refl _⟩
  | n + 1, h => by
    have := sumL_rng hW n (by omega)
    have := hW.ln (r := (n : Int)) (by omega) (by omega)
    rw [sumL_s]
    omega
theorem nan_all : ∀ b : Fin 20, ∀ a : Fin 241, (FP.ddiv (FP.i2d (enc (a.val : Int))) (FP.i2d (enc ((b.val + 1 : Nat) : Int)))) &&& 0x7fffffffffffffff ≤ 0x7ff0000000000000 := by decide +kernel
theorem nan_ok {x y : Int} (hx : 0 ≤ x ∧ x ≤ 240) (hy : 1 ≤ y ∧ y ≤ 20) : vf_n64 (FP.ddiv (FP.i2d (enc x)) (FP.i2d (enc y))) := by
  have h := nan_all ⟨(y - 1).toNat, by omega⟩ ⟨x.toNat, by omega⟩
  have e1 : ((x.toNat : Nat) : Int) = x := by omega
  have e2 : (((y - 1).toNat + 1 : Nat) : Int) = y := by omega
  unfold vf_n64
  rw [← e1, ← e2]
  exact h
noncomputable def meanM (N : MT) : UInt64 := if N 16 0 = 0 then FP.dconst0 else FP.ddiv (FP.i2d (enc (sumL N (N 16 0).toNat))) (FP.i2d (enc (N 16 0)))
set_option maxRecDepth 100000 in
set_option maxHeartbeats 4000000 in
theorem m_X4_meanLength {G : va_G} {cy : ClassId} {q : Nat → Nat} (N : MT) (sN : Int → Int) (oN : Int) (U : MT) (sU : Int → Int) (oU : Int) (A : Int → Int) (hW : WFR N) (hB : Bd N) : Ct G cy yX4_meanLength cX4_meanLength 4 (some .double) ({ frames := 1, cells := 0, slots := 0, locals := 21 } : Room) 0 0 [.ref (q 0)] (wD cy q N sN oN U sU oU A) (fun v w1 => v = some (.double (meanM N)) ∧ w1 = wD cy q N sN oN U sU oU A) := by
  refine Ct.ofD (by decide) (Nat.le_of_ble_eq_true rfl) rfl rfl ?_
  intro c X ret
  obtain ⟨w0, w1, w2, w3, w4⟩ := id hW
  refine Tlv (lv' := [(0, .ref (q 0))]) rfl ?_
  refine tw_aload_n X dX4_meanLength_0 0 rfl rfl ?_
  refine gf_X4_10 X (v := .ref (q 1)) 0 rfl rfl dX4_meanLength_1 ?_
  refine gf_X4_54 X (v := .ref (q 2)) 1 rfl rfl dX4_meanLength_4 ?_
  refine gf_X4_58 X (v := .int (enc (N 16 0))) 2 rfl rfl dX4_meanLength_7 ?_
  have b1 := hB 16 0
  refine tw_istore_n (lv' := [(1, .int (enc (N 16 0))), (0, .ref (q 0))]) X dX4_meanLength_10 rfl (by decide) rfl ?_
  refine tw_iload_n X dX4_meanLength_11 0 rfl rfl ?_
  refine tw_if_ne (tgt := 17) X (In_of (by omega) (by omega)) dX4_meanLength_12 (by decide) (fun c12 => ?_) (fun c12 => ?_)
  · skip
    refine tw_iconst X dX4_meanLength_17 ?_
    refine tw_istore_n (lv' := [(2, .int (enc (0))), (1, .int (enc (N 16 0))), (0, .ref (q 0))]) X dX4_meanLength_18 rfl (by decide) rfl ?_
    refine tw_iconst X dX4_meanLength_19 ?_
    refine tw_istore_n (lv' := [(3, .int (enc (0))), (2, .int (enc (0))), (1, .int (enc (N 16 0))), (0, .ref (q 0))]) X dX4_meanLength_20 rfl (by decide) rfl ?_
    have L21 : ∀ (fu i : Nat), (i : Int) ≤ N 16 0 → N 16 0 + 1 ≤ (i : Int) + fu → T G c ({ frames := 1, cells := 0, slots := 0, locals := 21 } : Room) 4 0 0 (wD cy q N sN oN U sU oU A) 21 [(0, .ref (q 0)), (1, .int (enc (N 16 0))), (2, .int (enc (sumL N i))), (3, .int (enc ((i : Int))))] [] := by
      intro fu
      induction fu with
      | zero =>
        intro i  hi0 hi1
        exact absurd hi1 (by omega)
      | succ fu ih21 =>
        intro i  hi0_21 hi1_21 
        refine tw_iload_n X dX4_meanLength_21 3 rfl rfl ?_
        refine tw_iload_n X dX4_meanLength_22 1 rfl rfl ?_
        refine tw_icmp_ge (tgt := 46) X (In_of (by omega) (by omega)) (In_of (by omega) (by omega)) dX4_meanLength_23 (by decide) (fun c23 => ?_) (fun c23 => ?_)
        · skip
          have ei : (N 16 0).toNat = i := by omega
          have hs := sumL_rng hW i (by omega)
          refine tw_iload_n X dX4_meanLength_46 2 rfl rfl ?_
          refine tw_i2d X dX4_meanLength_47 ?_
          refine tw_iload_n X dX4_meanLength_48 1 rfl rfl ?_
          refine tw_i2d X dX4_meanLength_49 ?_
          refine tw_ddiv X (nan_ok (by omega) (by omega)) dX4_meanLength_50 ?_
          exact ret _ _ _ _ dX4_meanLength_51 ⟨by unfold meanM; rw [if_neg c12, ei], rfl⟩
        · skip
          refine tw_iload_n X dX4_meanLength_26 2 rfl rfl ?_
          refine tw_aload_n X dX4_meanLength_27 0 rfl rfl ?_
          refine gf_X4_10 X (v := .ref (q 1)) 0 rfl rfl dX4_meanLength_28 ?_
          refine gf_X4_54 X (v := .ref (q 2)) 1 rfl rfl dX4_meanLength_31 ?_
          refine tw_iload_n X dX4_meanLength_34 3 rfl rfl ?_
          refine tw_callV X (As := [.int (enc ((i : Int)))]) (st := [.int (enc (sumL N i))]) vw_X4_132 (m_X0_lengthNow (q := (fun i => q (2 + i))) N ((i : Int)) (by omega)) (([(q 0, .inr (4, [.ref (q 1), .ref (q 22), .ref (q 43)]))]) ++ ([(q 1, .inr (3, [.ref (q 2), .ref (q 10), .ref (q 20), .int (enc (N 19 0)), .int (enc (N 20 0)), .int (enc (oN))]))])) ((wT cy (fun i => q (10 + i)) N) ++ (wY cy (fun i => q (20 + i)) sN) ++ ([(q 22, .inr (3, [.ref (q 23), .ref (q 31), .ref (q 41), .int (enc (U 19 0)), .int (enc (U 20 0)), .int (enc (oU))]))]) ++ (wR cy (fun i => q (23 + i)) U) ++ (wT cy (fun i => q (31 + i)) U) ++ (wY cy (fun i => q (41 + i)) sU) ++ (wY cy (fun i => q (43 + i)) A)) rfl rfl (q0 := 0) rfl rfl rfl ⟨rfl, rfl, Nat.le_of_ble_eq_true rfl, Nat.le_of_ble_eq_true rfl⟩ ⟨Nat.le_of_ble_eq_true rfl, Nat.le_of_ble_eq_true rfl⟩ (Nat.le_of_ble_eq_true rfl) dX4_meanLength_35 (fun v w1 hp => ?_)
          obtain ⟨rfl, rfl⟩ := hp
          refine Teq (ws' := wD cy q N sN oN U sU oU A) (lv' := [(0, .ref (q 0)), (1, .int (enc (N 16 0))), (2, .int (enc (sumL N i))), (3, .int (enc ((i : Int))))]) (st' := [.int (enc (len N (i : Int))), .int (enc (sumL N i))]) rfl rfl rfl ?_
          refine tw_iadd (z := (sumL N i) + (len N (i : Int))) X dX4_meanLength_38 rfl ?_
          refine tw_istore_n (lv' := [(2, .int (enc ((sumL N i) + (len N (i : Int))))), (0, .ref (q 0)), (1, .int (enc (N 16 0))), (3, .int (enc ((i : Int))))]) X dX4_meanLength_39 rfl (by decide) rfl ?_
          refine tw_iinc (q := 3) (x := (i : Int)) (y := (i : Int) + 1) (lv' := [(3, .int (enc ((i : Int) + 1))), (2, .int (enc ((sumL N i) + (len N (i : Int))))), (0, .ref (q 0)), (1, .int (enc (N 16 0)))]) X dX4_meanLength_40 rfl rfl (by decide) rfl ?_
          refine tw_goto (tgt := 21) X dX4_meanLength_43 (by decide) ?_
          refine Tsub (lv' := [(0, .ref (q 0)), (1, .int (enc (N 16 0))), (2, .int (enc ((sumL N i) + (len N (i : Int))))), (3, .int (enc ((i : Int) + 1)))]) [2, 3, 1, 0] rfl ?_
          refine Teq (ws' := wD cy q N sN oN U sU oU A) (lv' := [(0, .ref (q 0)), (1, .int (enc (N 16 0))), (2, .int (enc (sumL N (i + 1)))), (3, .int (enc (((i + 1 : Nat) : Int))))]) (st' := []) (rfl) (lvk (lvk (lvc (by rw [sumL_s]) (lvc (i_succ i) (rfl))))) rfl (ih21 (i + 1) (by omega) (by omega))
    refine Tsub (lv' := [(0, .ref (q 0)), (1, .int (enc (N 16 0))), (2, .int (enc (0))), (3, .int (enc (0)))]) [3, 2, 1, 0] rfl ?_
    refine Teq (ws' := wD cy q N sN oN U sU oU A) (lv' := [(0, .ref (q 0)), (1, .int (enc (N 16 0))), (2, .int (enc (sumL N 0))), (3, .int (enc (((0 : Nat) : Int))))]) (st' := []) (rfl) (rfl) rfl (L21 (N 16 0 + 1).toNat 0 (by omega) (by omega))
  · skip
    refine tw_dconst0 X dX4_meanLength_15 ?_
    exact ret _ _ _ _ dX4_meanLength_16 ⟨by unfold meanM; rw [if_pos c12], rfl⟩
