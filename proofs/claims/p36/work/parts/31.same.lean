/-! THE SAME BY HAND -/
theorem mx0_rng (z : Int) : 0 ≤ mx0 z ∧ (mx0 z = z ∨ mx0 z = 0) := by
  unfold mx0
  split <;> omega
theorem frayAt_rng {M : MT} {t h : Int} (hB : Bd M) (hh : 0 ≤ h ∧ h ≤ 2000000) : 0 ≤ frayAt M t h ∧ frayAt M t h ≤ 6000000 := by
  have a := hB 13 t
  have b := hB 14 t
  have c := hB 15 t
  unfold frayAt
  have m := mx0_rng ((if 0 ≤ M 15 t then M 15 t else h - M 13 t) - M 14 t)
  split at m <;> split <;> omega
theorem frI_rng {M : MT} (hB : Bd M) : ∀ n : Nat, 0 ≤ frI M n ∧ frI M n ≤ 6000000 * (n : Int)
  | 0 => ⟨Int.le_refl _, Int.le_refl _⟩
  | n + 1 => by
    have := frI_rng hB n
    have m := mx0_rng (M 15 n - M 14 n)
    have b := hB 14 n
    have c := hB 15 n
    rw [frI_s]
    split <;> omega
theorem cmp_all : ∀ b : Fin 20, ∀ a : Fin 241, Op.cmpValue (FP.dcmp (FP.ddiv (FP.i2d (enc (a.val : Int))) (FP.i2d (enc ((b.val + 1 : Nat) : Int)))) (FP.ddiv (FP.i2d (enc (a.val : Int))) (FP.i2d (enc ((b.val + 1 : Nat) : Int))))) .l = 0 := by decide +kernel
theorem cmp_ok {x y : Int} (hx : 0 ≤ x ∧ x ≤ 240) (hy : 1 ≤ y ∧ y ≤ 20) : Op.cmpValue (FP.dcmp (FP.ddiv (FP.i2d (enc x)) (FP.i2d (enc y))) (FP.ddiv (FP.i2d (enc x)) (FP.i2d (enc y)))) .l = enc 0 := by
  have h := cmp_all ⟨(y - 1).toNat, by omega⟩ ⟨x.toNat, by omega⟩
  have e1 : ((x.toNat : Nat) : Int) = x := by omega
  have e2 : (((y - 1).toNat + 1 : Nat) : Int) = y := by omega
  rw [← e1, ← e2]
  exact h
theorem cmp_0 : Op.cmpValue (FP.dcmp FP.dconst0 FP.dconst0) .l = enc 0 := by decide +kernel
theorem mean_cmp {N : MT} (hW : WFR N) {z : UInt64} (hz : z = meanM N) : Op.cmpValue (FP.dcmp (meanM N) z) .l = enc 0 := by
  have w0 := hW.1
  have w1 := hW.2.1
  have hs := sumL_rng hW (N 16 0).toNat (by omega)
  rw [hz]
  unfold meanM
  by_cases q : N 16 0 = 0
  · rw [if_pos q]; exact cmp_0
  · rw [if_neg q]; exact cmp_ok (by omega) (by omega)
set_option maxRecDepth 100000 in
set_option maxHeartbeats 4000000 in
theorem m_X5_isSame {G : va_G} {cy : ClassId} {q qs rr tt : Nat → Nat} (N : MT) (sN : Int → Int) (oN : Int) (U : MT) (sU : Int → Int) (oU : Int) (A : Int → Int) (g : Int → Int) (B : Int) (hF : WF N B) (hB2 : B ≤ 600000) : Ct G cy yX5_isSame cX5_isSame 8 (some .boolean) ({ frames := 3, cells := 0, slots := 0, locals := 68 } : Room) 0 0 [.ref (qs 0), .ref (q 0)] (wD cy q N sN oN U sU oU A ++ wS G cy qs rr tt N g) (fun v w1 => v = some (.int (enc 1)) ∧ w1 = wD cy q N sN oN U sU oU A ++ wS G cy qs rr tt N g) := by
  refine Ct.ofI (by decide) (Nat.le_of_ble_eq_true rfl) rfl rfl (fun x w1 h => by obtain ⟨h1, -⟩ := h; cases h1; rfl) ?_
  intro c X ret
  have hB := hF.bd (by omega)
  obtain ⟨w0, w1, w2, w3, w4⟩ := hF.r
  have h17 := hF.2.2.2.2.2.1
  have h172 := hF.2.2.2.2.2.2.1
  have h20 := hF.2.2.2.2.2.2.2.1
  refine Tlv (lv' := [(0, .ref (qs 0)), (1, .ref (q 0))]) rfl ?_
  refine tw_aload_n X dX5_isSame_0 0 rfl rfl ?_
  refine gf_X5_9 X (v := .ref (qs 1)) 45 rfl rfl dX5_isSame_1 ?_
  refine sr_lenR X (g := g) (wD cy q N sN oN U sU oU A) rfl (by omega) dX5_isSame_4 ?_
  refine tw_istore_n (lv' := [(2, .int (enc (N 16 0))), (0, .ref (qs 0)), (1, .ref (q 0))]) X dX5_isSame_5 rfl (by decide) rfl ?_
  refine tw_aload_n X dX5_isSame_6 2 rfl rfl ?_
  refine tw_callV X (As := []) (st := []) vw_X5_67 (m_X4_hour (q := q) N sN oN U sU oU A) ([]) (wS G cy qs rr tt N g) rfl rfl (q0 := 0) rfl rfl rfl ⟨rfl, rfl, Nat.le_of_ble_eq_true rfl, Nat.le_of_ble_eq_true rfl⟩ ⟨Nat.le_of_ble_eq_true rfl, Nat.le_of_ble_eq_true rfl⟩ (Nat.le_of_ble_eq_true rfl) dX5_isSame_7 (fun v w1 hp => ?_)
  obtain ⟨rfl, rfl⟩ := hp
  refine Teq (ws' := wD cy q N sN oN U sU oU A ++ wS G cy qs rr tt N g) (lv' := [(2, .int (enc (N 16 0))), (0, .ref (qs 0)), (1, .ref (q 0))]) (st' := [.int (enc (N 20 0))]) rfl rfl rfl ?_
  have b1 := hB 20 0
  refine tw_aload_n X dX5_isSame_10 1 rfl rfl ?_
  refine gf_X5_42 X (v := .int (enc (N 20 0))) 45 rfl rfl dX5_isSame_11 ?_
  have b2 := hB 20 0
  refine tw_icmp_ne (tgt := 71) X (In_of (by omega) (by omega)) (In_of (by omega) (by omega)) dX5_isSame_14 (by decide) (fun c14 => ?_) (fun c14 => ?_)
  · skip
    exact absurd rfl c14
  · skip
    refine tw_aload_n X dX5_isSame_17 2 rfl rfl ?_
    refine tw_callV X (As := []) (st := []) vw_X5_71 (m_X4_crossings (q := q) N sN oN U sU oU A) ([]) (wS G cy qs rr tt N g) rfl rfl (q0 := 0) rfl rfl rfl ⟨rfl, rfl, Nat.le_of_ble_eq_true rfl, Nat.le_of_ble_eq_true rfl⟩ ⟨Nat.le_of_ble_eq_true rfl, Nat.le_of_ble_eq_true rfl⟩ (Nat.le_of_ble_eq_true rfl) dX5_isSame_18 (fun v w1 hp => ?_)
    obtain ⟨rfl, rfl⟩ := hp
    refine Teq (ws' := wD cy q N sN oN U sU oU A ++ wS G cy qs rr tt N g) (lv' := [(2, .int (enc (N 16 0))), (0, .ref (qs 0)), (1, .ref (q 0))]) (st' := [.int (enc (N 19 0))]) rfl rfl rfl ?_
    have b3 := hB 19 0
    refine tw_aload_n X dX5_isSame_21 1 rfl rfl ?_
    refine gf_X5_18 X (v := .int (enc (N 19 0))) 45 rfl rfl dX5_isSame_22 ?_
    have b4 := hB 19 0
    refine tw_icmp_ne (tgt := 71) X (In_of (by omega) (by omega)) (In_of (by omega) (by omega)) dX5_isSame_25 (by decide) (fun c25 => ?_) (fun c25 => ?_)
    · skip
      exact absurd rfl c25
    · skip
      refine tw_aload_n X dX5_isSame_28 2 rfl rfl ?_
      refine tw_callV X (As := []) (st := []) vw_X5_73 (m_X4_roads (q := q) N sN oN U sU oU A) ([]) (wS G cy qs rr tt N g) rfl rfl (q0 := 0) rfl rfl rfl ⟨rfl, rfl, Nat.le_of_ble_eq_true rfl, Nat.le_of_ble_eq_true rfl⟩ ⟨Nat.le_of_ble_eq_true rfl, Nat.le_of_ble_eq_true rfl⟩ (Nat.le_of_ble_eq_true rfl) dX5_isSame_29 (fun v w1 hp => ?_)
      obtain ⟨rfl, rfl⟩ := hp
      refine Teq (ws' := wD cy q N sN oN U sU oU A ++ wS G cy qs rr tt N g) (lv' := [(2, .int (enc (N 16 0))), (0, .ref (qs 0)), (1, .ref (q 0))]) (st' := [.int (enc (N 16 0))]) rfl rfl rfl ?_
      have b5 := hB 16 0
      refine tw_iload_n X dX5_isSame_32 0 rfl rfl ?_
      refine tw_icmp_ne (tgt := 71) X (In_of (by omega) (by omega)) (In_of (by omega) (by omega)) dX5_isSame_33 (by decide) (fun c33 => ?_) (fun c33 => ?_)
      · skip
        exact absurd rfl c33
      · skip
        refine tw_aload_n X dX5_isSame_36 2 rfl rfl ?_
        refine tw_callV X (As := []) (st := []) vw_X5_75 (m_X4_tourists (q := q) N sN oN U sU oU A) ([]) (wS G cy qs rr tt N g) rfl rfl (q0 := 0) rfl rfl rfl ⟨rfl, rfl, Nat.le_of_ble_eq_true rfl, Nat.le_of_ble_eq_true rfl⟩ ⟨Nat.le_of_ble_eq_true rfl, Nat.le_of_ble_eq_true rfl⟩ (Nat.le_of_ble_eq_true rfl) dX5_isSame_37 (fun v w1 hp => ?_)
        obtain ⟨rfl, rfl⟩ := hp
        refine Teq (ws' := wD cy q N sN oN U sU oU A ++ wS G cy qs rr tt N g) (lv' := [(2, .int (enc (N 16 0))), (0, .ref (qs 0)), (1, .ref (q 0))]) (st' := [.int (enc (N 17 0))]) rfl rfl rfl ?_
        have b6 := hB 17 0
        refine tw_aload_n X dX5_isSame_40 1 rfl rfl ?_
        refine gf_X5_15 X (v := .ref (qs 2)) 45 rfl rfl dX5_isSame_41 ?_
        refine sr_lenT X (g := g) (wD cy q N sN oN U sU oU A) rfl (by omega) dX5_isSame_44 ?_
        refine tw_icmp_ne (tgt := 71) X (In_of (by omega) (by omega)) (In_of (by omega) (by omega)) dX5_isSame_45 (by decide) (fun c45 => ?_) (fun c45 => ?_)
        · skip
          exact absurd rfl c45
        · skip
          refine tw_aload_n X dX5_isSame_48 2 rfl rfl ?_
          refine tw_callV X (As := []) (st := []) vw_X5_77 (m_X4_arrived (q := q) N sN oN U sU oU A) ([]) (wS G cy qs rr tt N g) rfl rfl (q0 := 0) rfl rfl rfl ⟨rfl, rfl, Nat.le_of_ble_eq_true rfl, Nat.le_of_ble_eq_true rfl⟩ ⟨Nat.le_of_ble_eq_true rfl, Nat.le_of_ble_eq_true rfl⟩ (Nat.le_of_ble_eq_true rfl) dX5_isSame_49 (fun v w1 hp => ?_)
          obtain ⟨rfl, rfl⟩ := hp
          refine Teq (ws' := wD cy q N sN oN U sU oU A ++ wS G cy qs rr tt N g) (lv' := [(2, .int (enc (N 16 0))), (0, .ref (qs 0)), (1, .ref (q 0))]) (st' := [.int (enc (N 18 0))]) rfl rfl rfl ?_
          have b7 := hB 18 0
          refine tw_aload_n X dX5_isSame_52 1 rfl rfl ?_
          refine tw_callV X (As := []) (st := [.int (enc (N 18 0))]) vw_X5_49 (m_X5_arrived (q := qs) (rr := rr) (tt := tt) N g B hF (by omega)) (wD cy q N sN oN U sU oU A) ([]) (sY _ _) rfl (q0 := 0) rfl rfl rfl ⟨rfl, rfl, Nat.le_of_ble_eq_true rfl, Nat.le_of_ble_eq_true rfl⟩ ⟨Nat.le_of_ble_eq_true rfl, Nat.le_of_ble_eq_true rfl⟩ (Nat.le_of_ble_eq_true rfl) dX5_isSame_53 (fun v w1 hp => ?_)
          obtain ⟨rfl, rfl⟩ := hp
          refine Teq (ws' := wD cy q N sN oN U sU oU A ++ wS G cy qs rr tt N g) (lv' := [(2, .int (enc (N 16 0))), (0, .ref (qs 0)), (1, .ref (q 0))]) (st' := [.int (enc (cntIn N (N 17 0).toNat)), .int (enc (N 18 0))]) (sY _ _).symm rfl rfl ?_
          have hci := cntIn_rng N (N 17 0).toNat
          have hcf := cntIn_full hF
          refine tw_icmp_ne (tgt := 71) X (In_of (by omega) (by omega)) (In_of (by omega) (by omega)) dX5_isSame_56 (by decide) (fun c56 => ?_) (fun c56 => ?_)
          · skip
            exact absurd (cntIn_full hF) c56
          · skip
            refine tw_aload_n X dX5_isSame_59 2 rfl rfl ?_
            refine tw_callV X (As := []) (st := []) vw_X5_78 (m_X4_allFrayed (q := q) N sN oN U sU oU A hB (by omega)) ([]) (wS G cy qs rr tt N g) rfl rfl (q0 := 0) rfl rfl rfl ⟨rfl, rfl, Nat.le_of_ble_eq_true rfl, Nat.le_of_ble_eq_true rfl⟩ ⟨Nat.le_of_ble_eq_true rfl, Nat.le_of_ble_eq_true rfl⟩ (Nat.le_of_ble_eq_true rfl) dX5_isSame_60 (fun v w1 hp => ?_)
            obtain ⟨rfl, rfl⟩ := hp
            refine Teq (ws' := wD cy q N sN oN U sU oU A ++ wS G cy qs rr tt N g) (lv' := [(2, .int (enc (N 16 0))), (0, .ref (qs 0)), (1, .ref (q 0))]) (st' := [.int (enc (frI N (N 17 0).toNat))]) rfl rfl rfl ?_
            have hfi := frI_rng hB (N 17 0).toNat
            refine tw_aload_n X dX5_isSame_63 1 rfl rfl ?_
            refine tw_iconst X dX5_isSame_64 ?_
            refine tw_callV X (As := [.int (enc (0))]) (st := [.int (enc (frI N (N 17 0).toNat))]) vw_X5_81 (m_X5_frayed (q := qs) (rr := rr) (tt := tt) N g B hF (by omega)) (wD cy q N sN oN U sU oU A) ([]) (sY _ _) rfl (q0 := 0) rfl rfl rfl ⟨rfl, rfl, Nat.le_of_ble_eq_true rfl, Nat.le_of_ble_eq_true rfl⟩ ⟨Nat.le_of_ble_eq_true rfl, Nat.le_of_ble_eq_true rfl⟩ (Nat.le_of_ble_eq_true rfl) dX5_isSame_65 (fun v w1 hp => ?_)
            obtain ⟨rfl, rfl⟩ := hp
            refine Teq (ws' := wD cy q N sN oN U sU oU A ++ wS G cy qs rr tt N g) (lv' := [(2, .int (enc (N 16 0))), (0, .ref (qs 0)), (1, .ref (q 0))]) (st' := [.int (enc (frI N (N 17 0).toNat)), .int (enc (frI N (N 17 0).toNat))]) (sY _ _).symm rfl rfl ?_
            refine tw_icmp_eq (tgt := 73) X (In_of (by omega) (by omega)) (In_of (by omega) (by omega)) dX5_isSame_68 (by decide) (fun c68 => ?_) (fun c68 => ?_)
            · skip
              refine tw_iconst X dX5_isSame_73 ?_
              refine tw_istore_n (lv' := [(3, .int (enc (0))), (2, .int (enc (N 16 0))), (0, .ref (qs 0)), (1, .ref (q 0))]) X dX5_isSame_74 rfl (by decide) rfl ?_
              refine tw_iconst X dX5_isSame_75 ?_
              refine tw_istore (lv' := [(4, .int (enc (-1))), (3, .int (enc (0))), (2, .int (enc (N 16 0))), (0, .ref (qs 0)), (1, .ref (q 0))]) X dX5_isSame_76 (by decide) rfl ?_
              refine tw_iconst X dX5_isSame_78 ?_
              refine tw_istore (lv' := [(5, .int (enc (0))), (4, .int (enc (-1))), (3, .int (enc (0))), (2, .int (enc (N 16 0))), (0, .ref (qs 0)), (1, .ref (q 0))]) X dX5_isSame_79 (by decide) rfl ?_
              refine tw_iconst X dX5_isSame_81 ?_
              refine tw_istore (lv' := [(6, .int (enc (0))), (5, .int (enc (0))), (4, .int (enc (-1))), (3, .int (enc (0))), (2, .int (enc (N 16 0))), (0, .ref (qs 0)), (1, .ref (q 0))]) X dX5_isSame_82 (by decide) rfl ?_
              have L84 : ∀ (fu i : Nat), (i : Int) ≤ N 16 0 → N 16 0 + 1 ≤ (i : Int) + fu → T G c ({ frames := 3, cells := 0, slots := 0, locals := 68 } : Room) 8 0 0 (wD cy q N sN oN U sU oU A ++ wS G cy qs rr tt N g) 84 [(6, .int (enc ((i : Int)))), (5, .int (enc (sumL N i))), (4, .int (enc ((mostW N i).1))), (3, .int (enc (cntC N i))), (2, .int (enc (N 16 0))), (0, .ref (qs 0)), (1, .ref (q 0))] [] := by
                intro fu
                induction fu with
                | zero =>
                  intro i  hi0 hi1
                  exact absurd hi1 (by omega)
                | succ fu ih84 =>
                  intro i  hi0_84 hi1_84 
                  have hcc := cntC_rng N i
                  have hmw := mostW_rng N i
                  have hmv := mostW_val (fun r => (hF.2.2.2.1 r).1) i
                  have hsl := sumL_rng hF.r i (by omega)
                  refine tw_iload X dX5_isSame_84 0 rfl ?_
                  refine tw_iload_n X dX5_isSame_86 4 rfl rfl ?_
                  refine tw_icmp_ge (tgt := 233) X (In_of (by omega) (by omega)) (In_of (by omega) (by omega)) dX5_isSame_87 (by decide) (fun c87 => ?_) (fun c87 => ?_)
                  · skip
                    refine tw_iconst X dX5_isSame_233 ?_
                    refine tw_istore (lv' := [(6, .int (enc (0))), (5, .int (enc (sumL N i))), (4, .int (enc ((mostW N i).1))), (3, .int (enc (cntC N i))), (2, .int (enc (N 16 0))), (0, .ref (qs 0)), (1, .ref (q 0))]) X dX5_isSame_234 (by decide) rfl ?_
                    have L236 : ∀ (fu t : Nat), (t : Int) ≤ N 17 0 → N 17 0 + 1 ≤ (t : Int) + fu → T G c ({ frames := 3, cells := 0, slots := 0, locals := 68 } : Room) 8 0 0 (wD cy q N sN oN U sU oU A ++ wS G cy qs rr tt N g) 236 [(6, .int (enc ((t : Int)))), (5, .int (enc (sumL N i))), (4, .int (enc ((mostW N i).1))), (3, .int (enc (cntC N i))), (2, .int (enc (N 16 0))), (0, .ref (qs 0)), (1, .ref (q 0))] [] := by
                      intro fu
                      induction fu with
                      | zero =>
                        intro t  hi0 hi1
                        exact absurd hi1 (by omega)
                      | succ fu ih236 =>
                        intro t  hi0_236 hi1_236 
                        refine tw_iload X dX5_isSame_236 0 rfl ?_
                        refine tw_aload_n X dX5_isSame_238 5 rfl rfl ?_
                        refine gf_X5_15 X (v := .ref (qs 2)) 45 rfl rfl dX5_isSame_239 ?_
                        refine sr_lenT X (g := g) (wD cy q N sN oN U sU oU A) rfl (by omega) dX5_isSame_242 ?_
                        refine tw_icmp_ge (tgt := 339) X (In_of (by omega) (by omega)) (In_of (by omega) (by omega)) dX5_isSame_243 (by decide) (fun c243 => ?_) (fun c243 => ?_)
                        · skip
                          refine tw_aload_n X dX5_isSame_339 6 rfl rfl ?_
                          refine tw_callV X (As := []) (st := []) vw_X5_116 (m_X4_closedRoads (q := q) N sN oN U sU oU A hB (by omega)) ([]) (wS G cy qs rr tt N g) rfl rfl (q0 := 0) rfl rfl rfl ⟨rfl, rfl, Nat.le_of_ble_eq_true rfl, Nat.le_of_ble_eq_true rfl⟩ ⟨Nat.le_of_ble_eq_true rfl, Nat.le_of_ble_eq_true rfl⟩ (Nat.le_of_ble_eq_true rfl) dX5_isSame_340 (fun v w1 hp => ?_)
                          obtain ⟨rfl, rfl⟩ := hp
                          refine Teq (ws' := wD cy q N sN oN U sU oU A ++ wS G cy qs rr tt N g) (lv' := [(6, .int (enc ((t : Int)))), (5, .int (enc (sumL N i))), (4, .int (enc ((mostW N i).1))), (3, .int (enc (cntC N i))), (2, .int (enc (N 16 0))), (0, .ref (qs 0)), (1, .ref (q 0))]) (st' := [.int (enc (cntC N (N 16 0).toNat))]) rfl rfl rfl ?_
                          have hci2 := cntC_rng N (N 16 0).toNat
                          refine tw_iload_n X dX5_isSame_343 3 rfl rfl ?_
                          refine tw_icmp_ne (tgt := 382) X (In_of (by omega) (by omega)) (In_of (by omega) (by omega)) dX5_isSame_344 (by decide) (fun c344 => ?_) (fun c344 => ?_)
                          · skip
                            exact absurd (by rw [show (N 16 0).toNat = i by omega]) c344
                          · skip
                            refine tw_aload_n X dX5_isSame_347 6 rfl rfl ?_
                            refine tw_callV X (As := []) (st := []) vw_X5_119 (m_X4_mostWorn (q := q) N sN oN U sU oU A hB (by omega)) ([]) (wS G cy qs rr tt N g) rfl rfl (q0 := 0) rfl rfl rfl ⟨rfl, rfl, Nat.le_of_ble_eq_true rfl, Nat.le_of_ble_eq_true rfl⟩ ⟨Nat.le_of_ble_eq_true rfl, Nat.le_of_ble_eq_true rfl⟩ (Nat.le_of_ble_eq_true rfl) dX5_isSame_348 (fun v w1 hp => ?_)
                            obtain ⟨rfl, rfl⟩ := hp
                            refine Teq (ws' := wD cy q N sN oN U sU oU A ++ wS G cy qs rr tt N g) (lv' := [(6, .int (enc ((t : Int)))), (5, .int (enc (sumL N i))), (4, .int (enc ((mostW N i).1))), (3, .int (enc (cntC N i))), (2, .int (enc (N 16 0))), (0, .ref (qs 0)), (1, .ref (q 0))]) (st' := [.int (enc ((mostW N (N 16 0).toNat).1))]) rfl rfl rfl ?_
                            have hmw2 := mostW_rng N (N 16 0).toNat
                            refine tw_iload X dX5_isSame_351 2 rfl ?_
                            refine tw_icmp_ne (tgt := 382) X (In_of (by omega) (by omega)) (In_of (by omega) (by omega)) dX5_isSame_353 (by decide) (fun c353 => ?_) (fun c353 => ?_)
                            · skip
                              exact absurd (by rw [show (N 16 0).toNat = i by omega]) c353
                            · skip
                              refine tw_aload_n X dX5_isSame_356 6 rfl rfl ?_
                              refine tw_callV X (As := []) (st := []) vw_X5_122 (m_X4_meanLength (q := q) N sN oN U sU oU A hF.r hB) ([]) (wS G cy qs rr tt N g) rfl rfl (q0 := 0) rfl rfl rfl ⟨rfl, rfl, Nat.le_of_ble_eq_true rfl, Nat.le_of_ble_eq_true rfl⟩ ⟨Nat.le_of_ble_eq_true rfl, Nat.le_of_ble_eq_true rfl⟩ (Nat.le_of_ble_eq_true rfl) dX5_isSame_357 (fun v w1 hp => ?_)
                              obtain ⟨rfl, rfl⟩ := hp
                              refine Teq (ws' := wD cy q N sN oN U sU oU A ++ wS G cy qs rr tt N g) (lv' := [(6, .int (enc ((t : Int)))), (5, .int (enc (sumL N i))), (4, .int (enc ((mostW N i).1))), (3, .int (enc (cntC N i))), (2, .int (enc (N 16 0))), (0, .ref (qs 0)), (1, .ref (q 0))]) (st' := [.double (meanM N)]) rfl rfl rfl ?_
                              refine tw_iload_n X dX5_isSame_360 4 rfl rfl ?_
                              refine tw_if_ne (tgt := 368) X (In_of (by omega) (by omega)) dX5_isSame_361 (by decide) (fun c361 => ?_) (fun c361 => ?_)
                              · skip
                                refine tw_iload X dX5_isSame_368 1 rfl ?_
                                refine tw_i2d X dX5_isSame_370 ?_
                                refine tw_iload_n X dX5_isSame_371 4 rfl rfl ?_
                                refine tw_i2d X dX5_isSame_372 ?_
                                refine tw_ddiv X (nan_ok (by omega) (by omega)) dX5_isSame_373 ?_
                                refine tw_dcmp X dX5_isSame_374 ?_
                                refine Tst (st' := [.int (enc (0))]) (by rw [mean_cmp hF.r (z := FP.ddiv (FP.i2d (enc (sumL N i))) (FP.i2d (enc (N 16 0)))) (by unfold meanM; rw [if_neg c361, show (N 16 0).toNat = i by omega])]) ?_
                                refine tw_if_ne (tgt := 382) X (In_of (by omega) (by omega)) dX5_isSame_375 (by decide) (fun c375 => ?_) (fun c375 => ?_)
                                · exact absurd c375 (by decide)
                                · skip
                                  refine tw_iconst X dX5_isSame_378 ?_
                                  refine tw_goto (tgt := 383) X dX5_isSame_379 (by decide) ?_
                                  exact ret _ _ _ _ dX5_isSame_383 ⟨rfl, rfl⟩
                              · skip
                                refine tw_dconst0 X dX5_isSame_364 ?_
                                refine tw_goto (tgt := 374) X dX5_isSame_365 (by decide) ?_
                                refine tw_dcmp X dX5_isSame_374 ?_
                                refine Tst (st' := [.int (enc (0))]) (by rw [mean_cmp hF.r (z := FP.dconst0) (by unfold meanM; rw [if_pos c361])]) ?_
                                refine tw_if_ne (tgt := 382) X (In_of (by omega) (by omega)) dX5_isSame_375 (by decide) (fun c375 => ?_) (fun c375 => ?_)
                                · exact absurd c375 (by decide)
                                · skip
                                  refine tw_iconst X dX5_isSame_378 ?_
                                  refine tw_goto (tgt := 383) X dX5_isSame_379 (by decide) ?_
                                  exact ret _ _ _ _ dX5_isSame_383 ⟨rfl, rfl⟩
                        · skip
                          have ha := arrT_ok hF (t := (t : Int)) (by omega)
                          have hTI := hF.2.2.2.2.2.2.2.2.2.1 (t : Int) (by omega) c243
                          unfold TI at hTI
                          have hfr := frayAt_rng (t := (t : Int)) (h := N 20 0) hB (by have := hB 20 0; omega)
                          refine tw_aload_n X dX5_isSame_246 5 rfl rfl ?_
                          refine gf_X5_15 X (v := .ref (qs 2)) 45 rfl rfl dX5_isSame_247 ?_
                          refine tw_iload X dX5_isSame_250 0 rfl ?_
                          refine sr_aaT X (g := g) (M := N) (t := (t : Int)) (wD cy q N sN oN U sU oU A) rfl (by omega) (by omega) dX5_isSame_252 ?_
                          refine tw_astore (lv' := [(7, .ref (tt ((t : Int)).toNat)), (6, .int (enc ((t : Int)))), (5, .int (enc (sumL N i))), (4, .int (enc ((mostW N i).1))), (3, .int (enc (cntC N i))), (2, .int (enc (N 16 0))), (0, .ref (qs 0)), (1, .ref (q 0))]) X dX5_isSame_253 (by decide) rfl ?_
                          refine tw_aload_n X dX5_isSame_255 7 rfl rfl ?_
                          refine tw_iload X dX5_isSame_256 1 rfl ?_
                          refine tw_callV X (As := [.int (enc ((t : Int)))]) (st := []) vw_X5_100 (m_X4_placeOf (q := q) N sN oN U sU oU A ((t : Int)) (by omega) B hF (by omega)) ([]) (wS G cy qs rr tt N g) rfl rfl (q0 := 0) rfl rfl rfl ⟨rfl, rfl, Nat.le_of_ble_eq_true rfl, Nat.le_of_ble_eq_true rfl⟩ ⟨Nat.le_of_ble_eq_true rfl, Nat.le_of_ble_eq_true rfl⟩ (Nat.le_of_ble_eq_true rfl) dX5_isSame_258 (fun v w1 hp => ?_)
                          obtain ⟨rfl, rfl⟩ := hp
                          refine Teq (ws' := wD cy q N sN oN U sU oU A ++ wS G cy qs rr tt N g) (lv' := [(7, .ref (tt ((t : Int)).toNat)), (6, .int (enc ((t : Int)))), (5, .int (enc (sumL N i))), (4, .int (enc ((mostW N i).1))), (3, .int (enc (cntC N i))), (2, .int (enc (N 16 0))), (0, .ref (qs 0)), (1, .ref (q 0))]) (st' := [.int (enc (N 7 (t : Int)))]) rfl rfl rfl ?_
                          have b8 := hB 7 (t : Int)
                          refine tw_aload X dX5_isSame_261 0 rfl ?_
                          refine tw_iconst X dX5_isSame_263 ?_
                          refine sr_ldT X (g := g) (M := N) (t := (t : Int)) (v := N 7 (t : Int)) (wD cy q N sN oN U sU oU A) rfl (by omega) (by decide) rfl dX5_isSame_264 ?_
                          have b9 := hB 7 (t : Int)
                          refine tw_icmp_ne (tgt := 331) X (In_of (by omega) (by omega)) (In_of (by omega) (by omega)) dX5_isSame_265 (by decide) (fun c265 => ?_) (fun c265 => ?_)
                          · skip
                            exact absurd rfl c265
                          · skip
                            refine tw_aload_n X dX5_isSame_268 7 rfl rfl ?_
                            refine tw_iload X dX5_isSame_269 1 rfl ?_
                            refine tw_callV X (As := [.int (enc ((t : Int)))]) (st := []) vw_X5_103 (m_X4_roadOf (q := q) N sN oN U sU oU A ((t : Int)) (by omega) B hF (by omega)) ([]) (wS G cy qs rr tt N g) rfl rfl (q0 := 0) rfl rfl rfl ⟨rfl, rfl, Nat.le_of_ble_eq_true rfl, Nat.le_of_ble_eq_true rfl⟩ ⟨Nat.le_of_ble_eq_true rfl, Nat.le_of_ble_eq_true rfl⟩ (Nat.le_of_ble_eq_true rfl) dX5_isSame_271 (fun v w1 hp => ?_)
                            obtain ⟨rfl, rfl⟩ := hp
                            refine Teq (ws' := wD cy q N sN oN U sU oU A ++ wS G cy qs rr tt N g) (lv' := [(7, .ref (tt ((t : Int)).toNat)), (6, .int (enc ((t : Int)))), (5, .int (enc (sumL N i))), (4, .int (enc ((mostW N i).1))), (3, .int (enc (cntC N i))), (2, .int (enc (N 16 0))), (0, .ref (qs 0)), (1, .ref (q 0))]) (st' := [.int (enc (N 8 (t : Int)))]) rfl rfl rfl ?_
                            have b10 := hB 8 (t : Int)
                            refine tw_aload X dX5_isSame_274 0 rfl ?_
                            refine tw_iconst X dX5_isSame_276 ?_
                            refine sr_ldT X (g := g) (M := N) (t := (t : Int)) (v := N 8 (t : Int)) (wD cy q N sN oN U sU oU A) rfl (by omega) (by decide) rfl dX5_isSame_277 ?_
                            have b11 := hB 8 (t : Int)
                            refine tw_icmp_ne (tgt := 331) X (In_of (by omega) (by omega)) (In_of (by omega) (by omega)) dX5_isSame_278 (by decide) (fun c278 => ?_) (fun c278 => ?_)
                            · skip
                              exact absurd rfl c278
                            · skip
                              refine tw_aload_n X dX5_isSame_281 7 rfl rfl ?_
                              refine tw_iload X dX5_isSame_282 1 rfl ?_
                              refine tw_callV X (As := [.int (enc ((t : Int)))]) (st := []) vw_X5_106 (m_X4_dyeOf (q := q) N sN oN U sU oU A ((t : Int)) (by omega) B hF (by omega)) ([]) (wS G cy qs rr tt N g) rfl rfl (q0 := 0) rfl rfl rfl ⟨rfl, rfl, Nat.le_of_ble_eq_true rfl, Nat.le_of_ble_eq_true rfl⟩ ⟨Nat.le_of_ble_eq_true rfl, Nat.le_of_ble_eq_true rfl⟩ (Nat.le_of_ble_eq_true rfl) dX5_isSame_284 (fun v w1 hp => ?_)
                              obtain ⟨rfl, rfl⟩ := hp
                              refine Teq (ws' := wD cy q N sN oN U sU oU A ++ wS G cy qs rr tt N g) (lv' := [(7, .ref (tt ((t : Int)).toNat)), (6, .int (enc ((t : Int)))), (5, .int (enc (sumL N i))), (4, .int (enc ((mostW N i).1))), (3, .int (enc (cntC N i))), (2, .int (enc (N 16 0))), (0, .ref (qs 0)), (1, .ref (q 0))]) (st' := [.int (enc (N 12 (t : Int)))]) rfl rfl rfl ?_
                              have b12 := hB 12 (t : Int)
                              refine tw_aload X dX5_isSame_287 0 rfl ?_
                              refine tw_iconst X dX5_isSame_289 ?_
                              refine sr_ldT X (g := g) (M := N) (t := (t : Int)) (v := N 12 (t : Int)) (wD cy q N sN oN U sU oU A) rfl (by omega) (by decide) rfl dX5_isSame_290 ?_
                              have b13 := hB 12 (t : Int)
                              refine tw_icmp_ne (tgt := 331) X (In_of (by omega) (by omega)) (In_of (by omega) (by omega)) dX5_isSame_291 (by decide) (fun c291 => ?_) (fun c291 => ?_)
                              · skip
                                exact absurd rfl c291
                              · skip
                                refine tw_aload_n X dX5_isSame_294 7 rfl rfl ?_
                                refine tw_iload X dX5_isSame_295 1 rfl ?_
                                refine tw_callV X (As := [.int (enc ((t : Int)))]) (st := []) vw_X5_109 (m_X4_frayOf (q := q) N sN oN U sU oU A ((t : Int)) (by omega) B hF (by omega)) ([]) (wS G cy qs rr tt N g) rfl rfl (q0 := 0) rfl rfl rfl ⟨rfl, rfl, Nat.le_of_ble_eq_true rfl, Nat.le_of_ble_eq_true rfl⟩ ⟨Nat.le_of_ble_eq_true rfl, Nat.le_of_ble_eq_true rfl⟩ (Nat.le_of_ble_eq_true rfl) dX5_isSame_297 (fun v w1 hp => ?_)
                                obtain ⟨rfl, rfl⟩ := hp
                                refine Teq (ws' := wD cy q N sN oN U sU oU A ++ wS G cy qs rr tt N g) (lv' := [(7, .ref (tt ((t : Int)).toNat)), (6, .int (enc ((t : Int)))), (5, .int (enc (sumL N i))), (4, .int (enc ((mostW N i).1))), (3, .int (enc (cntC N i))), (2, .int (enc (N 16 0))), (0, .ref (qs 0)), (1, .ref (q 0))]) (st' := [.int (enc (frayAt N (t : Int) (N 20 0)))]) rfl rfl rfl ?_
                                refine tw_aload_n X dX5_isSame_300 6 rfl rfl ?_
                                refine tw_aload X dX5_isSame_301 0 rfl ?_
                                refine tw_callV X (As := [.ref (tt ((t : Int)).toNat)]) (st := [.int (enc (frayAt N (t : Int) (N 20 0)))]) vw_X5_59 (m_X5_fray (q := qs) (rr := rr) (tt := tt) N g B hF (by omega) ((t : Int)) (by omega)) (wD cy q N sN oN U sU oU A) ([]) (sY _ _) rfl (q0 := 0) rfl rfl rfl ⟨rfl, rfl, Nat.le_of_ble_eq_true rfl, Nat.le_of_ble_eq_true rfl⟩ ⟨Nat.le_of_ble_eq_true rfl, Nat.le_of_ble_eq_true rfl⟩ (Nat.le_of_ble_eq_true rfl) dX5_isSame_303 (fun v w1 hp => ?_)
                                obtain ⟨rfl, rfl⟩ := hp
                                refine Teq (ws' := wD cy q N sN oN U sU oU A ++ wS G cy qs rr tt N g) (lv' := [(7, .ref (tt ((t : Int)).toNat)), (6, .int (enc ((t : Int)))), (5, .int (enc (sumL N i))), (4, .int (enc ((mostW N i).1))), (3, .int (enc (cntC N i))), (2, .int (enc (N 16 0))), (0, .ref (qs 0)), (1, .ref (q 0))]) (st' := [.int (enc (frayAt N (t : Int) (N 20 0))), .int (enc (frayAt N (t : Int) (N 20 0)))]) (sY _ _).symm rfl rfl ?_
                                refine tw_icmp_ne (tgt := 331) X (In_of (by omega) (by omega)) (In_of (by omega) (by omega)) dX5_isSame_306 (by decide) (fun c306 => ?_) (fun c306 => ?_)
                                · skip
                                  exact absurd rfl c306
                                · skip
                                  refine tw_aload_n X dX5_isSame_309 7 rfl rfl ?_
                                  refine tw_iload X dX5_isSame_310 1 rfl ?_
                                  refine tw_callV X (As := [.int (enc ((t : Int)))]) (st := []) vw_X5_112 (m_X4_hasArrived (q := q) N sN oN U sU oU A ((t : Int)) (by omega) B hF (by omega)) ([]) (wS G cy qs rr tt N g) rfl rfl (q0 := 0) rfl rfl rfl ⟨rfl, rfl, Nat.le_of_ble_eq_true rfl, Nat.le_of_ble_eq_true rfl⟩ ⟨Nat.le_of_ble_eq_true rfl, Nat.le_of_ble_eq_true rfl⟩ (Nat.le_of_ble_eq_true rfl) dX5_isSame_312 (fun v w1 hp => ?_)
                                  obtain ⟨rfl, rfl⟩ := hp
                                  refine Teq (ws' := wD cy q N sN oN U sU oU A ++ wS G cy qs rr tt N g) (lv' := [(7, .ref (tt ((t : Int)).toNat)), (6, .int (enc ((t : Int)))), (5, .int (enc (sumL N i))), (4, .int (enc ((mostW N i).1))), (3, .int (enc (cntC N i))), (2, .int (enc (N 16 0))), (0, .ref (qs 0)), (1, .ref (q 0))]) (st' := [.int (enc (if 0 ≤ N 15 (t : Int) then 1 else 0))]) rfl rfl rfl ?_
                                  refine tw_aload X dX5_isSame_315 0 rfl ?_
                                  refine tw_bipush X dX5_isSame_317 (by decide) ?_
                                  refine sr_ldT X (g := g) (M := N) (t := (t : Int)) (v := arrT N (t : Int)) (wD cy q N sN oN U sU oU A) rfl (by omega) (by decide) rfl dX5_isSame_319 ?_
                                  refine tw_if_lt (tgt := 327) X (In_of (by omega) (by omega)) dX5_isSame_320 (by decide) (fun c320 => ?_) (fun c320 => ?_)
                                  · skip
                                    refine tw_iconst X dX5_isSame_327 ?_
                                    refine tw_icmp_eq (tgt := 333) X In_b (In_of (by omega) (by omega)) dX5_isSame_328 (by decide) (fun c328 => ?_) (fun c328 => ?_)
                                    · skip
                                      refine tw_iinc (q := 1) (x := (t : Int)) (y := (t : Int) + 1) (lv' := [(6, .int (enc ((t : Int) + 1))), (7, .ref (tt ((t : Int)).toNat)), (5, .int (enc (sumL N i))), (4, .int (enc ((mostW N i).1))), (3, .int (enc (cntC N i))), (2, .int (enc (N 16 0))), (0, .ref (qs 0)), (1, .ref (q 0))]) X dX5_isSame_333 rfl rfl (by decide) rfl ?_
                                      refine tw_goto (tgt := 236) X dX5_isSame_336 (by decide) ?_
                                      refine Tsub (lv' := [(6, .int (enc ((t : Int) + 1))), (5, .int (enc (sumL N i))), (4, .int (enc ((mostW N i).1))), (3, .int (enc (cntC N i))), (2, .int (enc (N 16 0))), (0, .ref (qs 0)), (1, .ref (q 0))]) [0, 2, 3, 4, 5, 6, 7] rfl ?_
                                      refine Teq (ws' := wD cy q N sN oN U sU oU A ++ wS G cy qs rr tt N g) (lv' := [(6, .int (enc (((t + 1 : Nat) : Int)))), (5, .int (enc (sumL N i))), (4, .int (enc ((mostW N i).1))), (3, .int (enc (cntC N i))), (2, .int (enc (N 16 0))), (0, .ref (qs 0)), (1, .ref (q 0))]) (st' := []) (rfl) (lvc (i_succ t) (lvk (lvk (lvk (lvk (lvk (lvk (rfl)))))))) rfl (ih236 (t + 1) (by omega) (by omega))
                                    · skip
                                      exact absurd (by first | exact if_neg (by omega) | exact if_pos (by omega)) c328
                                  · skip
                                    refine tw_iconst X dX5_isSame_323 ?_
                                    refine tw_goto (tgt := 328) X dX5_isSame_324 (by decide) ?_
                                    refine tw_icmp_eq (tgt := 333) X In_b (In_of (by omega) (by omega)) dX5_isSame_328 (by decide) (fun c328 => ?_) (fun c328 => ?_)
                                    · skip
                                      refine tw_iinc (q := 1) (x := (t : Int)) (y := (t : Int) + 1) (lv' := [(6, .int (enc ((t : Int) + 1))), (7, .ref (tt ((t : Int)).toNat)), (5, .int (enc (sumL N i))), (4, .int (enc ((mostW N i).1))), (3, .int (enc (cntC N i))), (2, .int (enc (N 16 0))), (0, .ref (qs 0)), (1, .ref (q 0))]) X dX5_isSame_333 rfl rfl (by decide) rfl ?_
                                      refine tw_goto (tgt := 236) X dX5_isSame_336 (by decide) ?_
                                      refine Tsub (lv' := [(6, .int (enc ((t : Int) + 1))), (5, .int (enc (sumL N i))), (4, .int (enc ((mostW N i).1))), (3, .int (enc (cntC N i))), (2, .int (enc (N 16 0))), (0, .ref (qs 0)), (1, .ref (q 0))]) [0, 2, 3, 4, 5, 6, 7] rfl ?_
                                      refine Teq (ws' := wD cy q N sN oN U sU oU A ++ wS G cy qs rr tt N g) (lv' := [(6, .int (enc (((t + 1 : Nat) : Int)))), (5, .int (enc (sumL N i))), (4, .int (enc ((mostW N i).1))), (3, .int (enc (cntC N i))), (2, .int (enc (N 16 0))), (0, .ref (qs 0)), (1, .ref (q 0))]) (st' := []) (rfl) (lvc (i_succ t) (lvk (lvk (lvk (lvk (lvk (lvk (rfl)))))))) rfl (ih236 (t + 1) (by omega) (by omega))
                                    · skip
                                      exact absurd (by first | exact if_neg (by omega) | exact if_pos (by omega)) c328
                    refine Teq (ws' := wD cy q N sN oN U sU oU A ++ wS G cy qs rr tt N g) (lv' := [(6, .int (enc (((0 : Nat) : Int)))), (5, .int (enc (sumL N i))), (4, .int (enc ((mostW N i).1))), (3, .int (enc (cntC N i))), (2, .int (enc (N 16 0))), (0, .ref (qs 0)), (1, .ref (q 0))]) (st' := []) (rfl) (rfl) rfl (L236 (N 17 0 + 1).toNat 0 (by omega) (by omega))
                  · skip
                    have hln := hF.r.ln (r := (i : Int)) (by omega) c87
                    have d6 := hF.2.2.2.1 (i : Int)
                    refine tw_aload_n X dX5_isSame_90 5 rfl rfl ?_
                    refine gf_X5_9 X (v := .ref (qs 1)) 45 rfl rfl dX5_isSame_91 ?_
                    refine tw_iload X dX5_isSame_94 0 rfl ?_
                    refine sr_aaR X (g := g) (M := N) (r := (i : Int)) (wD cy q N sN oN U sU oU A) rfl (by omega) (by omega) dX5_isSame_96 ?_
                    refine tw_astore (lv' := [(7, .ref (rr ((i : Int)).toNat)), (6, .int (enc ((i : Int)))), (5, .int (enc (sumL N i))), (4, .int (enc ((mostW N i).1))), (3, .int (enc (cntC N i))), (2, .int (enc (N 16 0))), (0, .ref (qs 0)), (1, .ref (q 0))]) X dX5_isSame_97 (by decide) rfl ?_
                    refine tw_iload_n X dX5_isSame_99 4 rfl rfl ?_
                    refine tw_aload X dX5_isSame_100 0 rfl ?_
                    refine tw_iconst X dX5_isSame_102 ?_
                    refine sr_ldR X (g := g) (M := N) (r := (i : Int)) (v := N 6 (i : Int)) (wD cy q N sN oN U sU oU A) rfl (by omega) (by decide) rfl dX5_isSame_103 ?_
                    have b14 := hB 6 (i : Int)
                    refine tw_if_le (tgt := 111) X (In_of (by omega) (by omega)) dX5_isSame_104 (by decide) (fun c104 => ?_) (fun c104 => ?_)
                    · skip
                      refine tw_iconst X dX5_isSame_111 ?_
                      refine tw_iadd (z := (cntC N i) + 0) X dX5_isSame_112 rfl ?_
                      refine tw_istore_n (lv' := [(3, .int (enc ((cntC N i) + 0))), (7, .ref (rr ((i : Int)).toNat)), (6, .int (enc ((i : Int)))), (5, .int (enc (sumL N i))), (4, .int (enc ((mostW N i).1))), (2, .int (enc (N 16 0))), (0, .ref (qs 0)), (1, .ref (q 0))]) X dX5_isSame_113 rfl (by decide) rfl ?_
                      refine tw_iload X dX5_isSame_114 3 rfl ?_
                      refine tw_aload X dX5_isSame_116 1 rfl ?_
                      refine sr_length X sw_X5_22 (g := g) (M := N) (r := (i : Int)) (wD cy q N sN oN U sU oU A) rfl (by omega) (Nat.le_of_ble_eq_true rfl) (Nat.le_of_ble_eq_true rfl) ⟨(show 0 ≤ 0 by omega), (show 0 ≤ 0 by omega)⟩ (Nat.le_of_ble_eq_true rfl) dX5_isSame_118 ?_
                      refine tw_iadd (z := (sumL N i) + (len N (i : Int))) X dX5_isSame_121 rfl ?_
                      refine tw_istore (lv' := [(5, .int (enc ((sumL N i) + (len N (i : Int))))), (3, .int (enc ((cntC N i) + 0))), (7, .ref (rr ((i : Int)).toNat)), (6, .int (enc ((i : Int)))), (4, .int (enc ((mostW N i).1))), (2, .int (enc (N 16 0))), (0, .ref (qs 0)), (1, .ref (q 0))]) X dX5_isSame_122 (by decide) rfl ?_
                      refine tw_aload X dX5_isSame_124 2 rfl ?_
                      refine tw_iconst X dX5_isSame_126 ?_
                      refine sr_ldR X (g := g) (M := N) (r := (i : Int)) (v := N 6 (i : Int)) (wD cy q N sN oN U sU oU A) rfl (by omega) (by decide) rfl dX5_isSame_127 ?_
                      have b15 := hB 6 (i : Int)
                      refine tw_if_ne (tgt := 156) X (In_of (by omega) (by omega)) dX5_isSame_128 (by decide) (fun c128 => ?_) (fun c128 => ?_)
                      · skip
                        have hwn : (mostW N i).1 = (mostW N (i + 1)).1 := by rw [mostW_n (Or.inl c128)]
                        refine tw_aload_n X dX5_isSame_156 7 rfl rfl ?_
                        refine tw_iload X dX5_isSame_157 3 rfl ?_
                        refine tw_callV X (As := [.int (enc ((i : Int)))]) (st := []) vw_X5_85 (m_X4_lengthOf (q := q) N sN oN U sU oU A ((i : Int)) (by omega) B hF (by omega)) ([]) (wS G cy qs rr tt N g) rfl rfl (q0 := 0) rfl rfl rfl ⟨rfl, rfl, Nat.le_of_ble_eq_true rfl, Nat.le_of_ble_eq_true rfl⟩ ⟨Nat.le_of_ble_eq_true rfl, Nat.le_of_ble_eq_true rfl⟩ (Nat.le_of_ble_eq_true rfl) dX5_isSame_159 (fun v w1 hp => ?_)
                        obtain ⟨rfl, rfl⟩ := hp
                        refine Teq (ws' := wD cy q N sN oN U sU oU A ++ wS G cy qs rr tt N g) (lv' := [(5, .int (enc ((sumL N i) + (len N (i : Int))))), (3, .int (enc ((cntC N i) + 0))), (7, .ref (rr ((i : Int)).toNat)), (6, .int (enc ((i : Int)))), (4, .int (enc ((mostW N i).1))), (2, .int (enc (N 16 0))), (0, .ref (qs 0)), (1, .ref (q 0))]) (st' := [.int (enc (len N (i : Int)))]) rfl rfl rfl ?_
                        refine tw_aload X dX5_isSame_162 2 rfl ?_
                        refine sr_length X sw_X5_22 (g := g) (M := N) (r := (i : Int)) (wD cy q N sN oN U sU oU A) rfl (by omega) (Nat.le_of_ble_eq_true rfl) (Nat.le_of_ble_eq_true rfl) ⟨(show 0 ≤ 0 by omega), (show 0 ≤ 0 by omega)⟩ (Nat.le_of_ble_eq_true rfl) dX5_isSame_164 ?_
                        refine tw_icmp_ne (tgt := 225) X (In_of (by omega) (by omega)) (In_of (by omega) (by omega)) dX5_isSame_167 (by decide) (fun c167 => ?_) (fun c167 => ?_)
                        · skip
                          exact absurd rfl c167
                        · skip
                          refine tw_aload_n X dX5_isSame_170 7 rfl rfl ?_
                          refine tw_iload X dX5_isSame_171 3 rfl ?_
                          refine tw_callV X (As := [.int (enc ((i : Int)))]) (st := []) vw_X5_88 (m_X4_wearOf (q := q) N sN oN U sU oU A ((i : Int)) (by omega) B hF (by omega)) ([]) (wS G cy qs rr tt N g) rfl rfl (q0 := 0) rfl rfl rfl ⟨rfl, rfl, Nat.le_of_ble_eq_true rfl, Nat.le_of_ble_eq_true rfl⟩ ⟨Nat.le_of_ble_eq_true rfl, Nat.le_of_ble_eq_true rfl⟩ (Nat.le_of_ble_eq_true rfl) dX5_isSame_173 (fun v w1 hp => ?_)
                          obtain ⟨rfl, rfl⟩ := hp
                          refine Teq (ws' := wD cy q N sN oN U sU oU A ++ wS G cy qs rr tt N g) (lv' := [(5, .int (enc ((sumL N i) + (len N (i : Int))))), (3, .int (enc ((cntC N i) + 0))), (7, .ref (rr ((i : Int)).toNat)), (6, .int (enc ((i : Int)))), (4, .int (enc ((mostW N i).1))), (2, .int (enc (N 16 0))), (0, .ref (qs 0)), (1, .ref (q 0))]) (st' := [.int (enc (N 4 (i : Int)))]) rfl rfl rfl ?_
                          have b16 := hB 4 (i : Int)
                          refine tw_aload X dX5_isSame_176 2 rfl ?_
                          refine tw_iconst X dX5_isSame_178 ?_
                          refine sr_ldR X (g := g) (M := N) (r := (i : Int)) (v := N 4 (i : Int)) (wD cy q N sN oN U sU oU A) rfl (by omega) (by decide) rfl dX5_isSame_179 ?_
                          have b17 := hB 4 (i : Int)
                          refine tw_icmp_ne (tgt := 225) X (In_of (by omega) (by omega)) (In_of (by omega) (by omega)) dX5_isSame_180 (by decide) (fun c180 => ?_) (fun c180 => ?_)
                          · skip
                            exact absurd rfl c180
                          · skip
                            refine tw_aload_n X dX5_isSame_183 7 rfl rfl ?_
                            refine tw_iload X dX5_isSame_184 3 rfl ?_
                            refine tw_callV X (As := [.int (enc ((i : Int)))]) (st := []) vw_X5_91 (m_X4_knotsOf (q := q) N sN oN U sU oU A ((i : Int)) (by omega) B hF (by omega)) ([]) (wS G cy qs rr tt N g) rfl rfl (q0 := 0) rfl rfl rfl ⟨rfl, rfl, Nat.le_of_ble_eq_true rfl, Nat.le_of_ble_eq_true rfl⟩ ⟨Nat.le_of_ble_eq_true rfl, Nat.le_of_ble_eq_true rfl⟩ (Nat.le_of_ble_eq_true rfl) dX5_isSame_186 (fun v w1 hp => ?_)
                            obtain ⟨rfl, rfl⟩ := hp
                            refine Teq (ws' := wD cy q N sN oN U sU oU A ++ wS G cy qs rr tt N g) (lv' := [(5, .int (enc ((sumL N i) + (len N (i : Int))))), (3, .int (enc ((cntC N i) + 0))), (7, .ref (rr ((i : Int)).toNat)), (6, .int (enc ((i : Int)))), (4, .int (enc ((mostW N i).1))), (2, .int (enc (N 16 0))), (0, .ref (qs 0)), (1, .ref (q 0))]) (st' := [.int (enc (N 5 (i : Int)))]) rfl rfl rfl ?_
                            have b18 := hB 5 (i : Int)
                            refine tw_aload X dX5_isSame_189 2 rfl ?_
                            refine tw_bipush X dX5_isSame_191 (by decide) ?_
                            refine sr_ldR X (g := g) (M := N) (r := (i : Int)) (v := N 5 (i : Int)) (wD cy q N sN oN U sU oU A) rfl (by omega) (by decide) rfl dX5_isSame_193 ?_
                            have b19 := hB 5 (i : Int)
                            refine tw_icmp_ne (tgt := 225) X (In_of (by omega) (by omega)) (In_of (by omega) (by omega)) dX5_isSame_194 (by decide) (fun c194 => ?_) (fun c194 => ?_)
                            · skip
                              exact absurd rfl c194
                            · skip
                              refine tw_aload_n X dX5_isSame_197 7 rfl rfl ?_
                              refine tw_iload X dX5_isSame_198 3 rfl ?_
                              refine tw_callV X (As := [.int (enc ((i : Int)))]) (st := []) vw_X5_94 (m_X4_closedFor (q := q) N sN oN U sU oU A ((i : Int)) (by omega) B hF (by omega)) ([]) (wS G cy qs rr tt N g) rfl rfl (q0 := 0) rfl rfl rfl ⟨rfl, rfl, Nat.le_of_ble_eq_true rfl, Nat.le_of_ble_eq_true rfl⟩ ⟨Nat.le_of_ble_eq_true rfl, Nat.le_of_ble_eq_true rfl⟩ (Nat.le_of_ble_eq_true rfl) dX5_isSame_200 (fun v w1 hp => ?_)
                              obtain ⟨rfl, rfl⟩ := hp
                              refine Teq (ws' := wD cy q N sN oN U sU oU A ++ wS G cy qs rr tt N g) (lv' := [(5, .int (enc ((sumL N i) + (len N (i : Int))))), (3, .int (enc ((cntC N i) + 0))), (7, .ref (rr ((i : Int)).toNat)), (6, .int (enc ((i : Int)))), (4, .int (enc ((mostW N i).1))), (2, .int (enc (N 16 0))), (0, .ref (qs 0)), (1, .ref (q 0))]) (st' := [.int (enc (N 6 (i : Int)))]) rfl rfl rfl ?_
                              have b20 := hB 6 (i : Int)
                              refine tw_aload X dX5_isSame_203 2 rfl ?_
                              refine tw_iconst X dX5_isSame_205 ?_
                              refine sr_ldR X (g := g) (M := N) (r := (i : Int)) (v := N 6 (i : Int)) (wD cy q N sN oN U sU oU A) rfl (by omega) (by decide) rfl dX5_isSame_206 ?_
                              have b21 := hB 6 (i : Int)
                              refine tw_icmp_ne (tgt := 225) X (In_of (by omega) (by omega)) (In_of (by omega) (by omega)) dX5_isSame_207 (by decide) (fun c207 => ?_) (fun c207 => ?_)
                              · skip
                                exact absurd rfl c207
                              · skip
                                refine tw_aload_n X dX5_isSame_210 7 rfl rfl ?_
                                refine tw_iload X dX5_isSame_211 3 rfl ?_
                                refine tw_callV X (As := [.int (enc ((i : Int)))]) (st := []) vw_X5_97 (m_X4_touristsOn (q := q) N sN oN U sU oU A ((i : Int)) (by omega) B hF (by omega)) ([]) (wS G cy qs rr tt N g) rfl rfl (q0 := 0) rfl rfl rfl ⟨rfl, rfl, Nat.le_of_ble_eq_true rfl, Nat.le_of_ble_eq_true rfl⟩ ⟨Nat.le_of_ble_eq_true rfl, Nat.le_of_ble_eq_true rfl⟩ (Nat.le_of_ble_eq_true rfl) dX5_isSame_213 (fun v w1 hp => ?_)
                                obtain ⟨rfl, rfl⟩ := hp
                                refine Teq (ws' := wD cy q N sN oN U sU oU A ++ wS G cy qs rr tt N g) (lv' := [(5, .int (enc ((sumL N i) + (len N (i : Int))))), (3, .int (enc ((cntC N i) + 0))), (7, .ref (rr ((i : Int)).toNat)), (6, .int (enc ((i : Int)))), (4, .int (enc ((mostW N i).1))), (2, .int (enc (N 16 0))), (0, .ref (qs 0)), (1, .ref (q 0))]) (st' := [.int (enc (onR N (i : Int) (N 17 0).toNat))]) rfl rfl rfl ?_
                                have hon := onR_rng N (i : Int) (N 17 0).toNat
                                refine tw_aload_n X dX5_isSame_216 6 rfl rfl ?_
                                refine tw_iload X dX5_isSame_217 3 rfl ?_
                                refine tw_callV X (As := [.int (enc ((i : Int)))]) (st := [.int (enc (onR N (i : Int) (N 17 0).toNat))]) vw_X5_45 (m_X5_on (q := qs) (rr := rr) (tt := tt) N g B hF (by omega) ((i : Int)) (by omega)) (wD cy q N sN oN U sU oU A) ([]) (sY _ _) rfl (q0 := 0) rfl rfl rfl ⟨rfl, rfl, Nat.le_of_ble_eq_true rfl, Nat.le_of_ble_eq_true rfl⟩ ⟨Nat.le_of_ble_eq_true rfl, Nat.le_of_ble_eq_true rfl⟩ (Nat.le_of_ble_eq_true rfl) dX5_isSame_219 (fun v w1 hp => ?_)
                                obtain ⟨rfl, rfl⟩ := hp
                                refine Teq (ws' := wD cy q N sN oN U sU oU A ++ wS G cy qs rr tt N g) (lv' := [(5, .int (enc ((sumL N i) + (len N (i : Int))))), (3, .int (enc ((cntC N i) + 0))), (7, .ref (rr ((i : Int)).toNat)), (6, .int (enc ((i : Int)))), (4, .int (enc ((mostW N i).1))), (2, .int (enc (N 16 0))), (0, .ref (qs 0)), (1, .ref (q 0))]) (st' := [.int (enc (onR N (i : Int) (N 17 0).toNat)), .int (enc (onR N (i : Int) (N 17 0).toNat))]) (sY _ _).symm rfl rfl ?_
                                refine tw_icmp_eq (tgt := 227) X (In_of (by omega) (by omega)) (In_of (by omega) (by omega)) dX5_isSame_222 (by decide) (fun c222 => ?_) (fun c222 => ?_)
                                · skip
                                  refine tw_iinc (q := 3) (x := (i : Int)) (y := (i : Int) + 1) (lv' := [(6, .int (enc ((i : Int) + 1))), (5, .int (enc ((sumL N i) + (len N (i : Int))))), (3, .int (enc ((cntC N i) + 0))), (7, .ref (rr ((i : Int)).toNat)), (4, .int (enc ((mostW N i).1))), (2, .int (enc (N 16 0))), (0, .ref (qs 0)), (1, .ref (q 0))]) X dX5_isSame_227 rfl rfl (by decide) rfl ?_
                                  refine tw_goto (tgt := 84) X dX5_isSame_230 (by decide) ?_
                                  refine Tsub (lv' := [(6, .int (enc ((i : Int) + 1))), (5, .int (enc ((sumL N i) + (len N (i : Int))))), (4, .int (enc ((mostW N i).1))), (3, .int (enc ((cntC N i) + 0))), (2, .int (enc (N 16 0))), (0, .ref (qs 0)), (1, .ref (q 0))]) [0, 1, 4, 2, 5, 6, 7] rfl ?_
                                  refine Teq (ws' := wD cy q N sN oN U sU oU A ++ wS G cy qs rr tt N g) (lv' := [(6, .int (enc (((i + 1 : Nat) : Int)))), (5, .int (enc (sumL N (i + 1)))), (4, .int (enc ((mostW N (i + 1)).1))), (3, .int (enc (cntC N (i + 1)))), (2, .int (enc (N 16 0))), (0, .ref (qs 0)), (1, .ref (q 0))]) (st' := []) (rfl) (lvc (i_succ i) (lvc (by rw [sumL_s]) (lvc hwn (lvc (by rw [cntC_s]; split <;> omega) rfl)))) rfl (ih84 (i + 1) (by omega) (by omega))
                                · skip
                                  exact absurd rfl c222
                      · skip
                        refine tw_iload X dX5_isSame_131 4 rfl ?_
                        refine tw_if_lt (tgt := 152) X (In_of (by omega) (by omega)) dX5_isSame_133 (by decide) (fun c133 => ?_) (fun c133 => ?_)
                        · skip
                          have hv1 := hmv.1 c133
                          have hwn : (i : Int) = (mostW N (i + 1)).1 := by rw [mostW_y c128 (by omega)]
                          refine tw_iload X dX5_isSame_152 3 rfl ?_
                          refine tw_istore (lv' := [(4, .int (enc ((i : Int)))), (5, .int (enc ((sumL N i) + (len N (i : Int))))), (3, .int (enc ((cntC N i) + 0))), (7, .ref (rr ((i : Int)).toNat)), (6, .int (enc ((i : Int)))), (2, .int (enc (N 16 0))), (0, .ref (qs 0)), (1, .ref (q 0))]) X dX5_isSame_154 (by decide) rfl ?_
                          refine tw_aload_n X dX5_isSame_156 7 rfl rfl ?_
                          refine tw_iload X dX5_isSame_157 4 rfl ?_
                          refine tw_callV X (As := [.int (enc ((i : Int)))]) (st := []) vw_X5_85 (m_X4_lengthOf (q := q) N sN oN U sU oU A ((i : Int)) (by omega) B hF (by omega)) ([]) (wS G cy qs rr tt N g) rfl rfl (q0 := 0) rfl rfl rfl ⟨rfl, rfl, Nat.le_of_ble_eq_true rfl, Nat.le_of_ble_eq_true rfl⟩ ⟨Nat.le_of_ble_eq_true rfl, Nat.le_of_ble_eq_true rfl⟩ (Nat.le_of_ble_eq_true rfl) dX5_isSame_159 (fun v w1 hp => ?_)
                          obtain ⟨rfl, rfl⟩ := hp
                          refine Teq (ws' := wD cy q N sN oN U sU oU A ++ wS G cy qs rr tt N g) (lv' := [(4, .int (enc ((i : Int)))), (5, .int (enc ((sumL N i) + (len N (i : Int))))), (3, .int (enc ((cntC N i) + 0))), (7, .ref (rr ((i : Int)).toNat)), (6, .int (enc ((i : Int)))), (2, .int (enc (N 16 0))), (0, .ref (qs 0)), (1, .ref (q 0))]) (st' := [.int (enc (len N (i : Int)))]) rfl rfl rfl ?_
                          refine tw_aload X dX5_isSame_162 3 rfl ?_
                          refine sr_length X sw_X5_22 (g := g) (M := N) (r := (i : Int)) (wD cy q N sN oN U sU oU A) rfl (by omega) (Nat.le_of_ble_eq_true rfl) (Nat.le_of_ble_eq_true rfl) ⟨(show 0 ≤ 0 by omega), (show 0 ≤ 0 by omega)⟩ (Nat.le_of_ble_eq_true rfl) dX5_isSame_164 ?_
                          refine tw_icmp_ne (tgt := 225) X (In_of (by omega) (by omega)) (In_of (by omega) (by omega)) dX5_isSame_167 (by decide) (fun c167 => ?_) (fun c167 => ?_)
                          · skip
                            exact absurd rfl c167
                          · skip
                            refine tw_aload_n X dX5_isSame_170 7 rfl rfl ?_
                            refine tw_iload X dX5_isSame_171 4 rfl ?_
                            refine tw_callV X (As := [.int (enc ((i : Int)))]) (st := []) vw_X5_88 (m_X4_wearOf (q := q) N sN oN U sU oU A ((i : Int)) (by omega) B hF (by omega)) ([]) (wS G cy qs rr tt N g) rfl rfl (q0 := 0) rfl rfl rfl ⟨rfl, rfl, Nat.le_of_ble_eq_true rfl, Nat.le_of_ble_eq_true rfl⟩ ⟨Nat.le_of_ble_eq_true rfl, Nat.le_of_ble_eq_true rfl⟩ (Nat.le_of_ble_eq_true rfl) dX5_isSame_173 (fun v w1 hp => ?_)
                            obtain ⟨rfl, rfl⟩ := hp
                            refine Teq (ws' := wD cy q N sN oN U sU oU A ++ wS G cy qs rr tt N g) (lv' := [(4, .int (enc ((i : Int)))), (5, .int (enc ((sumL N i) + (len N (i : Int))))), (3, .int (enc ((cntC N i) + 0))), (7, .ref (rr ((i : Int)).toNat)), (6, .int (enc ((i : Int)))), (2, .int (enc (N 16 0))), (0, .ref (qs 0)), (1, .ref (q 0))]) (st' := [.int (enc (N 4 (i : Int)))]) rfl rfl rfl ?_
                            have b22 := hB 4 (i : Int)
                            refine tw_aload X dX5_isSame_176 3 rfl ?_
                            refine tw_iconst X dX5_isSame_178 ?_
                            refine sr_ldR X (g := g) (M := N) (r := (i : Int)) (v := N 4 (i : Int)) (wD cy q N sN oN U sU oU A) rfl (by omega) (by decide) rfl dX5_isSame_179 ?_
                            have b23 := hB 4 (i : Int)
                            refine tw_icmp_ne (tgt := 225) X (In_of (by omega) (by omega)) (In_of (by omega) (by omega)) dX5_isSame_180 (by decide) (fun c180 => ?_) (fun c180 => ?_)
                            · skip
                              exact absurd rfl c180
                            · skip
                              refine tw_aload_n X dX5_isSame_183 7 rfl rfl ?_
                              refine tw_iload X dX5_isSame_184 4 rfl ?_
                              refine tw_callV X (As := [.int (enc ((i : Int)))]) (st := []) vw_X5_91 (m_X4_knotsOf (q := q) N sN oN U sU oU A ((i : Int)) (by omega) B hF (by omega)) ([]) (wS G cy qs rr tt N g) rfl rfl (q0 := 0) rfl rfl rfl ⟨rfl, rfl, Nat.le_of_ble_eq_true rfl, Nat.le_of_ble_eq_true rfl⟩ ⟨Nat.le_of_ble_eq_true rfl, Nat.le_of_ble_eq_true rfl⟩ (Nat.le_of_ble_eq_true rfl) dX5_isSame_186 (fun v w1 hp => ?_)
                              obtain ⟨rfl, rfl⟩ := hp
                              refine Teq (ws' := wD cy q N sN oN U sU oU A ++ wS G cy qs rr tt N g) (lv' := [(4, .int (enc ((i : Int)))), (5, .int (enc ((sumL N i) + (len N (i : Int))))), (3, .int (enc ((cntC N i) + 0))), (7, .ref (rr ((i : Int)).toNat)), (6, .int (enc ((i : Int)))), (2, .int (enc (N 16 0))), (0, .ref (qs 0)), (1, .ref (q 0))]) (st' := [.int (enc (N 5 (i : Int)))]) rfl rfl rfl ?_
                              have b24 := hB 5 (i : Int)
                              refine tw_aload X dX5_isSame_189 3 rfl ?_
                              refine tw_bipush X dX5_isSame_191 (by decide) ?_
                              refine sr_ldR X (g := g) (M := N) (r := (i : Int)) (v := N 5 (i : Int)) (wD cy q N sN oN U sU oU A) rfl (by omega) (by decide) rfl dX5_isSame_193 ?_
                              have b25 := hB 5 (i : Int)
                              refine tw_icmp_ne (tgt := 225) X (In_of (by omega) (by omega)) (In_of (by omega) (by omega)) dX5_isSame_194 (by decide) (fun c194 => ?_) (fun c194 => ?_)
                              · skip
                                exact absurd rfl c194
                              · skip
                                refine tw_aload_n X dX5_isSame_197 7 rfl rfl ?_
                                refine tw_iload X dX5_isSame_198 4 rfl ?_
                                refine tw_callV X (As := [.int (enc ((i : Int)))]) (st := []) vw_X5_94 (m_X4_closedFor (q := q) N sN oN U sU oU A ((i : Int)) (by omega) B hF (by omega)) ([]) (wS G cy qs rr tt N g) rfl rfl (q0 := 0) rfl rfl rfl ⟨rfl, rfl, Nat.le_of_ble_eq_true rfl, Nat.le_of_ble_eq_true rfl⟩ ⟨Nat.le_of_ble_eq_true rfl, Nat.le_of_ble_eq_true rfl⟩ (Nat.le_of_ble_eq_true rfl) dX5_isSame_200 (fun v w1 hp => ?_)
                                obtain ⟨rfl, rfl⟩ := hp
                                refine Teq (ws' := wD cy q N sN oN U sU oU A ++ wS G cy qs rr tt N g) (lv' := [(4, .int (enc ((i : Int)))), (5, .int (enc ((sumL N i) + (len N (i : Int))))), (3, .int (enc ((cntC N i) + 0))), (7, .ref (rr ((i : Int)).toNat)), (6, .int (enc ((i : Int)))), (2, .int (enc (N 16 0))), (0, .ref (qs 0)), (1, .ref (q 0))]) (st' := [.int (enc (N 6 (i : Int)))]) rfl rfl rfl ?_
                                have b26 := hB 6 (i : Int)
                                refine tw_aload X dX5_isSame_203 3 rfl ?_
                                refine tw_iconst X dX5_isSame_205 ?_
                                refine sr_ldR X (g := g) (M := N) (r := (i : Int)) (v := N 6 (i : Int)) (wD cy q N sN oN U sU oU A) rfl (by omega) (by decide) rfl dX5_isSame_206 ?_
                                have b27 := hB 6 (i : Int)
                                refine tw_icmp_ne (tgt := 225) X (In_of (by omega) (by omega)) (In_of (by omega) (by omega)) dX5_isSame_207 (by decide) (fun c207 => ?_) (fun c207 => ?_)
                                · skip
                                  exact absurd rfl c207
                                · skip
                                  refine tw_aload_n X dX5_isSame_210 7 rfl rfl ?_
                                  refine tw_iload X dX5_isSame_211 4 rfl ?_
                                  refine tw_callV X (As := [.int (enc ((i : Int)))]) (st := []) vw_X5_97 (m_X4_touristsOn (q := q) N sN oN U sU oU A ((i : Int)) (by omega) B hF (by omega)) ([]) (wS G cy qs rr tt N g) rfl rfl (q0 := 0) rfl rfl rfl ⟨rfl, rfl, Nat.le_of_ble_eq_true rfl, Nat.le_of_ble_eq_true rfl⟩ ⟨Nat.le_of_ble_eq_true rfl, Nat.le_of_ble_eq_true rfl⟩ (Nat.le_of_ble_eq_true rfl) dX5_isSame_213 (fun v w1 hp => ?_)
                                  obtain ⟨rfl, rfl⟩ := hp
                                  refine Teq (ws' := wD cy q N sN oN U sU oU A ++ wS G cy qs rr tt N g) (lv' := [(4, .int (enc ((i : Int)))), (5, .int (enc ((sumL N i) + (len N (i : Int))))), (3, .int (enc ((cntC N i) + 0))), (7, .ref (rr ((i : Int)).toNat)), (6, .int (enc ((i : Int)))), (2, .int (enc (N 16 0))), (0, .ref (qs 0)), (1, .ref (q 0))]) (st' := [.int (enc (onR N (i : Int) (N 17 0).toNat))]) rfl rfl rfl ?_
                                  have hon := onR_rng N (i : Int) (N 17 0).toNat
                                  refine tw_aload_n X dX5_isSame_216 6 rfl rfl ?_
                                  refine tw_iload X dX5_isSame_217 4 rfl ?_
                                  refine tw_callV X (As := [.int (enc ((i : Int)))]) (st := [.int (enc (onR N (i : Int) (N 17 0).toNat))]) vw_X5_45 (m_X5_on (q := qs) (rr := rr) (tt := tt) N g B hF (by omega) ((i : Int)) (by omega)) (wD cy q N sN oN U sU oU A) ([]) (sY _ _) rfl (q0 := 0) rfl rfl rfl ⟨rfl, rfl, Nat.le_of_ble_eq_true rfl, Nat.le_of_ble_eq_true rfl⟩ ⟨Nat.le_of_ble_eq_true rfl, Nat.le_of_ble_eq_true rfl⟩ (Nat.le_of_ble_eq_true rfl) dX5_isSame_219 (fun v w1 hp => ?_)
                                  obtain ⟨rfl, rfl⟩ := hp
                                  refine Teq (ws' := wD cy q N sN oN U sU oU A ++ wS G cy qs rr tt N g) (lv' := [(4, .int (enc ((i : Int)))), (5, .int (enc ((sumL N i) + (len N (i : Int))))), (3, .int (enc ((cntC N i) + 0))), (7, .ref (rr ((i : Int)).toNat)), (6, .int (enc ((i : Int)))), (2, .int (enc (N 16 0))), (0, .ref (qs 0)), (1, .ref (q 0))]) (st' := [.int (enc (onR N (i : Int) (N 17 0).toNat)), .int (enc (onR N (i : Int) (N 17 0).toNat))]) (sY _ _).symm rfl rfl ?_
                                  refine tw_icmp_eq (tgt := 227) X (In_of (by omega) (by omega)) (In_of (by omega) (by omega)) dX5_isSame_222 (by decide) (fun c222 => ?_) (fun c222 => ?_)
                                  · skip
                                    refine tw_iinc (q := 4) (x := (i : Int)) (y := (i : Int) + 1) (lv' := [(6, .int (enc ((i : Int) + 1))), (4, .int (enc ((i : Int)))), (5, .int (enc ((sumL N i) + (len N (i : Int))))), (3, .int (enc ((cntC N i) + 0))), (7, .ref (rr ((i : Int)).toNat)), (2, .int (enc (N 16 0))), (0, .ref (qs 0)), (1, .ref (q 0))]) X dX5_isSame_227 rfl rfl (by decide) rfl ?_
                                    refine tw_goto (tgt := 84) X dX5_isSame_230 (by decide) ?_
                                    refine Tsub (lv' := [(6, .int (enc ((i : Int) + 1))), (5, .int (enc ((sumL N i) + (len N (i : Int))))), (4, .int (enc ((i : Int)))), (3, .int (enc ((cntC N i) + 0))), (2, .int (enc (N 16 0))), (0, .ref (qs 0)), (1, .ref (q 0))]) [0, 2, 1, 3, 5, 6, 7] rfl ?_
                                    refine Teq (ws' := wD cy q N sN oN U sU oU A ++ wS G cy qs rr tt N g) (lv' := [(6, .int (enc (((i + 1 : Nat) : Int)))), (5, .int (enc (sumL N (i + 1)))), (4, .int (enc ((mostW N (i + 1)).1))), (3, .int (enc (cntC N (i + 1)))), (2, .int (enc (N 16 0))), (0, .ref (qs 0)), (1, .ref (q 0))]) (st' := []) (rfl) (lvc (i_succ i) (lvc (by rw [sumL_s]) (lvc hwn (lvc (by rw [cntC_s]; split <;> omega) rfl)))) rfl (ih84 (i + 1) (by omega) (by omega))
                                  · skip
                                    exact absurd rfl c222
                        · skip
                          have hv2 := hmv.2.1 c133
                          have hb4 := hB 4 (mostW N i).1
                          refine tw_aload X dX5_isSame_136 2 rfl ?_
                          refine tw_iconst X dX5_isSame_138 ?_
                          refine sr_ldR X (g := g) (M := N) (r := (i : Int)) (v := N 4 (i : Int)) (wD cy q N sN oN U sU oU A) rfl (by omega) (by decide) rfl dX5_isSame_139 ?_
                          have b28 := hB 4 (i : Int)
                          refine tw_aload_n X dX5_isSame_140 6 rfl rfl ?_
                          refine gf_X5_9 X (v := .ref (qs 1)) 45 rfl rfl dX5_isSame_141 ?_
                          refine tw_iload X dX5_isSame_144 4 rfl ?_
                          refine sr_aaR X (g := g) (M := N) (r := (mostW N i).1) (wD cy q N sN oN U sU oU A) rfl (by omega) (by omega) dX5_isSame_146 ?_
                          refine tw_iconst X dX5_isSame_147 ?_
                          refine sr_ldR X (g := g) (M := N) (r := (mostW N i).1) (v := N 4 ((mostW N i).1)) (wD cy q N sN oN U sU oU A) rfl (by omega) (by decide) rfl dX5_isSame_148 ?_
                          have b29 := hB 4 (((mostW N i).1))
                          refine tw_icmp_le (tgt := 156) X (In_of (by omega) (by omega)) (In_of (by omega) (by omega)) dX5_isSame_149 (by decide) (fun c149 => ?_) (fun c149 => ?_)
                          · skip
                            have hwn : (mostW N i).1 = (mostW N (i + 1)).1 := by rw [mostW_n (Or.inr (by omega))]
                            refine tw_aload_n X dX5_isSame_156 7 rfl rfl ?_
                            refine tw_iload X dX5_isSame_157 3 rfl ?_
                            refine tw_callV X (As := [.int (enc ((i : Int)))]) (st := []) vw_X5_85 (m_X4_lengthOf (q := q) N sN oN U sU oU A ((i : Int)) (by omega) B hF (by omega)) ([]) (wS G cy qs rr tt N g) rfl rfl (q0 := 0) rfl rfl rfl ⟨rfl, rfl, Nat.le_of_ble_eq_true rfl, Nat.le_of_ble_eq_true rfl⟩ ⟨Nat.le_of_ble_eq_true rfl, Nat.le_of_ble_eq_true rfl⟩ (Nat.le_of_ble_eq_true rfl) dX5_isSame_159 (fun v w1 hp => ?_)
                            obtain ⟨rfl, rfl⟩ := hp
                            refine Teq (ws' := wD cy q N sN oN U sU oU A ++ wS G cy qs rr tt N g) (lv' := [(5, .int (enc ((sumL N i) + (len N (i : Int))))), (3, .int (enc ((cntC N i) + 0))), (7, .ref (rr ((i : Int)).toNat)), (6, .int (enc ((i : Int)))), (4, .int (enc ((mostW N i).1))), (2, .int (enc (N 16 0))), (0, .ref (qs 0)), (1, .ref (q 0))]) (st' := [.int (enc (len N (i : Int)))]) rfl rfl rfl ?_
                            refine tw_aload X dX5_isSame_162 2 rfl ?_
                            refine sr_length X sw_X5_22 (g := g) (M := N) (r := (i : Int)) (wD cy q N sN oN U sU oU A) rfl (by omega) (Nat.le_of_ble_eq_true rfl) (Nat.le_of_ble_eq_true rfl) ⟨(show 0 ≤ 0 by omega), (show 0 ≤ 0 by omega)⟩ (Nat.le_of_ble_eq_true rfl) dX5_isSame_164 ?_
                            refine tw_icmp_ne (tgt := 225) X (In_of (by omega) (by omega)) (In_of (by omega) (by omega)) dX5_isSame_167 (by decide) (fun c167 => ?_) (fun c167 => ?_)
                            · skip
                              exact absurd rfl c167
                            · skip
                              refine tw_aload_n X dX5_isSame_170 7 rfl rfl ?_
                              refine tw_iload X dX5_isSame_171 3 rfl ?_
                              refine tw_callV X (As := [.int (enc ((i : Int)))]) (st := []) vw_X5_88 (m_X4_wearOf (q := q) N sN oN U sU oU A ((i : Int)) (by omega) B hF (by omega)) ([]) (wS G cy qs rr tt N g) rfl rfl (q0 := 0) rfl rfl rfl ⟨rfl, rfl, Nat.le_of_ble_eq_true rfl, Nat.le_of_ble_eq_true rfl⟩ ⟨Nat.le_of_ble_eq_true rfl, Nat.le_of_ble_eq_true rfl⟩ (Nat.le_of_ble_eq_true rfl) dX5_isSame_173 (fun v w1 hp => ?_)
                              obtain ⟨rfl, rfl⟩ := hp
                              refine Teq (ws' := wD cy q N sN oN U sU oU A ++ wS G cy qs rr tt N g) (lv' := [(5, .int (enc ((sumL N i) + (len N (i : Int))))), (3, .int (enc ((cntC N i) + 0))), (7, .ref (rr ((i : Int)).toNat)), (6, .int (enc ((i : Int)))), (4, .int (enc ((mostW N i).1))), (2, .int (enc (N 16 0))), (0, .ref (qs 0)), (1, .ref (q 0))]) (st' := [.int (enc (N 4 (i : Int)))]) rfl rfl rfl ?_
                              have b30 := hB 4 (i : Int)
                              refine tw_aload X dX5_isSame_176 2 rfl ?_
                              refine tw_iconst X dX5_isSame_178 ?_
                              refine sr_ldR X (g := g) (M := N) (r := (i : Int)) (v := N 4 (i : Int)) (wD cy q N sN oN U sU oU A) rfl (by omega) (by decide) rfl dX5_isSame_179 ?_
                              have b31 := hB 4 (i : Int)
                              refine tw_icmp_ne (tgt := 225) X (In_of (by omega) (by omega)) (In_of (by omega) (by omega)) dX5_isSame_180 (by decide) (fun c180 => ?_) (fun c180 => ?_)
                              · skip
                                exact absurd rfl c180
                              · skip
                                refine tw_aload_n X dX5_isSame_183 7 rfl rfl ?_
                                refine tw_iload X dX5_isSame_184 3 rfl ?_
                                refine tw_callV X (As := [.int (enc ((i : Int)))]) (st := []) vw_X5_91 (m_X4_knotsOf (q := q) N sN oN U sU oU A ((i : Int)) (by omega) B hF (by omega)) ([]) (wS G cy qs rr tt N g) rfl rfl (q0 := 0) rfl rfl rfl ⟨rfl, rfl, Nat.le_of_ble_eq_true rfl, Nat.le_of_ble_eq_true rfl⟩ ⟨Nat.le_of_ble_eq_true rfl, Nat.le_of_ble_eq_true rfl⟩ (Nat.le_of_ble_eq_true rfl) dX5_isSame_186 (fun v w1 hp => ?_)
                                obtain ⟨rfl, rfl⟩ := hp
                                refine Teq (ws' := wD cy q N sN oN U sU oU A ++ wS G cy qs rr tt N g) (lv' := [(5, .int (enc ((sumL N i) + (len N (i : Int))))), (3, .int (enc ((cntC N i) + 0))), (7, .ref (rr ((i : Int)).toNat)), (6, .int (enc ((i : Int)))), (4, .int (enc ((mostW N i).1))), (2, .int (enc (N 16 0))), (0, .ref (qs 0)), (1, .ref (q 0))]) (st' := [.int (enc (N 5 (i : Int)))]) rfl rfl rfl ?_
                                have b32 := hB 5 (i : Int)
                                refine tw_aload X dX5_isSame_189 2 rfl ?_
                                refine tw_bipush X dX5_isSame_191 (by decide) ?_
                                refine sr_ldR X (g := g) (M := N) (r := (i : Int)) (v := N 5 (i : Int)) (wD cy q N sN oN U sU oU A) rfl (by omega) (by decide) rfl dX5_isSame_193 ?_
                                have b33 := hB 5 (i : Int)
                                refine tw_icmp_ne (tgt := 225) X (In_of (by omega) (by omega)) (In_of (by omega) (by omega)) dX5_isSame_194 (by decide) (fun c194 => ?_) (fun c194 => ?_)
                                · skip
                                  exact absurd rfl c194
                                · skip
                                  refine tw_aload_n X dX5_isSame_197 7 rfl rfl ?_
                                  refine tw_iload X dX5_isSame_198 3 rfl ?_
                                  refine tw_callV X (As := [.int (enc ((i : Int)))]) (st := []) vw_X5_94 (m_X4_closedFor (q := q) N sN oN U sU oU A ((i : Int)) (by omega) B hF (by omega)) ([]) (wS G cy qs rr tt N g) rfl rfl (q0 := 0) rfl rfl rfl ⟨rfl, rfl, Nat.le_of_ble_eq_true rfl, Nat.le_of_ble_eq_true rfl⟩ ⟨Nat.le_of_ble_eq_true rfl, Nat.le_of_ble_eq_true rfl⟩ (Nat.le_of_ble_eq_true rfl) dX5_isSame_200 (fun v w1 hp => ?_)
                                  obtain ⟨rfl, rfl⟩ := hp
                                  refine Teq (ws' := wD cy q N sN oN U sU oU A ++ wS G cy qs rr tt N g) (lv' := [(5, .int (enc ((sumL N i) + (len N (i : Int))))), (3, .int (enc ((cntC N i) + 0))), (7, .ref (rr ((i : Int)).toNat)), (6, .int (enc ((i : Int)))), (4, .int (enc ((mostW N i).1))), (2, .int (enc (N 16 0))), (0, .ref (qs 0)), (1, .ref (q 0))]) (st' := [.int (enc (N 6 (i : Int)))]) rfl rfl rfl ?_
                                  have b34 := hB 6 (i : Int)
                                  refine tw_aload X dX5_isSame_203 2 rfl ?_
                                  refine tw_iconst X dX5_isSame_205 ?_
                                  refine sr_ldR X (g := g) (M := N) (r := (i : Int)) (v := N 6 (i : Int)) (wD cy q N sN oN U sU oU A) rfl (by omega) (by decide) rfl dX5_isSame_206 ?_
                                  have b35 := hB 6 (i : Int)
                                  refine tw_icmp_ne (tgt := 225) X (In_of (by omega) (by omega)) (In_of (by omega) (by omega)) dX5_isSame_207 (by decide) (fun c207 => ?_) (fun c207 => ?_)
                                  · skip
                                    exact absurd rfl c207
                                  · skip
                                    refine tw_aload_n X dX5_isSame_210 7 rfl rfl ?_
                                    refine tw_iload X dX5_isSame_211 3 rfl ?_
                                    refine tw_callV X (As := [.int (enc ((i : Int)))]) (st := []) vw_X5_97 (m_X4_touristsOn (q := q) N sN oN U sU oU A ((i : Int)) (by omega) B hF (by omega)) ([]) (wS G cy qs rr tt N g) rfl rfl (q0 := 0) rfl rfl rfl ⟨rfl, rfl, Nat.le_of_ble_eq_true rfl, Nat.le_of_ble_eq_true rfl⟩ ⟨Nat.le_of_ble_eq_true rfl, Nat.le_of_ble_eq_true rfl⟩ (Nat.le_of_ble_eq_true rfl) dX5_isSame_213 (fun v w1 hp => ?_)
                                    obtain ⟨rfl, rfl⟩ := hp
                                    refine Teq (ws' := wD cy q N sN oN U sU oU A ++ wS G cy qs rr tt N g) (lv' := [(5, .int (enc ((sumL N i) + (len N (i : Int))))), (3, .int (enc ((cntC N i) + 0))), (7, .ref (rr ((i : Int)).toNat)), (6, .int (enc ((i : Int)))), (4, .int (enc ((mostW N i).1))), (2, .int (enc (N 16 0))), (0, .ref (qs 0)), (1, .ref (q 0))]) (st' := [.int (enc (onR N (i : Int) (N 17 0).toNat))]) rfl rfl rfl ?_
                                    have hon := onR_rng N (i : Int) (N 17 0).toNat
                                    refine tw_aload_n X dX5_isSame_216 6 rfl rfl ?_
                                    refine tw_iload X dX5_isSame_217 3 rfl ?_
                                    refine tw_callV X (As := [.int (enc ((i : Int)))]) (st := [.int (enc (onR N (i : Int) (N 17 0).toNat))]) vw_X5_45 (m_X5_on (q := qs) (rr := rr) (tt := tt) N g B hF (by omega) ((i : Int)) (by omega)) (wD cy q N sN oN U sU oU A) ([]) (sY _ _) rfl (q0 := 0) rfl rfl rfl ⟨rfl, rfl, Nat.le_of_ble_eq_true rfl, Nat.le_of_ble_eq_true rfl⟩ ⟨Nat.le_of_ble_eq_true rfl, Nat.le_of_ble_eq_true rfl⟩ (Nat.le_of_ble_eq_true rfl) dX5_isSame_219 (fun v w1 hp => ?_)
                                    obtain ⟨rfl, rfl⟩ := hp
                                    refine Teq (ws' := wD cy q N sN oN U sU oU A ++ wS G cy qs rr tt N g) (lv' := [(5, .int (enc ((sumL N i) + (len N (i : Int))))), (3, .int (enc ((cntC N i) + 0))), (7, .ref (rr ((i : Int)).toNat)), (6, .int (enc ((i : Int)))), (4, .int (enc ((mostW N i).1))), (2, .int (enc (N 16 0))), (0, .ref (qs 0)), (1, .ref (q 0))]) (st' := [.int (enc (onR N (i : Int) (N 17 0).toNat)), .int (enc (onR N (i : Int) (N 17 0).toNat))]) (sY _ _).symm rfl rfl ?_
                                    refine tw_icmp_eq (tgt := 227) X (In_of (by omega) (by omega)) (In_of (by omega) (by omega)) dX5_isSame_222 (by decide) (fun c222 => ?_) (fun c222 => ?_)
                                    · skip
                                      refine tw_iinc (q := 3) (x := (i : Int)) (y := (i : Int) + 1) (lv' := [(6, .int (enc ((i : Int) + 1))), (5, .int (enc ((sumL N i) + (len N (i : Int))))), (3, .int (enc ((cntC N i) + 0))), (7, .ref (rr ((i : Int)).toNat)), (4, .int (enc ((mostW N i).1))), (2, .int (enc (N 16 0))), (0, .ref (qs 0)), (1, .ref (q 0))]) X dX5_isSame_227 rfl rfl (by decide) rfl ?_
                                      refine tw_goto (tgt := 84) X dX5_isSame_230 (by decide) ?_
                                      refine Tsub (lv' := [(6, .int (enc ((i : Int) + 1))), (5, .int (enc ((sumL N i) + (len N (i : Int))))), (4, .int (enc ((mostW N i).1))), (3, .int (enc ((cntC N i) + 0))), (2, .int (enc (N 16 0))), (0, .ref (qs 0)), (1, .ref (q 0))]) [0, 1, 4, 2, 5, 6, 7] rfl ?_
                                      refine Teq (ws' := wD cy q N sN oN U sU oU A ++ wS G cy qs rr tt N g) (lv' := [(6, .int (enc (((i + 1 : Nat) : Int)))), (5, .int (enc (sumL N (i + 1)))), (4, .int (enc ((mostW N (i + 1)).1))), (3, .int (enc (cntC N (i + 1)))), (2, .int (enc (N 16 0))), (0, .ref (qs 0)), (1, .ref (q 0))]) (st' := []) (rfl) (lvc (i_succ i) (lvc (by rw [sumL_s]) (lvc hwn (lvc (by rw [cntC_s]; split <;> omega) rfl)))) rfl (ih84 (i + 1) (by omega) (by omega))
                                    · skip
                                      exact absurd rfl c222
                          · skip
                            have hwn : (i : Int) = (mostW N (i + 1)).1 := by rw [mostW_y c128 (by omega)]
                            refine tw_iload X dX5_isSame_152 3 rfl ?_
                            refine tw_istore (lv' := [(4, .int (enc ((i : Int)))), (5, .int (enc ((sumL N i) + (len N (i : Int))))), (3, .int (enc ((cntC N i) + 0))), (7, .ref (rr ((i : Int)).toNat)), (6, .int (enc ((i : Int)))), (2, .int (enc (N 16 0))), (0, .ref (qs 0)), (1, .ref (q 0))]) X dX5_isSame_154 (by decide) rfl ?_
                            refine tw_aload_n X dX5_isSame_156 7 rfl rfl ?_
                            refine tw_iload X dX5_isSame_157 4 rfl ?_
                            refine tw_callV X (As := [.int (enc ((i : Int)))]) (st := []) vw_X5_85 (m_X4_lengthOf (q := q) N sN oN U sU oU A ((i : Int)) (by omega) B hF (by omega)) ([]) (wS G cy qs rr tt N g) rfl rfl (q0 := 0) rfl rfl rfl ⟨rfl, rfl, Nat.le_of_ble_eq_true rfl, Nat.le_of_ble_eq_true rfl⟩ ⟨Nat.le_of_ble_eq_true rfl, Nat.le_of_ble_eq_true rfl⟩ (Nat.le_of_ble_eq_true rfl) dX5_isSame_159 (fun v w1 hp => ?_)
                            obtain ⟨rfl, rfl⟩ := hp
                            refine Teq (ws' := wD cy q N sN oN U sU oU A ++ wS G cy qs rr tt N g) (lv' := [(4, .int (enc ((i : Int)))), (5, .int (enc ((sumL N i) + (len N (i : Int))))), (3, .int (enc ((cntC N i) + 0))), (7, .ref (rr ((i : Int)).toNat)), (6, .int (enc ((i : Int)))), (2, .int (enc (N 16 0))), (0, .ref (qs 0)), (1, .ref (q 0))]) (st' := [.int (enc (len N (i : Int)))]) rfl rfl rfl ?_
                            refine tw_aload X dX5_isSame_162 3 rfl ?_
                            refine sr_length X sw_X5_22 (g := g) (M := N) (r := (i : Int)) (wD cy q N sN oN U sU oU A) rfl (by omega) (Nat.le_of_ble_eq_true rfl) (Nat.le_of_ble_eq_true rfl) ⟨(show 0 ≤ 0 by omega), (show 0 ≤ 0 by omega)⟩ (Nat.le_of_ble_eq_true rfl) dX5_isSame_164 ?_
                            refine tw_icmp_ne (tgt := 225) X (In_of (by omega) (by omega)) (In_of (by omega) (by omega)) dX5_isSame_167 (by decide) (fun c167 => ?_) (fun c167 => ?_)
                            · skip
                              exact absurd rfl c167
                            · skip
                              refine tw_aload_n X dX5_isSame_170 7 rfl rfl ?_
                              refine tw_iload X dX5_isSame_171 4 rfl ?_
                              refine tw_callV X (As := [.int (enc ((i : Int)))]) (st := []) vw_X5_88 (m_X4_wearOf (q := q) N sN oN U sU oU A ((i : Int)) (by omega) B hF (by omega)) ([]) (wS G cy qs rr tt N g) rfl rfl (q0 := 0) rfl rfl rfl ⟨rfl, rfl, Nat.le_of_ble_eq_true rfl, Nat.le_of_ble_eq_true rfl⟩ ⟨Nat.le_of_ble_eq_true rfl, Nat.le_of_ble_eq_true rfl⟩ (Nat.le_of_ble_eq_true rfl) dX5_isSame_173 (fun v w1 hp => ?_)
                              obtain ⟨rfl, rfl⟩ := hp
                              refine Teq (ws' := wD cy q N sN oN U sU oU A ++ wS G cy qs rr tt N g) (lv' := [(4, .int (enc ((i : Int)))), (5, .int (enc ((sumL N i) + (len N (i : Int))))), (3, .int (enc ((cntC N i) + 0))), (7, .ref (rr ((i : Int)).toNat)), (6, .int (enc ((i : Int)))), (2, .int (enc (N 16 0))), (0, .ref (qs 0)), (1, .ref (q 0))]) (st' := [.int (enc (N 4 (i : Int)))]) rfl rfl rfl ?_
                              have b36 := hB 4 (i : Int)
                              refine tw_aload X dX5_isSame_176 3 rfl ?_
                              refine tw_iconst X dX5_isSame_178 ?_
                              refine sr_ldR X (g := g) (M := N) (r := (i : Int)) (v := N 4 (i : Int)) (wD cy q N sN oN U sU oU A) rfl (by omega) (by decide) rfl dX5_isSame_179 ?_
                              have b37 := hB 4 (i : Int)
                              refine tw_icmp_ne (tgt := 225) X (In_of (by omega) (by omega)) (In_of (by omega) (by omega)) dX5_isSame_180 (by decide) (fun c180 => ?_) (fun c180 => ?_)
                              · skip
                                exact absurd rfl c180
                              · skip
                                refine tw_aload_n X dX5_isSame_183 7 rfl rfl ?_
                                refine tw_iload X dX5_isSame_184 4 rfl ?_
                                refine tw_callV X (As := [.int (enc ((i : Int)))]) (st := []) vw_X5_91 (m_X4_knotsOf (q := q) N sN oN U sU oU A ((i : Int)) (by omega) B hF (by omega)) ([]) (wS G cy qs rr tt N g) rfl rfl (q0 := 0) rfl rfl rfl ⟨rfl, rfl, Nat.le_of_ble_eq_true rfl, Nat.le_of_ble_eq_true rfl⟩ ⟨Nat.le_of_ble_eq_true rfl, Nat.le_of_ble_eq_true rfl⟩ (Nat.le_of_ble_eq_true rfl) dX5_isSame_186 (fun v w1 hp => ?_)
                                obtain ⟨rfl, rfl⟩ := hp
                                refine Teq (ws' := wD cy q N sN oN U sU oU A ++ wS G cy qs rr tt N g) (lv' := [(4, .int (enc ((i : Int)))), (5, .int (enc ((sumL N i) + (len N (i : Int))))), (3, .int (enc ((cntC N i) + 0))), (7, .ref (rr ((i : Int)).toNat)), (6, .int (enc ((i : Int)))), (2, .int (enc (N 16 0))), (0, .ref (qs 0)), (1, .ref (q 0))]) (st' := [.int (enc (N 5 (i : Int)))]) rfl rfl rfl ?_
                                have b38 := hB 5 (i : Int)
                                refine tw_aload X dX5_isSame_189 3 rfl ?_
                                refine tw_bipush X dX5_isSame_191 (by decide) ?_
                                refine sr_ldR X (g := g) (M := N) (r := (i : Int)) (v := N 5 (i : Int)) (wD cy q N sN oN U sU oU A) rfl (by omega) (by decide) rfl dX5_isSame_193 ?_
                                have b39 := hB 5 (i : Int)
                                refine tw_icmp_ne (tgt := 225) X (In_of (by omega) (by omega)) (In_of (by omega) (by omega)) dX5_isSame_194 (by decide) (fun c194 => ?_) (fun c194 => ?_)
                                · skip
                                  exact absurd rfl c194
                                · skip
                                  refine tw_aload_n X dX5_isSame_197 7 rfl rfl ?_
                                  refine tw_iload X dX5_isSame_198 4 rfl ?_
                                  refine tw_callV X (As := [.int (enc ((i : Int)))]) (st := []) vw_X5_94 (m_X4_closedFor (q := q) N sN oN U sU oU A ((i : Int)) (by omega) B hF (by omega)) ([]) (wS G cy qs rr tt N g) rfl rfl (q0 := 0) rfl rfl rfl ⟨rfl, rfl, Nat.le_of_ble_eq_true rfl, Nat.le_of_ble_eq_true rfl⟩ ⟨Nat.le_of_ble_eq_true rfl, Nat.le_of_ble_eq_true rfl⟩ (Nat.le_of_ble_eq_true rfl) dX5_isSame_200 (fun v w1 hp => ?_)
                                  obtain ⟨rfl, rfl⟩ := hp
                                  refine Teq (ws' := wD cy q N sN oN U sU oU A ++ wS G cy qs rr tt N g) (lv' := [(4, .int (enc ((i : Int)))), (5, .int (enc ((sumL N i) + (len N (i : Int))))), (3, .int (enc ((cntC N i) + 0))), (7, .ref (rr ((i : Int)).toNat)), (6, .int (enc ((i : Int)))), (2, .int (enc (N 16 0))), (0, .ref (qs 0)), (1, .ref (q 0))]) (st' := [.int (enc (N 6 (i : Int)))]) rfl rfl rfl ?_
                                  have b40 := hB 6 (i : Int)
                                  refine tw_aload X dX5_isSame_203 3 rfl ?_
                                  refine tw_iconst X dX5_isSame_205 ?_
                                  refine sr_ldR X (g := g) (M := N) (r := (i : Int)) (v := N 6 (i : Int)) (wD cy q N sN oN U sU oU A) rfl (by omega) (by decide) rfl dX5_isSame_206 ?_
                                  have b41 := hB 6 (i : Int)
                                  refine tw_icmp_ne (tgt := 225) X (In_of (by omega) (by omega)) (In_of (by omega) (by omega)) dX5_isSame_207 (by decide) (fun c207 => ?_) (fun c207 => ?_)
                                  · skip
                                    exact absurd rfl c207
                                  · skip
                                    refine tw_aload_n X dX5_isSame_210 7 rfl rfl ?_
                                    refine tw_iload X dX5_isSame_211 4 rfl ?_
                                    refine tw_callV X (As := [.int (enc ((i : Int)))]) (st := []) vw_X5_97 (m_X4_touristsOn (q := q) N sN oN U sU oU A ((i : Int)) (by omega) B hF (by omega)) ([]) (wS G cy qs rr tt N g) rfl rfl (q0 := 0) rfl rfl rfl ⟨rfl, rfl, Nat.le_of_ble_eq_true rfl, Nat.le_of_ble_eq_true rfl⟩ ⟨Nat.le_of_ble_eq_true rfl, Nat.le_of_ble_eq_true rfl⟩ (Nat.le_of_ble_eq_true rfl) dX5_isSame_213 (fun v w1 hp => ?_)
                                    obtain ⟨rfl, rfl⟩ := hp
                                    refine Teq (ws' := wD cy q N sN oN U sU oU A ++ wS G cy qs rr tt N g) (lv' := [(4, .int (enc ((i : Int)))), (5, .int (enc ((sumL N i) + (len N (i : Int))))), (3, .int (enc ((cntC N i) + 0))), (7, .ref (rr ((i : Int)).toNat)), (6, .int (enc ((i : Int)))), (2, .int (enc (N 16 0))), (0, .ref (qs 0)), (1, .ref (q 0))]) (st' := [.int (enc (onR N (i : Int) (N 17 0).toNat))]) rfl rfl rfl ?_
                                    have hon := onR_rng N (i : Int) (N 17 0).toNat
                                    refine tw_aload_n X dX5_isSame_216 6 rfl rfl ?_
                                    refine tw_iload X dX5_isSame_217 4 rfl ?_
                                    refine tw_callV X (As := [.int (enc ((i : Int)))]) (st := [.int (enc (onR N (i : Int) (N 17 0).toNat))]) vw_X5_45 (m_X5_on (q := qs) (rr := rr) (tt := tt) N g B hF (by omega) ((i : Int)) (by omega)) (wD cy q N sN oN U sU oU A) ([]) (sY _ _) rfl (q0 := 0) rfl rfl rfl ⟨rfl, rfl, Nat.le_of_ble_eq_true rfl, Nat.le_of_ble_eq_true rfl⟩ ⟨Nat.le_of_ble_eq_true rfl, Nat.le_of_ble_eq_true rfl⟩ (Nat.le_of_ble_eq_true rfl) dX5_isSame_219 (fun v w1 hp => ?_)
                                    obtain ⟨rfl, rfl⟩ := hp
                                    refine Teq (ws' := wD cy q N sN oN U sU oU A ++ wS G cy qs rr tt N g) (lv' := [(4, .int (enc ((i : Int)))), (5, .int (enc ((sumL N i) + (len N (i : Int))))), (3, .int (enc ((cntC N i) + 0))), (7, .ref (rr ((i : Int)).toNat)), (6, .int (enc ((i : Int)))), (2, .int (enc (N 16 0))), (0, .ref (qs 0)), (1, .ref (q 0))]) (st' := [.int (enc (onR N (i : Int) (N 17 0).toNat)), .int (enc (onR N (i : Int) (N 17 0).toNat))]) (sY _ _).symm rfl rfl ?_
                                    refine tw_icmp_eq (tgt := 227) X (In_of (by omega) (by omega)) (In_of (by omega) (by omega)) dX5_isSame_222 (by decide) (fun c222 => ?_) (fun c222 => ?_)
                                    · skip
                                      refine tw_iinc (q := 4) (x := (i : Int)) (y := (i : Int) + 1) (lv' := [(6, .int (enc ((i : Int) + 1))), (4, .int (enc ((i : Int)))), (5, .int (enc ((sumL N i) + (len N (i : Int))))), (3, .int (enc ((cntC N i) + 0))), (7, .ref (rr ((i : Int)).toNat)), (2, .int (enc (N 16 0))), (0, .ref (qs 0)), (1, .ref (q 0))]) X dX5_isSame_227 rfl rfl (by decide) rfl ?_
                                      refine tw_goto (tgt := 84) X dX5_isSame_230 (by decide) ?_
                                      refine Tsub (lv' := [(6, .int (enc ((i : Int) + 1))), (5, .int (enc ((sumL N i) + (len N (i : Int))))), (4, .int (enc ((i : Int)))), (3, .int (enc ((cntC N i) + 0))), (2, .int (enc (N 16 0))), (0, .ref (qs 0)), (1, .ref (q 0))]) [0, 2, 1, 3, 5, 6, 7] rfl ?_
                                      refine Teq (ws' := wD cy q N sN oN U sU oU A ++ wS G cy qs rr tt N g) (lv' := [(6, .int (enc (((i + 1 : Nat) : Int)))), (5, .int (enc (sumL N (i + 1)))), (4, .int (enc ((mostW N (i + 1)).1))), (3, .int (enc (cntC N (i + 1)))), (2, .int (enc (N 16 0))), (0, .ref (qs 0)), (1, .ref (q 0))]) (st' := []) (rfl) (lvc (i_succ i) (lvc (by rw [sumL_s]) (lvc hwn (lvc (by rw [cntC_s]; split <;> omega) rfl)))) rfl (ih84 (i + 1) (by omega) (by omega))
                                    · skip
                                      exact absurd rfl c222
                    · skip
                      refine tw_iconst X dX5_isSame_107 ?_
                      refine tw_goto (tgt := 112) X dX5_isSame_108 (by decide) ?_
                      refine tw_iadd (z := (cntC N i) + 1) X dX5_isSame_112 rfl ?_
                      refine tw_istore_n (lv' := [(3, .int (enc ((cntC N i) + 1))), (7, .ref (rr ((i : Int)).toNat)), (6, .int (enc ((i : Int)))), (5, .int (enc (sumL N i))), (4, .int (enc ((mostW N i).1))), (2, .int (enc (N 16 0))), (0, .ref (qs 0)), (1, .ref (q 0))]) X dX5_isSame_113 rfl (by decide) rfl ?_
                      refine tw_iload X dX5_isSame_114 3 rfl ?_
                      refine tw_aload X dX5_isSame_116 1 rfl ?_
                      refine sr_length X sw_X5_22 (g := g) (M := N) (r := (i : Int)) (wD cy q N sN oN U sU oU A) rfl (by omega) (Nat.le_of_ble_eq_true rfl) (Nat.le_of_ble_eq_true rfl) ⟨(show 0 ≤ 0 by omega), (show 0 ≤ 0 by omega)⟩ (Nat.le_of_ble_eq_true rfl) dX5_isSame_118 ?_
                      refine tw_iadd (z := (sumL N i) + (len N (i : Int))) X dX5_isSame_121 rfl ?_
                      refine tw_istore (lv' := [(5, .int (enc ((sumL N i) + (len N (i : Int))))), (3, .int (enc ((cntC N i) + 1))), (7, .ref (rr ((i : Int)).toNat)), (6, .int (enc ((i : Int)))), (4, .int (enc ((mostW N i).1))), (2, .int (enc (N 16 0))), (0, .ref (qs 0)), (1, .ref (q 0))]) X dX5_isSame_122 (by decide) rfl ?_
                      refine tw_aload X dX5_isSame_124 2 rfl ?_
                      refine tw_iconst X dX5_isSame_126 ?_
                      refine sr_ldR X (g := g) (M := N) (r := (i : Int)) (v := N 6 (i : Int)) (wD cy q N sN oN U sU oU A) rfl (by omega) (by decide) rfl dX5_isSame_127 ?_
                      have b42 := hB 6 (i : Int)
                      refine tw_if_ne (tgt := 156) X (In_of (by omega) (by omega)) dX5_isSame_128 (by decide) (fun c128 => ?_) (fun c128 => ?_)
                      · skip
                        have hwn : (mostW N i).1 = (mostW N (i + 1)).1 := by rw [mostW_n (Or.inl c128)]
                        refine tw_aload_n X dX5_isSame_156 7 rfl rfl ?_
                        refine tw_iload X dX5_isSame_157 3 rfl ?_
                        refine tw_callV X (As := [.int (enc ((i : Int)))]) (st := []) vw_X5_85 (m_X4_lengthOf (q := q) N sN oN U sU oU A ((i : Int)) (by omega) B hF (by omega)) ([]) (wS G cy qs rr tt N g) rfl rfl (q0 := 0) rfl rfl rfl ⟨rfl, rfl, Nat.le_of_ble_eq_true rfl, Nat.le_of_ble_eq_true rfl⟩ ⟨Nat.le_of_ble_eq_true rfl, Nat.le_of_ble_eq_true rfl⟩ (Nat.le_of_ble_eq_true rfl) dX5_isSame_159 (fun v w1 hp => ?_)
                        obtain ⟨rfl, rfl⟩ := hp
                        refine Teq (ws' := wD cy q N sN oN U sU oU A ++ wS G cy qs rr tt N g) (lv' := [(5, .int (enc ((sumL N i) + (len N (i : Int))))), (3, .int (enc ((cntC N i) + 1))), (7, .ref (rr ((i : Int)).toNat)), (6, .int (enc ((i : Int)))), (4, .int (enc ((mostW N i).1))), (2, .int (enc (N 16 0))), (0, .ref (qs 0)), (1, .ref (q 0))]) (st' := [.int (enc (len N (i : Int)))]) rfl rfl rfl ?_
                        refine tw_aload X dX5_isSame_162 2 rfl ?_
                        refine sr_length X sw_X5_22 (g := g) (M := N) (r := (i : Int)) (wD cy q N sN oN U sU oU A) rfl (by omega) (Nat.le_of_ble_eq_true rfl) (Nat.le_of_ble_eq_true rfl) ⟨(show 0 ≤ 0 by omega), (show 0 ≤ 0 by omega)⟩ (Nat.le_of_ble_eq_true rfl) dX5_isSame_164 ?_
                        refine tw_icmp_ne (tgt := 225) X (In_of (by omega) (by omega)) (In_of (by omega) (by omega)) dX5_isSame_167 (by decide) (fun c167 => ?_) (fun c167 => ?_)
                        · skip
                          exact absurd rfl c167
                        · skip
                          refine tw_aload_n X dX5_isSame_170 7 rfl rfl ?_
                          refine tw_iload X dX5_isSame_171 3 rfl ?_
                          refine tw_callV X (As := [.int (enc ((i : Int)))]) (st := []) vw_X5_88 (m_X4_wearOf (q := q) N sN oN U sU oU A ((i : Int)) (by omega) B hF (by omega)) ([]) (wS G cy qs rr tt N g) rfl rfl (q0 := 0) rfl rfl rfl ⟨rfl, rfl, Nat.le_of_ble_eq_true rfl, Nat.le_of_ble_eq_true rfl⟩ ⟨Nat.le_of_ble_eq_true rfl, Nat.le_of_ble_eq_true rfl⟩ (Nat.le_of_ble_eq_true rfl) dX5_isSame_173 (fun v w1 hp => ?_)
                          obtain ⟨rfl, rfl⟩ := hp
                          refine Teq (ws' := wD cy q N sN oN U sU oU A ++ wS G cy qs rr tt N g) (lv' := [(5, .int (enc ((sumL N i) + (len N (i : Int))))), (3, .int (enc ((cntC N i) + 1))), (7, .ref (rr ((i : Int)).toNat)), (6, .int (enc ((i : Int)))), (4, .int (enc ((mostW N i).1))), (2, .int (enc (N 16 0))), (0, .ref (qs 0)), (1, .ref (q 0))]) (st' := [.int (enc (N 4 (i : Int)))]) rfl rfl rfl ?_
                          have b43 := hB 4 (i : Int)
                          refine tw_aload X dX5_isSame_176 2 rfl ?_
                          refine tw_iconst X dX5_isSame_178 ?_
                          refine sr_ldR X (g := g) (M := N) (r := (i : Int)) (v := N 4 (i : Int)) (wD cy q N sN oN U sU oU A) rfl (by omega) (by decide) rfl dX5_isSame_179 ?_
                          have b44 := hB 4 (i : Int)
                          refine tw_icmp_ne (tgt := 225) X (In_of (by omega) (by omega)) (In_of (by omega) (by omega)) dX5_isSame_180 (by decide) (fun c180 => ?_) (fun c180 => ?_)
                          · skip
                            exact absurd rfl c180
                          · skip
                            refine tw_aload_n X dX5_isSame_183 7 rfl rfl ?_
                            refine tw_iload X dX5_isSame_184 3 rfl ?_
                            refine tw_callV X (As := [.int (enc ((i : Int)))]) (st := []) vw_X5_91 (m_X4_knotsOf (q := q) N sN oN U sU oU A ((i : Int)) (by omega) B hF (by omega)) ([]) (wS G cy qs rr tt N g) rfl rfl (q0 := 0) rfl rfl rfl ⟨rfl, rfl, Nat.le_of_ble_eq_true rfl, Nat.le_of_ble_eq_true rfl⟩ ⟨Nat.le_of_ble_eq_true rfl, Nat.le_of_ble_eq_true rfl⟩ (Nat.le_of_ble_eq_true rfl) dX5_isSame_186 (fun v w1 hp => ?_)
                            obtain ⟨rfl, rfl⟩ := hp
                            refine Teq (ws' := wD cy q N sN oN U sU oU A ++ wS G cy qs rr tt N g) (lv' := [(5, .int (enc ((sumL N i) + (len N (i : Int))))), (3, .int (enc ((cntC N i) + 1))), (7, .ref (rr ((i : Int)).toNat)), (6, .int (enc ((i : Int)))), (4, .int (enc ((mostW N i).1))), (2, .int (enc (N 16 0))), (0, .ref (qs 0)), (1, .ref (q 0))]) (st' := [.int (enc (N 5 (i : Int)))]) rfl rfl rfl ?_
                            have b45 := hB 5 (i : Int)
                            refine tw_aload X dX5_isSame_189 2 rfl ?_
                            refine tw_bipush X dX5_isSame_191 (by decide) ?_
                            refine sr_ldR X (g := g) (M := N) (r := (i : Int)) (v := N 5 (i : Int)) (wD cy q N sN oN U sU oU A) rfl (by omega) (by decide) rfl dX5_isSame_193 ?_
                            have b46 := hB 5 (i : Int)
                            refine tw_icmp_ne (tgt := 225) X (In_of (by omega) (by omega)) (In_of (by omega) (by omega)) dX5_isSame_194 (by decide) (fun c194 => ?_) (fun c194 => ?_)
                            · skip
                              exact absurd rfl c194
                            · skip
                              refine tw_aload_n X dX5_isSame_197 7 rfl rfl ?_
                              refine tw_iload X dX5_isSame_198 3 rfl ?_
                              refine tw_callV X (As := [.int (enc ((i : Int)))]) (st := []) vw_X5_94 (m_X4_closedFor (q := q) N sN oN U sU oU A ((i : Int)) (by omega) B hF (by omega)) ([]) (wS G cy qs rr tt N g) rfl rfl (q0 := 0) rfl rfl rfl ⟨rfl, rfl, Nat.le_of_ble_eq_true rfl, Nat.le_of_ble_eq_true rfl⟩ ⟨Nat.le_of_ble_eq_true rfl, Nat.le_of_ble_eq_true rfl⟩ (Nat.le_of_ble_eq_true rfl) dX5_isSame_200 (fun v w1 hp => ?_)
                              obtain ⟨rfl, rfl⟩ := hp
                              refine Teq (ws' := wD cy q N sN oN U sU oU A ++ wS G cy qs rr tt N g) (lv' := [(5, .int (enc ((sumL N i) + (len N (i : Int))))), (3, .int (enc ((cntC N i) + 1))), (7, .ref (rr ((i : Int)).toNat)), (6, .int (enc ((i : Int)))), (4, .int (enc ((mostW N i).1))), (2, .int (enc (N 16 0))), (0, .ref (qs 0)), (1, .ref (q 0))]) (st' := [.int (enc (N 6 (i : Int)))]) rfl rfl rfl ?_
                              have b47 := hB 6 (i : Int)
                              refine tw_aload X dX5_isSame_203 2 rfl ?_
                              refine tw_iconst X dX5_isSame_205 ?_
                              refine sr_ldR X (g := g) (M := N) (r := (i : Int)) (v := N 6 (i : Int)) (wD cy q N sN oN U sU oU A) rfl (by omega) (by decide) rfl dX5_isSame_206 ?_
                              have b48 := hB 6 (i : Int)
                              refine tw_icmp_ne (tgt := 225) X (In_of (by omega) (by omega)) (In_of (by omega) (by omega)) dX5_isSame_207 (by decide) (fun c207 => ?_) (fun c207 => ?_)
                              · skip
                                exact absurd rfl c207
                              · skip
                                refine tw_aload_n X dX5_isSame_210 7 rfl rfl ?_
                                refine tw_iload X dX5_isSame_211 3 rfl ?_
                                refine tw_callV X (As := [.int (enc ((i : Int)))]) (st := []) vw_X5_97 (m_X4_touristsOn (q := q) N sN oN U sU oU A ((i : Int)) (by omega) B hF (by omega)) ([]) (wS G cy qs rr tt N g) rfl rfl (q0 := 0) rfl rfl rfl ⟨rfl, rfl, Nat.le_of_ble_eq_true rfl, Nat.le_of_ble_eq_true rfl⟩ ⟨Nat.le_of_ble_eq_true rfl, Nat.le_of_ble_eq_true rfl⟩ (Nat.le_of_ble_eq_true rfl) dX5_isSame_213 (fun v w1 hp => ?_)
                                obtain ⟨rfl, rfl⟩ := hp
                                refine Teq (ws' := wD cy q N sN oN U sU oU A ++ wS G cy qs rr tt N g) (lv' := [(5, .int (enc ((sumL N i) + (len N (i : Int))))), (3, .int (enc ((cntC N i) + 1))), (7, .ref (rr ((i : Int)).toNat)), (6, .int (enc ((i : Int)))), (4, .int (enc ((mostW N i).1))), (2, .int (enc (N 16 0))), (0, .ref (qs 0)), (1, .ref (q 0))]) (st' := [.int (enc (onR N (i : Int) (N 17 0).toNat))]) rfl rfl rfl ?_
                                have hon := onR_rng N (i : Int) (N 17 0).toNat
                                refine tw_aload_n X dX5_isSame_216 6 rfl rfl ?_
                                refine tw_iload X dX5_isSame_217 3 rfl ?_
                                refine tw_callV X (As := [.int (enc ((i : Int)))]) (st := [.int (enc (onR N (i : Int) (N 17 0).toNat))]) vw_X5_45 (m_X5_on (q := qs) (rr := rr) (tt := tt) N g B hF (by omega) ((i : Int)) (by omega)) (wD cy q N sN oN U sU oU A) ([]) (sY _ _) rfl (q0 := 0) rfl rfl rfl ⟨rfl, rfl, Nat.le_of_ble_eq_true rfl, Nat.le_of_ble_eq_true rfl⟩ ⟨Nat.le_of_ble_eq_true rfl, Nat.le_of_ble_eq_true rfl⟩ (Nat.le_of_ble_eq_true rfl) dX5_isSame_219 (fun v w1 hp => ?_)
                                obtain ⟨rfl, rfl⟩ := hp
                                refine Teq (ws' := wD cy q N sN oN U sU oU A ++ wS G cy qs rr tt N g) (lv' := [(5, .int (enc ((sumL N i) + (len N (i : Int))))), (3, .int (enc ((cntC N i) + 1))), (7, .ref (rr ((i : Int)).toNat)), (6, .int (enc ((i : Int)))), (4, .int (enc ((mostW N i).1))), (2, .int (enc (N 16 0))), (0, .ref (qs 0)), (1, .ref (q 0))]) (st' := [.int (enc (onR N (i : Int) (N 17 0).toNat)), .int (enc (onR N (i : Int) (N 17 0).toNat))]) (sY _ _).symm rfl rfl ?_
                                refine tw_icmp_eq (tgt := 227) X (In_of (by omega) (by omega)) (In_of (by omega) (by omega)) dX5_isSame_222 (by decide) (fun c222 => ?_) (fun c222 => ?_)
                                · skip
                                  refine tw_iinc (q := 3) (x := (i : Int)) (y := (i : Int) + 1) (lv' := [(6, .int (enc ((i : Int) + 1))), (5, .int (enc ((sumL N i) + (len N (i : Int))))), (3, .int (enc ((cntC N i) + 1))), (7, .ref (rr ((i : Int)).toNat)), (4, .int (enc ((mostW N i).1))), (2, .int (enc (N 16 0))), (0, .ref (qs 0)), (1, .ref (q 0))]) X dX5_isSame_227 rfl rfl (by decide) rfl ?_
                                  refine tw_goto (tgt := 84) X dX5_isSame_230 (by decide) ?_
                                  refine Tsub (lv' := [(6, .int (enc ((i : Int) + 1))), (5, .int (enc ((sumL N i) + (len N (i : Int))))), (4, .int (enc ((mostW N i).1))), (3, .int (enc ((cntC N i) + 1))), (2, .int (enc (N 16 0))), (0, .ref (qs 0)), (1, .ref (q 0))]) [0, 1, 4, 2, 5, 6, 7] rfl ?_
                                  refine Teq (ws' := wD cy q N sN oN U sU oU A ++ wS G cy qs rr tt N g) (lv' := [(6, .int (enc (((i + 1 : Nat) : Int)))), (5, .int (enc (sumL N (i + 1)))), (4, .int (enc ((mostW N (i + 1)).1))), (3, .int (enc (cntC N (i + 1)))), (2, .int (enc (N 16 0))), (0, .ref (qs 0)), (1, .ref (q 0))]) (st' := []) (rfl) (lvc (i_succ i) (lvc (by rw [sumL_s]) (lvc hwn (lvc (by rw [cntC_s]; split <;> omega) rfl)))) rfl (ih84 (i + 1) (by omega) (by omega))
                                · skip
                                  exact absurd rfl c222
                      · skip
                        refine tw_iload X dX5_isSame_131 4 rfl ?_
                        refine tw_if_lt (tgt := 152) X (In_of (by omega) (by omega)) dX5_isSame_133 (by decide) (fun c133 => ?_) (fun c133 => ?_)
                        · skip
                          have hv1 := hmv.1 c133
                          have hwn : (i : Int) = (mostW N (i + 1)).1 := by rw [mostW_y c128 (by omega)]
                          refine tw_iload X dX5_isSame_152 3 rfl ?_
                          refine tw_istore (lv' := [(4, .int (enc ((i : Int)))), (5, .int (enc ((sumL N i) + (len N (i : Int))))), (3, .int (enc ((cntC N i) + 1))), (7, .ref (rr ((i : Int)).toNat)), (6, .int (enc ((i : Int)))), (2, .int (enc (N 16 0))), (0, .ref (qs 0)), (1, .ref (q 0))]) X dX5_isSame_154 (by decide) rfl ?_
                          refine tw_aload_n X dX5_isSame_156 7 rfl rfl ?_
                          refine tw_iload X dX5_isSame_157 4 rfl ?_
                          refine tw_callV X (As := [.int (enc ((i : Int)))]) (st := []) vw_X5_85 (m_X4_lengthOf (q := q) N sN oN U sU oU A ((i : Int)) (by omega) B hF (by omega)) ([]) (wS G cy qs rr tt N g) rfl rfl (q0 := 0) rfl rfl rfl ⟨rfl, rfl, Nat.le_of_ble_eq_true rfl, Nat.le_of_ble_eq_true rfl⟩ ⟨Nat.le_of_ble_eq_true rfl, Nat.le_of_ble_eq_true rfl⟩ (Nat.le_of_ble_eq_true rfl) dX5_isSame_159 (fun v w1 hp => ?_)
                          obtain ⟨rfl, rfl⟩ := hp
                          refine Teq (ws' := wD cy q N sN oN U sU oU A ++ wS G cy qs rr tt N g) (lv' := [(4, .int (enc ((i : Int)))), (5, .int (enc ((sumL N i) + (len N (i : Int))))), (3, .int (enc ((cntC N i) + 1))), (7, .ref (rr ((i : Int)).toNat)), (6, .int (enc ((i : Int)))), (2, .int (enc (N 16 0))), (0, .ref (qs 0)), (1, .ref (q 0))]) (st' := [.int (enc (len N (i : Int)))]) rfl rfl rfl ?_
                          refine tw_aload X dX5_isSame_162 3 rfl ?_
                          refine sr_length X sw_X5_22 (g := g) (M := N) (r := (i : Int)) (wD cy q N sN oN U sU oU A) rfl (by omega) (Nat.le_of_ble_eq_true rfl) (Nat.le_of_ble_eq_true rfl) ⟨(show 0 ≤ 0 by omega), (show 0 ≤ 0 by omega)⟩ (Nat.le_of_ble_eq_true rfl) dX5_isSame_164 ?_
                          refine tw_icmp_ne (tgt := 225) X (In_of (by omega) (by omega)) (In_of (by omega) (by omega)) dX5_isSame_167 (by decide) (fun c167 => ?_) (fun c167 => ?_)
                          · skip
                            exact absurd rfl c167
                          · skip
                            refine tw_aload_n X dX5_isSame_170 7 rfl rfl ?_
                            refine tw_iload X dX5_isSame_171 4 rfl ?_
                            refine tw_callV X (As := [.int (enc ((i : Int)))]) (st := []) vw_X5_88 (m_X4_wearOf (q := q) N sN oN U sU oU A ((i : Int)) (by omega) B hF (by omega)) ([]) (wS G cy qs rr tt N g) rfl rfl (q0 := 0) rfl rfl rfl ⟨rfl, rfl, Nat.le_of_ble_eq_true rfl, Nat.le_of_ble_eq_true rfl⟩ ⟨Nat.le_of_ble_eq_true rfl, Nat.le_of_ble_eq_true rfl⟩ (Nat.le_of_ble_eq_true rfl) dX5_isSame_173 (fun v w1 hp => ?_)
                            obtain ⟨rfl, rfl⟩ := hp
                            refine Teq (ws' := wD cy q N sN oN U sU oU A ++ wS G cy qs rr tt N g) (lv' := [(4, .int (enc ((i : Int)))), (5, .int (enc ((sumL N i) + (len N (i : Int))))), (3, .int (enc ((cntC N i) + 1))), (7, .ref (rr ((i : Int)).toNat)), (6, .int (enc ((i : Int)))), (2, .int (enc (N 16 0))), (0, .ref (qs 0)), (1, .ref (q 0))]) (st' := [.int (enc (N 4 (i : Int)))]) rfl rfl rfl ?_
                            have b49 := hB 4 (i : Int)
                            refine tw_aload X dX5_isSame_176 3 rfl ?_
                            refine tw_iconst X dX5_isSame_178 ?_
                            refine sr_ldR X (g := g) (M := N) (r := (i : Int)) (v := N 4 (i : Int)) (wD cy q N sN oN U sU oU A) rfl (by omega) (by decide) rfl dX5_isSame_179 ?_
                            have b50 := hB 4 (i : Int)
                            refine tw_icmp_ne (tgt := 225) X (In_of (by omega) (by omega)) (In_of (by omega) (by omega)) dX5_isSame_180 (by decide) (fun c180 => ?_) (fun c180 => ?_)
                            · skip
                              exact absurd rfl c180
                            · skip
                              refine tw_aload_n X dX5_isSame_183 7 rfl rfl ?_
                              refine tw_iload X dX5_isSame_184 4 rfl ?_
                              refine tw_callV X (As := [.int (enc ((i : Int)))]) (st := []) vw_X5_91 (m_X4_knotsOf (q := q) N sN oN U sU oU A ((i : Int)) (by omega) B hF (by omega)) ([]) (wS G cy qs rr tt N g) rfl rfl (q0 := 0) rfl rfl rfl ⟨rfl, rfl, Nat.le_of_ble_eq_true rfl, Nat.le_of_ble_eq_true rfl⟩ ⟨Nat.le_of_ble_eq_true rfl, Nat.le_of_ble_eq_true rfl⟩ (Nat.le_of_ble_eq_true rfl) dX5_isSame_186 (fun v w1 hp => ?_)
                              obtain ⟨rfl, rfl⟩ := hp
                              refine Teq (ws' := wD cy q N sN oN U sU oU A ++ wS G cy qs rr tt N g) (lv' := [(4, .int (enc ((i : Int)))), (5, .int (enc ((sumL N i) + (len N (i : Int))))), (3, .int (enc ((cntC N i) + 1))), (7, .ref (rr ((i : Int)).toNat)), (6, .int (enc ((i : Int)))), (2, .int (enc (N 16 0))), (0, .ref (qs 0)), (1, .ref (q 0))]) (st' := [.int (enc (N 5 (i : Int)))]) rfl rfl rfl ?_
                              have b51 := hB 5 (i : Int)
                              refine tw_aload X dX5_isSame_189 3 rfl ?_
                              refine tw_bipush X dX5_isSame_191 (by decide) ?_
                              refine sr_ldR X (g := g) (M := N) (r := (i : Int)) (v := N 5 (i : Int)) (wD cy q N sN oN U sU oU A) rfl (by omega) (by decide) rfl dX5_isSame_193 ?_
                              have b52 := hB 5 (i : Int)
                              refine tw_icmp_ne (tgt := 225) X (In_of (by omega) (by omega)) (In_of (by omega) (by omega)) dX5_isSame_194 (by decide) (fun c194 => ?_) (fun c194 => ?_)
                              · skip
                                exact absurd rfl c194
                              · skip
                                refine tw_aload_n X dX5_isSame_197 7 rfl rfl ?_
                                refine tw_iload X dX5_isSame_198 4 rfl ?_
                                refine tw_callV X (As := [.int (enc ((i : Int)))]) (st := []) vw_X5_94 (m_X4_closedFor (q := q) N sN oN U sU oU A ((i : Int)) (by omega) B hF (by omega)) ([]) (wS G cy qs rr tt N g) rfl rfl (q0 := 0) rfl rfl rfl ⟨rfl, rfl, Nat.le_of_ble_eq_true rfl, Nat.le_of_ble_eq_true rfl⟩ ⟨Nat.le_of_ble_eq_true rfl, Nat.le_of_ble_eq_true rfl⟩ (Nat.le_of_ble_eq_true rfl) dX5_isSame_200 (fun v w1 hp => ?_)
                                obtain ⟨rfl, rfl⟩ := hp
                                refine Teq (ws' := wD cy q N sN oN U sU oU A ++ wS G cy qs rr tt N g) (lv' := [(4, .int (enc ((i : Int)))), (5, .int (enc ((sumL N i) + (len N (i : Int))))), (3, .int (enc ((cntC N i) + 1))), (7, .ref (rr ((i : Int)).toNat)), (6, .int (enc ((i : Int)))), (2, .int (enc (N 16 0))), (0, .ref (qs 0)), (1, .ref (q 0))]) (st' := [.int (enc (N 6 (i : Int)))]) rfl rfl rfl ?_
                                have b53 := hB 6 (i : Int)
                                refine tw_aload X dX5_isSame_203 3 rfl ?_
                                refine tw_iconst X dX5_isSame_205 ?_
                                refine sr_ldR X (g := g) (M := N) (r := (i : Int)) (v := N 6 (i : Int)) (wD cy q N sN oN U sU oU A) rfl (by omega) (by decide) rfl dX5_isSame_206 ?_
                                have b54 := hB 6 (i : Int)
                                refine tw_icmp_ne (tgt := 225) X (In_of (by omega) (by omega)) (In_of (by omega) (by omega)) dX5_isSame_207 (by decide) (fun c207 => ?_) (fun c207 => ?_)
                                · skip
                                  exact absurd rfl c207
                                · skip
                                  refine tw_aload_n X dX5_isSame_210 7 rfl rfl ?_
                                  refine tw_iload X dX5_isSame_211 4 rfl ?_
                                  refine tw_callV X (As := [.int (enc ((i : Int)))]) (st := []) vw_X5_97 (m_X4_touristsOn (q := q) N sN oN U sU oU A ((i : Int)) (by omega) B hF (by omega)) ([]) (wS G cy qs rr tt N g) rfl rfl (q0 := 0) rfl rfl rfl ⟨rfl, rfl, Nat.le_of_ble_eq_true rfl, Nat.le_of_ble_eq_true rfl⟩ ⟨Nat.le_of_ble_eq_true rfl, Nat.le_of_ble_eq_true rfl⟩ (Nat.le_of_ble_eq_true rfl) dX5_isSame_213 (fun v w1 hp => ?_)
                                  obtain ⟨rfl, rfl⟩ := hp
                                  refine Teq (ws' := wD cy q N sN oN U sU oU A ++ wS G cy qs rr tt N g) (lv' := [(4, .int (enc ((i : Int)))), (5, .int (enc ((sumL N i) + (len N (i : Int))))), (3, .int (enc ((cntC N i) + 1))), (7, .ref (rr ((i : Int)).toNat)), (6, .int (enc ((i : Int)))), (2, .int (enc (N 16 0))), (0, .ref (qs 0)), (1, .ref (q 0))]) (st' := [.int (enc (onR N (i : Int) (N 17 0).toNat))]) rfl rfl rfl ?_
                                  have hon := onR_rng N (i : Int) (N 17 0).toNat
                                  refine tw_aload_n X dX5_isSame_216 6 rfl rfl ?_
                                  refine tw_iload X dX5_isSame_217 4 rfl ?_
                                  refine tw_callV X (As := [.int (enc ((i : Int)))]) (st := [.int (enc (onR N (i : Int) (N 17 0).toNat))]) vw_X5_45 (m_X5_on (q := qs) (rr := rr) (tt := tt) N g B hF (by omega) ((i : Int)) (by omega)) (wD cy q N sN oN U sU oU A) ([]) (sY _ _) rfl (q0 := 0) rfl rfl rfl ⟨rfl, rfl, Nat.le_of_ble_eq_true rfl, Nat.le_of_ble_eq_true rfl⟩ ⟨Nat.le_of_ble_eq_true rfl, Nat.le_of_ble_eq_true rfl⟩ (Nat.le_of_ble_eq_true rfl) dX5_isSame_219 (fun v w1 hp => ?_)
                                  obtain ⟨rfl, rfl⟩ := hp
                                  refine Teq (ws' := wD cy q N sN oN U sU oU A ++ wS G cy qs rr tt N g) (lv' := [(4, .int (enc ((i : Int)))), (5, .int (enc ((sumL N i) + (len N (i : Int))))), (3, .int (enc ((cntC N i) + 1))), (7, .ref (rr ((i : Int)).toNat)), (6, .int (enc ((i : Int)))), (2, .int (enc (N 16 0))), (0, .ref (qs 0)), (1, .ref (q 0))]) (st' := [.int (enc (onR N (i : Int) (N 17 0).toNat)), .int (enc (onR N (i : Int) (N 17 0).toNat))]) (sY _ _).symm rfl rfl ?_
                                  refine tw_icmp_eq (tgt := 227) X (In_of (by omega) (by omega)) (In_of (by omega) (by omega)) dX5_isSame_222 (by decide) (fun c222 => ?_) (fun c222 => ?_)
                                  · skip
                                    refine tw_iinc (q := 4) (x := (i : Int)) (y := (i : Int) + 1) (lv' := [(6, .int (enc ((i : Int) + 1))), (4, .int (enc ((i : Int)))), (5, .int (enc ((sumL N i) + (len N (i : Int))))), (3, .int (enc ((cntC N i) + 1))), (7, .ref (rr ((i : Int)).toNat)), (2, .int (enc (N 16 0))), (0, .ref (qs 0)), (1, .ref (q 0))]) X dX5_isSame_227 rfl rfl (by decide) rfl ?_
                                    refine tw_goto (tgt := 84) X dX5_isSame_230 (by decide) ?_
                                    refine Tsub (lv' := [(6, .int (enc ((i : Int) + 1))), (5, .int (enc ((sumL N i) + (len N (i : Int))))), (4, .int (enc ((i : Int)))), (3, .int (enc ((cntC N i) + 1))), (2, .int (enc (N 16 0))), (0, .ref (qs 0)), (1, .ref (q 0))]) [0, 2, 1, 3, 5, 6, 7] rfl ?_
                                    refine Teq (ws' := wD cy q N sN oN U sU oU A ++ wS G cy qs rr tt N g) (lv' := [(6, .int (enc (((i + 1 : Nat) : Int)))), (5, .int (enc (sumL N (i + 1)))), (4, .int (enc ((mostW N (i + 1)).1))), (3, .int (enc (cntC N (i + 1)))), (2, .int (enc (N 16 0))), (0, .ref (qs 0)), (1, .ref (q 0))]) (st' := []) (rfl) (lvc (i_succ i) (lvc (by rw [sumL_s]) (lvc hwn (lvc (by rw [cntC_s]; split <;> omega) rfl)))) rfl (ih84 (i + 1) (by omega) (by omega))
                                  · skip
                                    exact absurd rfl c222
                        · skip
                          have hv2 := hmv.2.1 c133
                          have hb4 := hB 4 (mostW N i).1
                          refine tw_aload X dX5_isSame_136 2 rfl ?_
                          refine tw_iconst X dX5_isSame_138 ?_
                          refine sr_ldR X (g := g) (M := N) (r := (i : Int)) (v := N 4 (i : Int)) (wD cy q N sN oN U sU oU A) rfl (by omega) (by decide) rfl dX5_isSame_139 ?_
                          have b55 := hB 4 (i : Int)
                          refine tw_aload_n X dX5_isSame_140 6 rfl rfl ?_
                          refine gf_X5_9 X (v := .ref (qs 1)) 45 rfl rfl dX5_isSame_141 ?_
                          refine tw_iload X dX5_isSame_144 4 rfl ?_
                          refine sr_aaR X (g := g) (M := N) (r := (mostW N i).1) (wD cy q N sN oN U sU oU A) rfl (by omega) (by omega) dX5_isSame_146 ?_
                          refine tw_iconst X dX5_isSame_147 ?_
                          refine sr_ldR X (g := g) (M := N) (r := (mostW N i).1) (v := N 4 ((mostW N i).1)) (wD cy q N sN oN U sU oU A) rfl (by omega) (by decide) rfl dX5_isSame_148 ?_
                          have b56 := hB 4 (((mostW N i).1))
                          refine tw_icmp_le (tgt := 156) X (In_of (by omega) (by omega)) (In_of (by omega) (by omega)) dX5_isSame_149 (by decide) (fun c149 => ?_) (fun c149 => ?_)
                          · skip
                            have hwn : (mostW N i).1 = (mostW N (i + 1)).1 := by rw [mostW_n (Or.inr (by omega))]
                            refine tw_aload_n X dX5_isSame_156 7 rfl rfl ?_
                            refine tw_iload X dX5_isSame_157 3 rfl ?_
                            refine tw_callV X (As := [.int (enc ((i : Int)))]) (st := []) vw_X5_85 (m_X4_lengthOf (q := q) N sN oN U sU oU A ((i : Int)) (by omega) B hF (by omega)) ([]) (wS G cy qs rr tt N g) rfl rfl (q0 := 0) rfl rfl rfl ⟨rfl, rfl, Nat.le_of_ble_eq_true rfl, Nat.le_of_ble_eq_true rfl⟩ ⟨Nat.le_of_ble_eq_true rfl, Nat.le_of_ble_eq_true rfl⟩ (Nat.le_of_ble_eq_true rfl) dX5_isSame_159 (fun v w1 hp => ?_)
                            obtain ⟨rfl, rfl⟩ := hp
                            refine Teq (ws' := wD cy q N sN oN U sU oU A ++ wS G cy qs rr tt N g) (lv' := [(5, .int (enc ((sumL N i) + (len N (i : Int))))), (3, .int (enc ((cntC N i) + 1))), (7, .ref (rr ((i : Int)).toNat)), (6, .int (enc ((i : Int)))), (4, .int (enc ((mostW N i).1))), (2, .int (enc (N 16 0))), (0, .ref (qs 0)), (1, .ref (q 0))]) (st' := [.int (enc (len N (i : Int)))]) rfl rfl rfl ?_
                            refine tw_aload X dX5_isSame_162 2 rfl ?_
                            refine sr_length X sw_X5_22 (g := g) (M := N) (r := (i : Int)) (wD cy q N sN oN U sU oU A) rfl (by omega) (Nat.le_of_ble_eq_true rfl) (Nat.le_of_ble_eq_true rfl) ⟨(show 0 ≤ 0 by omega), (show 0 ≤ 0 by omega)⟩ (Nat.le_of_ble_eq_true rfl) dX5_isSame_164 ?_
                            refine tw_icmp_ne (tgt := 225) X (In_of (by omega) (by omega)) (In_of (by omega) (by omega)) dX5_isSame_167 (by decide) (fun c167 => ?_) (fun c167 => ?_)
                            · skip
                              exact absurd rfl c167
                            · skip
                              refine tw_aload_n X dX5_isSame_170 7 rfl rfl ?_
                              refine tw_iload X dX5_isSame_171 3 rfl ?_
                              refine tw_callV X (As := [.int (enc ((i : Int)))]) (st := []) vw_X5_88 (m_X4_wearOf (q := q) N sN oN U sU oU A ((i : Int)) (by omega) B hF (by omega)) ([]) (wS G cy qs rr tt N g) rfl rfl (q0 := 0) rfl rfl rfl ⟨rfl, rfl, Nat.le_of_ble_eq_true rfl, Nat.le_of_ble_eq_true rfl⟩ ⟨Nat.le_of_ble_eq_true rfl, Nat.le_of_ble_eq_true rfl⟩ (Nat.le_of_ble_eq_true rfl) dX5_isSame_173 (fun v w1 hp => ?_)
                              obtain ⟨rfl, rfl⟩ := hp
                              refine Teq (ws' := wD cy q N sN oN U sU oU A ++ wS G cy qs rr tt N g) (lv' := [(5, .int (enc ((sumL N i) + (len N (i : Int))))), (3, .int (enc ((cntC N i) + 1))), (7, .ref (rr ((i : Int)).toNat)), (6, .int (enc ((i : Int)))), (4, .int (enc ((mostW N i).1))), (2, .int (enc (N 16 0))), (0, .ref (qs 0)), (1, .ref (q 0))]) (st' := [.int (enc (N 4 (i : Int)))]) rfl rfl rfl ?_
                              have b57 := hB 4 (i : Int)
                              refine tw_aload X dX5_isSame_176 2 rfl ?_
                              refine tw_iconst X dX5_isSame_178 ?_
                              refine sr_ldR X (g := g) (M := N) (r := (i : Int)) (v := N 4 (i : Int)) (wD cy q N sN oN U sU oU A) rfl (by omega) (by decide) rfl dX5_isSame_179 ?_
                              have b58 := hB 4 (i : Int)
                              refine tw_icmp_ne (tgt := 225) X (In_of (by omega) (by omega)) (In_of (by omega) (by omega)) dX5_isSame_180 (by decide) (fun c180 => ?_) (fun c180 => ?_)
                              · skip
                                exact absurd rfl c180
                              · skip
                                refine tw_aload_n X dX5_isSame_183 7 rfl rfl ?_
                                refine tw_iload X dX5_isSame_184 3 rfl ?_
                                refine tw_callV X (As := [.int (enc ((i : Int)))]) (st := []) vw_X5_91 (m_X4_knotsOf (q := q) N sN oN U sU oU A ((i : Int)) (by omega) B hF (by omega)) ([]) (wS G cy qs rr tt N g) rfl rfl (q0 := 0) rfl rfl rfl ⟨rfl, rfl, Nat.le_of_ble_eq_true rfl, Nat.le_of_ble_eq_true rfl⟩ ⟨Nat.le_of_ble_eq_true rfl, Nat.le_of_ble_eq_true rfl⟩ (Nat.le_of_ble_eq_true rfl) dX5_isSame_186 (fun v w1 hp => ?_)
                                obtain ⟨rfl, rfl⟩ := hp
                                refine Teq (ws' := wD cy q N sN oN U sU oU A ++ wS G cy qs rr tt N g) (lv' := [(5, .int (enc ((sumL N i) + (len N (i : Int))))), (3, .int (enc ((cntC N i) + 1))), (7, .ref (rr ((i : Int)).toNat)), (6, .int (enc ((i : Int)))), (4, .int (enc ((mostW N i).1))), (2, .int (enc (N 16 0))), (0, .ref (qs 0)), (1, .ref (q 0))]) (st' := [.int (enc (N 5 (i : Int)))]) rfl rfl rfl ?_
                                have b59 := hB 5 (i : Int)
                                refine tw_aload X dX5_isSame_189 2 rfl ?_
                                refine tw_bipush X dX5_isSame_191 (by decide) ?_
                                refine sr_ldR X (g := g) (M := N) (r := (i : Int)) (v := N 5 (i : Int)) (wD cy q N sN oN U sU oU A) rfl (by omega) (by decide) rfl dX5_isSame_193 ?_
                                have b60 := hB 5 (i : Int)
                                refine tw_icmp_ne (tgt := 225) X (In_of (by omega) (by omega)) (In_of (by omega) (by omega)) dX5_isSame_194 (by decide) (fun c194 => ?_) (fun c194 => ?_)
                                · skip
                                  exact absurd rfl c194
                                · skip
                                  refine tw_aload_n X dX5_isSame_197 7 rfl rfl ?_
                                  refine tw_iload X dX5_isSame_198 3 rfl ?_
                                  refine tw_callV X (As := [.int (enc ((i : Int)))]) (st := []) vw_X5_94 (m_X4_closedFor (q := q) N sN oN U sU oU A ((i : Int)) (by omega) B hF (by omega)) ([]) (wS G cy qs rr tt N g) rfl rfl (q0 := 0) rfl rfl rfl ⟨rfl, rfl, Nat.le_of_ble_eq_true rfl, Nat.le_of_ble_eq_true rfl⟩ ⟨Nat.le_of_ble_eq_true rfl, Nat.le_of_ble_eq_true rfl⟩ (Nat.le_of_ble_eq_true rfl) dX5_isSame_200 (fun v w1 hp => ?_)
                                  obtain ⟨rfl, rfl⟩ := hp
                                  refine Teq (ws' := wD cy q N sN oN U sU oU A ++ wS G cy qs rr tt N g) (lv' := [(5, .int (enc ((sumL N i) + (len N (i : Int))))), (3, .int (enc ((cntC N i) + 1))), (7, .ref (rr ((i : Int)).toNat)), (6, .int (enc ((i : Int)))), (4, .int (enc ((mostW N i).1))), (2, .int (enc (N 16 0))), (0, .ref (qs 0)), (1, .ref (q 0))]) (st' := [.int (enc (N 6 (i : Int)))]) rfl rfl rfl ?_
                                  have b61 := hB 6 (i : Int)
                                  refine tw_aload X dX5_isSame_203 2 rfl ?_
                                  refine tw_iconst X dX5_isSame_205 ?_
                                  refine sr_ldR X (g := g) (M := N) (r := (i : Int)) (v := N 6 (i : Int)) (wD cy q N sN oN U sU oU A) rfl (by omega) (by decide) rfl dX5_isSame_206 ?_
                                  have b62 := hB 6 (i : Int)
                                  refine tw_icmp_ne (tgt := 225) X (In_of (by omega) (by omega)) (In_of (by omega) (by omega)) dX5_isSame_207 (by decide) (fun c207 => ?_) (fun c207 => ?_)
                                  · skip
                                    exact absurd rfl c207
                                  · skip
                                    refine tw_aload_n X dX5_isSame_210 7 rfl rfl ?_
                                    refine tw_iload X dX5_isSame_211 3 rfl ?_
                                    refine tw_callV X (As := [.int (enc ((i : Int)))]) (st := []) vw_X5_97 (m_X4_touristsOn (q := q) N sN oN U sU oU A ((i : Int)) (by omega) B hF (by omega)) ([]) (wS G cy qs rr tt N g) rfl rfl (q0 := 0) rfl rfl rfl ⟨rfl, rfl, Nat.le_of_ble_eq_true rfl, Nat.le_of_ble_eq_true rfl⟩ ⟨Nat.le_of_ble_eq_true rfl, Nat.le_of_ble_eq_true rfl⟩ (Nat.le_of_ble_eq_true rfl) dX5_isSame_213 (fun v w1 hp => ?_)
                                    obtain ⟨rfl, rfl⟩ := hp
                                    refine Teq (ws' := wD cy q N sN oN U sU oU A ++ wS G cy qs rr tt N g) (lv' := [(5, .int (enc ((sumL N i) + (len N (i : Int))))), (3, .int (enc ((cntC N i) + 1))), (7, .ref (rr ((i : Int)).toNat)), (6, .int (enc ((i : Int)))), (4, .int (enc ((mostW N i).1))), (2, .int (enc (N 16 0))), (0, .ref (qs 0)), (1, .ref (q 0))]) (st' := [.int (enc (onR N (i : Int) (N 17 0).toNat))]) rfl rfl rfl ?_
                                    have hon := onR_rng N (i : Int) (N 17 0).toNat
                                    refine tw_aload_n X dX5_isSame_216 6 rfl rfl ?_
                                    refine tw_iload X dX5_isSame_217 3 rfl ?_
                                    refine tw_callV X (As := [.int (enc ((i : Int)))]) (st := [.int (enc (onR N (i : Int) (N 17 0).toNat))]) vw_X5_45 (m_X5_on (q := qs) (rr := rr) (tt := tt) N g B hF (by omega) ((i : Int)) (by omega)) (wD cy q N sN oN U sU oU A) ([]) (sY _ _) rfl (q0 := 0) rfl rfl rfl ⟨rfl, rfl, Nat.le_of_ble_eq_true rfl, Nat.le_of_ble_eq_true rfl⟩ ⟨Nat.le_of_ble_eq_true rfl, Nat.le_of_ble_eq_true rfl⟩ (Nat.le_of_ble_eq_true rfl) dX5_isSame_219 (fun v w1 hp => ?_)
                                    obtain ⟨rfl, rfl⟩ := hp
                                    refine Teq (ws' := wD cy q N sN oN U sU oU A ++ wS G cy qs rr tt N g) (lv' := [(5, .int (enc ((sumL N i) + (len N (i : Int))))), (3, .int (enc ((cntC N i) + 1))), (7, .ref (rr ((i : Int)).toNat)), (6, .int (enc ((i : Int)))), (4, .int (enc ((mostW N i).1))), (2, .int (enc (N 16 0))), (0, .ref (qs 0)), (1, .ref (q 0))]) (st' := [.int (enc (onR N (i : Int) (N 17 0).toNat)), .int (enc (onR N (i : Int) (N 17 0).toNat))]) (sY _ _).symm rfl rfl ?_
                                    refine tw_icmp_eq (tgt := 227) X (In_of (by omega) (by omega)) (In_of (by omega) (by omega)) dX5_isSame_222 (by decide) (fun c222 => ?_) (fun c222 => ?_)
                                    · skip
                                      refine tw_iinc (q := 3) (x := (i : Int)) (y := (i : Int) + 1) (lv' := [(6, .int (enc ((i : Int) + 1))), (5, .int (enc ((sumL N i) + (len N (i : Int))))), (3, .int (enc ((cntC N i) + 1))), (7, .ref (rr ((i : Int)).toNat)), (4, .int (enc ((mostW N i).1))), (2, .int (enc (N 16 0))), (0, .ref (qs 0)), (1, .ref (q 0))]) X dX5_isSame_227 rfl rfl (by decide) rfl ?_
                                      refine tw_goto (tgt := 84) X dX5_isSame_230 (by decide) ?_
                                      refine Tsub (lv' := [(6, .int (enc ((i : Int) + 1))), (5, .int (enc ((sumL N i) + (len N (i : Int))))), (4, .int (enc ((mostW N i).1))), (3, .int (enc ((cntC N i) + 1))), (2, .int (enc (N 16 0))), (0, .ref (qs 0)), (1, .ref (q 0))]) [0, 1, 4, 2, 5, 6, 7] rfl ?_
                                      refine Teq (ws' := wD cy q N sN oN U sU oU A ++ wS G cy qs rr tt N g) (lv' := [(6, .int (enc (((i + 1 : Nat) : Int)))), (5, .int (enc (sumL N (i + 1)))), (4, .int (enc ((mostW N (i + 1)).1))), (3, .int (enc (cntC N (i + 1)))), (2, .int (enc (N 16 0))), (0, .ref (qs 0)), (1, .ref (q 0))]) (st' := []) (rfl) (lvc (i_succ i) (lvc (by rw [sumL_s]) (lvc hwn (lvc (by rw [cntC_s]; split <;> omega) rfl)))) rfl (ih84 (i + 1) (by omega) (by omega))
                                    · skip
                                      exact absurd rfl c222
                          · skip
                            have hwn : (i : Int) = (mostW N (i + 1)).1 := by rw [mostW_y c128 (by omega)]
                            refine tw_iload X dX5_isSame_152 3 rfl ?_
                            refine tw_istore (lv' := [(4, .int (enc ((i : Int)))), (5, .int (enc ((sumL N i) + (len N (i : Int))))), (3, .int (enc ((cntC N i) + 1))), (7, .ref (rr ((i : Int)).toNat)), (6, .int (enc ((i : Int)))), (2, .int (enc (N 16 0))), (0, .ref (qs 0)), (1, .ref (q 0))]) X dX5_isSame_154 (by decide) rfl ?_
                            refine tw_aload_n X dX5_isSame_156 7 rfl rfl ?_
                            refine tw_iload X dX5_isSame_157 4 rfl ?_
                            refine tw_callV X (As := [.int (enc ((i : Int)))]) (st := []) vw_X5_85 (m_X4_lengthOf (q := q) N sN oN U sU oU A ((i : Int)) (by omega) B hF (by omega)) ([]) (wS G cy qs rr tt N g) rfl rfl (q0 := 0) rfl rfl rfl ⟨rfl, rfl, Nat.le_of_ble_eq_true rfl, Nat.le_of_ble_eq_true rfl⟩ ⟨Nat.le_of_ble_eq_true rfl, Nat.le_of_ble_eq_true rfl⟩ (Nat.le_of_ble_eq_true rfl) dX5_isSame_159 (fun v w1 hp => ?_)
                            obtain ⟨rfl, rfl⟩ := hp
                            refine Teq (ws' := wD cy q N sN oN U sU oU A ++ wS G cy qs rr tt N g) (lv' := [(4, .int (enc ((i : Int)))), (5, .int (enc ((sumL N i) + (len N (i : Int))))), (3, .int (enc ((cntC N i) + 1))), (7, .ref (rr ((i : Int)).toNat)), (6, .int (enc ((i : Int)))), (2, .int (enc (N 16 0))), (0, .ref (qs 0)), (1, .ref (q 0))]) (st' := [.int (enc (len N (i : Int)))]) rfl rfl rfl ?_
                            refine tw_aload X dX5_isSame_162 3 rfl ?_
                            refine sr_length X sw_X5_22 (g := g) (M := N) (r := (i : Int)) (wD cy q N sN oN U sU oU A) rfl (by omega) (Nat.le_of_ble_eq_true rfl) (Nat.le_of_ble_eq_true rfl) ⟨(show 0 ≤ 0 by omega), (show 0 ≤ 0 by omega)⟩ (Nat.le_of_ble_eq_true rfl) dX5_isSame_164 ?_
                            refine tw_icmp_ne (tgt := 225) X (In_of (by omega) (by omega)) (In_of (by omega) (by omega)) dX5_isSame_167 (by decide) (fun c167 => ?_) (fun c167 => ?_)
                            · skip
                              exact absurd rfl c167
                            · skip
                              refine tw_aload_n X dX5_isSame_170 7 rfl rfl ?_
                              refine tw_iload X dX5_isSame_171 4 rfl ?_
                              refine tw_callV X (As := [.int (enc ((i : Int)))]) (st := []) vw_X5_88 (m_X4_wearOf (q := q) N sN oN U sU oU A ((i : Int)) (by omega) B hF (by omega)) ([]) (wS G cy qs rr tt N g) rfl rfl (q0 := 0) rfl rfl rfl ⟨rfl, rfl, Nat.le_of_ble_eq_true rfl, Nat.le_of_ble_eq_true rfl⟩ ⟨Nat.le_of_ble_eq_true rfl, Nat.le_of_ble_eq_true rfl⟩ (Nat.le_of_ble_eq_true rfl) dX5_isSame_173 (fun v w1 hp => ?_)
                              obtain ⟨rfl, rfl⟩ := hp
                              refine Teq (ws' := wD cy q N sN oN U sU oU A ++ wS G cy qs rr tt N g) (lv' := [(4, .int (enc ((i : Int)))), (5, .int (enc ((sumL N i) + (len N (i : Int))))), (3, .int (enc ((cntC N i) + 1))), (7, .ref (rr ((i : Int)).toNat)), (6, .int (enc ((i : Int)))), (2, .int (enc (N 16 0))), (0, .ref (qs 0)), (1, .ref (q 0))]) (st' := [.int (enc (N 4 (i : Int)))]) rfl rfl rfl ?_
                              have b63 := hB 4 (i : Int)
                              refine tw_aload X dX5_isSame_176 3 rfl ?_
                              refine tw_iconst X dX5_isSame_178 ?_
                              refine sr_ldR X (g := g) (M := N) (r := (i : Int)) (v := N 4 (i : Int)) (wD cy q N sN oN U sU oU A) rfl (by omega) (by decide) rfl dX5_isSame_179 ?_
                              have b64 := hB 4 (i : Int)
                              refine tw_icmp_ne (tgt := 225) X (In_of (by omega) (by omega)) (In_of (by omega) (by omega)) dX5_isSame_180 (by decide) (fun c180 => ?_) (fun c180 => ?_)
                              · skip
                                exact absurd rfl c180
                              · skip
                                refine tw_aload_n X dX5_isSame_183 7 rfl rfl ?_
                                refine tw_iload X dX5_isSame_184 4 rfl ?_
                                refine tw_callV X (As := [.int (enc ((i : Int)))]) (st := []) vw_X5_91 (m_X4_knotsOf (q := q) N sN oN U sU oU A ((i : Int)) (by omega) B hF (by omega)) ([]) (wS G cy qs rr tt N g) rfl rfl (q0 := 0) rfl rfl rfl ⟨rfl, rfl, Nat.le_of_ble_eq_true rfl, Nat.le_of_ble_eq_true rfl⟩ ⟨Nat.le_of_ble_eq_true rfl, Nat.le_of_ble_eq_true rfl⟩ (Nat.le_of_ble_eq_true rfl) dX5_isSame_186 (fun v w1 hp => ?_)
                                obtain ⟨rfl, rfl⟩ := hp
                                refine Teq (ws' := wD cy q N sN oN U sU oU A ++ wS G cy qs rr tt N g) (lv' := [(4, .int (enc ((i : Int)))), (5, .int (enc ((sumL N i) + (len N (i : Int))))), (3, .int (enc ((cntC N i) + 1))), (7, .ref (rr ((i : Int)).toNat)), (6, .int (enc ((i : Int)))), (2, .int (enc (N 16 0))), (0, .ref (qs 0)), (1, .ref (q 0))]) (st' := [.int (enc (N 5 (i : Int)))]) rfl rfl rfl ?_
                                have b65 := hB 5 (i : Int)
                                refine tw_aload X dX5_isSame_189 3 rfl ?_
                                refine tw_bipush X dX5_isSame_191 (by decide) ?_
                                refine sr_ldR X (g := g) (M := N) (r := (i : Int)) (v := N 5 (i : Int)) (wD cy q N sN oN U sU oU A) rfl (by omega) (by decide) rfl dX5_isSame_193 ?_
                                have b66 := hB 5 (i : Int)
                                refine tw_icmp_ne (tgt := 225) X (In_of (by omega) (by omega)) (In_of (by omega) (by omega)) dX5_isSame_194 (by decide) (fun c194 => ?_) (fun c194 => ?_)
                                · skip
                                  exact absurd rfl c194
                                · skip
                                  refine tw_aload_n X dX5_isSame_197 7 rfl rfl ?_
                                  refine tw_iload X dX5_isSame_198 4 rfl ?_
                                  refine tw_callV X (As := [.int (enc ((i : Int)))]) (st := []) vw_X5_94 (m_X4_closedFor (q := q) N sN oN U sU oU A ((i : Int)) (by omega) B hF (by omega)) ([]) (wS G cy qs rr tt N g) rfl rfl (q0 := 0) rfl rfl rfl ⟨rfl, rfl, Nat.le_of_ble_eq_true rfl, Nat.le_of_ble_eq_true rfl⟩ ⟨Nat.le_of_ble_eq_true rfl, Nat.le_of_ble_eq_true rfl⟩ (Nat.le_of_ble_eq_true rfl) dX5_isSame_200 (fun v w1 hp => ?_)
                                  obtain ⟨rfl, rfl⟩ := hp
                                  refine Teq (ws' := wD cy q N sN oN U sU oU A ++ wS G cy qs rr tt N g) (lv' := [(4, .int (enc ((i : Int)))), (5, .int (enc ((sumL N i) + (len N (i : Int))))), (3, .int (enc ((cntC N i) + 1))), (7, .ref (rr ((i : Int)).toNat)), (6, .int (enc ((i : Int)))), (2, .int (enc (N 16 0))), (0, .ref (qs 0)), (1, .ref (q 0))]) (st' := [.int (enc (N 6 (i : Int)))]) rfl rfl rfl ?_
                                  have b67 := hB 6 (i : Int)
                                  refine tw_aload X dX5_isSame_203 3 rfl ?_
                                  refine tw_iconst X dX5_isSame_205 ?_
                                  refine sr_ldR X (g := g) (M := N) (r := (i : Int)) (v := N 6 (i : Int)) (wD cy q N sN oN U sU oU A) rfl (by omega) (by decide) rfl dX5_isSame_206 ?_
                                  have b68 := hB 6 (i : Int)
                                  refine tw_icmp_ne (tgt := 225) X (In_of (by omega) (by omega)) (In_of (by omega) (by omega)) dX5_isSame_207 (by decide) (fun c207 => ?_) (fun c207 => ?_)
                                  · skip
                                    exact absurd rfl c207
                                  · skip
                                    refine tw_aload_n X dX5_isSame_210 7 rfl rfl ?_
                                    refine tw_iload X dX5_isSame_211 4 rfl ?_
                                    refine tw_callV X (As := [.int (enc ((i : Int)))]) (st := []) vw_X5_97 (m_X4_touristsOn (q := q) N sN oN U sU oU A ((i : Int)) (by omega) B hF (by omega)) ([]) (wS G cy qs rr tt N g) rfl rfl (q0 := 0) rfl rfl rfl ⟨rfl, rfl, Nat.le_of_ble_eq_true rfl, Nat.le_of_ble_eq_true rfl⟩ ⟨Nat.le_of_ble_eq_true rfl, Nat.le_of_ble_eq_true rfl⟩ (Nat.le_of_ble_eq_true rfl) dX5_isSame_213 (fun v w1 hp => ?_)
                                    obtain ⟨rfl, rfl⟩ := hp
                                    refine Teq (ws' := wD cy q N sN oN U sU oU A ++ wS G cy qs rr tt N g) (lv' := [(4, .int (enc ((i : Int)))), (5, .int (enc ((sumL N i) + (len N (i : Int))))), (3, .int (enc ((cntC N i) + 1))), (7, .ref (rr ((i : Int)).toNat)), (6, .int (enc ((i : Int)))), (2, .int (enc (N 16 0))), (0, .ref (qs 0)), (1, .ref (q 0))]) (st' := [.int (enc (onR N (i : Int) (N 17 0).toNat))]) rfl rfl rfl ?_
                                    have hon := onR_rng N (i : Int) (N 17 0).toNat
                                    refine tw_aload_n X dX5_isSame_216 6 rfl rfl ?_
                                    refine tw_iload X dX5_isSame_217 4 rfl ?_
                                    refine tw_callV X (As := [.int (enc ((i : Int)))]) (st := [.int (enc (onR N (i : Int) (N 17 0).toNat))]) vw_X5_45 (m_X5_on (q := qs) (rr := rr) (tt := tt) N g B hF (by omega) ((i : Int)) (by omega)) (wD cy q N sN oN U sU oU A) ([]) (sY _ _) rfl (q0 := 0) rfl rfl rfl ⟨rfl, rfl, Nat.le_of_ble_eq_true rfl, Nat.le_of_ble_eq_true rfl⟩ ⟨Nat.le_of_ble_eq_true rfl, Nat.le_of_ble_eq_true rfl⟩ (Nat.le_of_ble_eq_true rfl) dX5_isSame_219 (fun v w1 hp => ?_)
                                    obtain ⟨rfl, rfl⟩ := hp
                                    refine Teq (ws' := wD cy q N sN oN U sU oU A ++ wS G cy qs rr tt N g) (lv' := [(4, .int (enc ((i : Int)))), (5, .int (enc ((sumL N i) + (len N (i : Int))))), (3, .int (enc ((cntC N i) + 1))), (7, .ref (rr ((i : Int)).toNat)), (6, .int (enc ((i : Int)))), (2, .int (enc (N 16 0))), (0, .ref (qs 0)), (1, .ref (q 0))]) (st' := [.int (enc (onR N (i : Int) (N 17 0).toNat)), .int (enc (onR N (i : Int) (N 17 0).toNat))]) (sY _ _).symm rfl rfl ?_
                                    refine tw_icmp_eq (tgt := 227) X (In_of (by omega) (by omega)) (In_of (by omega) (by omega)) dX5_isSame_222 (by decide) (fun c222 => ?_) (fun c222 => ?_)
                                    · skip
                                      refine tw_iinc (q := 4) (x := (i : Int)) (y := (i : Int) + 1) (lv' := [(6, .int (enc ((i : Int) + 1))), (4, .int (enc ((i : Int)))), (5, .int (enc ((sumL N i) + (len N (i : Int))))), (3, .int (enc ((cntC N i) + 1))), (7, .ref (rr ((i : Int)).toNat)), (2, .int (enc (N 16 0))), (0, .ref (qs 0)), (1, .ref (q 0))]) X dX5_isSame_227 rfl rfl (by decide) rfl ?_
                                      refine tw_goto (tgt := 84) X dX5_isSame_230 (by decide) ?_
                                      refine Tsub (lv' := [(6, .int (enc ((i : Int) + 1))), (5, .int (enc ((sumL N i) + (len N (i : Int))))), (4, .int (enc ((i : Int)))), (3, .int (enc ((cntC N i) + 1))), (2, .int (enc (N 16 0))), (0, .ref (qs 0)), (1, .ref (q 0))]) [0, 2, 1, 3, 5, 6, 7] rfl ?_
                                      refine Teq (ws' := wD cy q N sN oN U sU oU A ++ wS G cy qs rr tt N g) (lv' := [(6, .int (enc (((i + 1 : Nat) : Int)))), (5, .int (enc (sumL N (i + 1)))), (4, .int (enc ((mostW N (i + 1)).1))), (3, .int (enc (cntC N (i + 1)))), (2, .int (enc (N 16 0))), (0, .ref (qs 0)), (1, .ref (q 0))]) (st' := []) (rfl) (lvc (i_succ i) (lvc (by rw [sumL_s]) (lvc hwn (lvc (by rw [cntC_s]; split <;> omega) rfl)))) rfl (ih84 (i + 1) (by omega) (by omega))
                                    · skip
                                      exact absurd rfl c222
              refine Teq (ws' := wD cy q N sN oN U sU oU A ++ wS G cy qs rr tt N g) (lv' := [(6, .int (enc (((0 : Nat) : Int)))), (5, .int (enc (sumL N 0))), (4, .int (enc ((mostW N 0).1))), (3, .int (enc (cntC N 0))), (2, .int (enc (N 16 0))), (0, .ref (qs 0)), (1, .ref (q 0))]) (st' := []) (rfl) (rfl) rfl (L84 (N 16 0 + 1).toNat 0 (by omega) (by omega))
            · skip
              exact absurd rfl c68
