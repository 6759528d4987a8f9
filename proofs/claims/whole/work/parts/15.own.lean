/-! THE CLASS: its own methods that throw nothing -/
def cpR (U N : MT) : MT := upf (upf (upf (upf (upf (upf (upf (upf U 0 (N 0)) 1 (N 1)) 2 (N 2)) 3 (N 3)) 4 (N 4)) 5 (N 5)) 6 (N 6)) 16 (N 16)
def cpT (U N : MT) : MT := upf (upf (upf (upf (upf (upf (upf (upf (upf (upf (upf U 7 (N 7)) 8 (N 8)) 9 (N 9)) 10 (N 10)) 11 (N 11)) 12 (N 12)) 13 (N 13)) 14 (N 14)) 15 (N 15)) 17 (N 17)) 18 (N 18)
set_option maxRecDepth 100000 in
set_option maxHeartbeats 4000000 in
theorem m_X3_copyFrom {G : va_G} {cy : ClassId} {q : Nat → Nat} (N : MT) (sN : Int → Int) (oN : Int) (U : MT) (sU : Int → Int) (oU : Int) (ho : oN = 0 ∨ oN = 1) : Ct G cy yX3_copyFrom cX3_copyFrom 2 none ({ frames := 2, cells := 0, slots := 0, locals := 69 } : Room) 0 0 [.ref (q 21), .ref (q 0)] (wV cy q N sN oN ++ wV cy (fun i => q (21 + i)) U sU oU) (fun v w1 => v = none ∧ w1 = wV cy q N sN oN ++ wV cy (fun i => q (21 + i)) N sN oN) := by
  refine Ct.ofV (by decide) (Nat.le_of_ble_eq_true rfl) rfl rfl ?_
  intro c X ret
  refine Tlv (lv' := [(0, .ref (q 21)), (1, .ref (q 0))]) rfl ?_
  refine tw_aload_n X dX3_copyFrom_0 0 rfl rfl ?_
  refine gf_X3_12 X (v := .ref (q 22)) 21 rfl rfl dX3_copyFrom_1 ?_
  refine tw_aload_n X dX3_copyFrom_4 1 rfl rfl ?_
  refine gf_X3_12 X (v := .ref (q 1)) 0 rfl rfl dX3_copyFrom_5 ?_
  refine Tperm (ws' := (([(q 0, .inr (3, [.ref (q 1), .ref (q 9), .ref (q 19), .int (enc (N 19 0)), .int (enc (N 20 0)), .int (enc (oN))]))]) ++ (wT cy (fun i => q (9 + i)) N) ++ (wY cy (fun i => q (19 + i)) sN) ++ ([(q 21, .inr (3, [.ref (q 22), .ref (q 30), .ref (q 40), .int (enc (U 19 0)), .int (enc (U 20 0)), .int (enc (oU))]))]) ++ (wT cy (fun i => q (30 + i)) U) ++ (wY cy (fun i => q (40 + i)) sU)) ++ ((wR cy (fun i => q (22 + i)) U) ++ (wR cy (fun i => q (1 + i)) N))) [0, 9, 10, 11, 12, 13, 14, 15, 16, 17, 18, 19, 20, 21, 30, 31, 32, 33, 34, 35, 36, 37, 38, 39, 40, 41, 22, 23, 24, 25, 26, 27, 28, 29, 1, 2, 3, 4, 5, 6, 7, 8] rfl rfl rfl ?_
  refine tw_callV X (As := [.ref (q 1)]) (st := []) vw_X3_32 (m_X0_copyFrom (q := (fun i => cond (Nat.blt i 8) (q (22 + (i - 0))) (q (1 + (i - 8))))) U N) (([(q 0, .inr (3, [.ref (q 1), .ref (q 9), .ref (q 19), .int (enc (N 19 0)), .int (enc (N 20 0)), .int (enc (oN))]))]) ++ (wT cy (fun i => q (9 + i)) N) ++ (wY cy (fun i => q (19 + i)) sN) ++ ([(q 21, .inr (3, [.ref (q 22), .ref (q 30), .ref (q 40), .int (enc (U 19 0)), .int (enc (U 20 0)), .int (enc (oU))]))]) ++ (wT cy (fun i => q (30 + i)) U) ++ (wY cy (fun i => q (40 + i)) sU)) ([]) rfl rfl (q0 := 0) rfl rfl rfl ⟨rfl, rfl, Nat.le_of_ble_eq_true rfl, Nat.le_of_ble_eq_true rfl⟩ ⟨Nat.le_of_ble_eq_true rfl, Nat.le_of_ble_eq_true rfl⟩ (Nat.le_of_ble_eq_true rfl) dX3_copyFrom_8 (fun v w1 hp => ?_)
  obtain ⟨rfl, rfl⟩ := hp
  refine Teq (ws' := (([(q 0, .inr (3, [.ref (q 1), .ref (q 9), .ref (q 19), .int (enc (N 19 0)), .int (enc (N 20 0)), .int (enc (oN))]))]) ++ (wT cy (fun i => q (9 + i)) N) ++ (wY cy (fun i => q (19 + i)) sN) ++ ([(q 21, .inr (3, [.ref (q 22), .ref (q 30), .ref (q 40), .int (enc (U 19 0)), .int (enc (U 20 0)), .int (enc (oU))]))]) ++ (wT cy (fun i => q (30 + i)) (cpR U N)) ++ (wY cy (fun i => q (40 + i)) sU)) ++ ((wR cy (fun i => q (22 + i)) (cpR U N)) ++ (wR cy (fun i => q (1 + i)) N))) (lv' := [(0, .ref (q 21)), (1, .ref (q 0))]) (st' := []) rfl rfl rfl ?_
  refine Tperm (ws' := wV cy q N sN oN ++ wV cy (fun i => q (21 + i)) (cpR U N) sU oU) [0, 34, 35, 36, 37, 38, 39, 40, 41, 1, 2, 3, 4, 5, 6, 7, 8, 9, 10, 11, 12, 13, 26, 27, 28, 29, 30, 31, 32, 33, 14, 15, 16, 17, 18, 19, 20, 21, 22, 23, 24, 25] rfl rfl rfl ?_
  refine tw_aload_n X dX3_copyFrom_11 0 rfl rfl ?_
  refine gf_X3_21 X (v := .ref (q 30)) 21 rfl rfl dX3_copyFrom_12 ?_
  refine tw_aload_n X dX3_copyFrom_15 1 rfl rfl ?_
  refine gf_X3_21 X (v := .ref (q 9)) 0 rfl rfl dX3_copyFrom_16 ?_
  refine Tperm (ws' := (([(q 0, .inr (3, [.ref (q 1), .ref (q 9), .ref (q 19), .int (enc (N 19 0)), .int (enc (N 20 0)), .int (enc (oN))]))]) ++ (wR cy (fun i => q (1 + i)) N) ++ (wY cy (fun i => q (19 + i)) sN) ++ ([(q 21, .inr (3, [.ref (q 22), .ref (q 30), .ref (q 40), .int (enc (U 19 0)), .int (enc (U 20 0)), .int (enc (oU))]))]) ++ (wR cy (fun i => q (22 + i)) (cpR U N)) ++ (wY cy (fun i => q (40 + i)) sU)) ++ ((wT cy (fun i => q (30 + i)) (cpR U N)) ++ (wT cy (fun i => q (9 + i)) N))) [0, 1, 2, 3, 4, 5, 6, 7, 8, 19, 20, 21, 22, 23, 24, 25, 26, 27, 28, 29, 40, 41, 30, 31, 32, 33, 34, 35, 36, 37, 38, 39, 9, 10, 11, 12, 13, 14, 15, 16, 17, 18] rfl rfl rfl ?_
  refine tw_callV X (As := [.ref (q 9)]) (st := []) vw_X3_36 (m_X1_copyFrom (q := (fun i => cond (Nat.blt i 10) (q (30 + (i - 0))) (q (9 + (i - 10))))) (cpR U N) N) (([(q 0, .inr (3, [.ref (q 1), .ref (q 9), .ref (q 19), .int (enc (N 19 0)), .int (enc (N 20 0)), .int (enc (oN))]))]) ++ (wR cy (fun i => q (1 + i)) N) ++ (wY cy (fun i => q (19 + i)) sN) ++ ([(q 21, .inr (3, [.ref (q 22), .ref (q 30), .ref (q 40), .int (enc (U 19 0)), .int (enc (U 20 0)), .int (enc (oU))]))]) ++ (wR cy (fun i => q (22 + i)) (cpR U N)) ++ (wY cy (fun i => q (40 + i)) sU)) ([]) rfl rfl (q0 := 0) rfl rfl rfl ⟨rfl, rfl, Nat.le_of_ble_eq_true rfl, Nat.le_of_ble_eq_true rfl⟩ ⟨Nat.le_of_ble_eq_true rfl, Nat.le_of_ble_eq_true rfl⟩ (Nat.le_of_ble_eq_true rfl) dX3_copyFrom_19 (fun v w1 hp => ?_)
  obtain ⟨rfl, rfl⟩ := hp
  refine Teq (ws' := (([(q 0, .inr (3, [.ref (q 1), .ref (q 9), .ref (q 19), .int (enc (N 19 0)), .int (enc (N 20 0)), .int (enc (oN))]))]) ++ (wR cy (fun i => q (1 + i)) N) ++ (wY cy (fun i => q (19 + i)) sN) ++ ([(q 21, .inr (3, [.ref (q 22), .ref (q 30), .ref (q 40), .int (enc (U 19 0)), .int (enc (U 20 0)), .int (enc (oU))]))]) ++ (wR cy (fun i => q (22 + i)) (cpT (cpR U N) N)) ++ (wY cy (fun i => q (40 + i)) sU)) ++ ((wT cy (fun i => q (30 + i)) (cpT (cpR U N) N)) ++ (wT cy (fun i => q (9 + i)) N))) (lv' := [(0, .ref (q 21)), (1, .ref (q 0))]) (st' := []) rfl rfl rfl ?_
  refine Tperm (ws' := wV cy q N sN oN ++ wV cy (fun i => q (21 + i)) (cpT (cpR U N) N) sU oU) [0, 1, 2, 3, 4, 5, 6, 7, 8, 32, 33, 34, 35, 36, 37, 38, 39, 40, 41, 9, 10, 11, 12, 13, 14, 15, 16, 17, 18, 19, 22, 23, 24, 25, 26, 27, 28, 29, 30, 31, 20, 21] rfl rfl rfl ?_
  refine tw_aload_n X dX3_copyFrom_22 0 rfl rfl ?_
  refine gf_X3_28 X (v := .ref (q 40)) 21 rfl rfl dX3_copyFrom_23 ?_
  refine tw_aload_n X dX3_copyFrom_26 1 rfl rfl ?_
  refine gf_X3_28 X (v := .ref (q 19)) 0 rfl rfl dX3_copyFrom_27 ?_
  refine Tperm (ws' := (([(q 0, .inr (3, [.ref (q 1), .ref (q 9), .ref (q 19), .int (enc (N 19 0)), .int (enc (N 20 0)), .int (enc (oN))]))]) ++ (wR cy (fun i => q (1 + i)) N) ++ (wT cy (fun i => q (9 + i)) N) ++ ([(q 21, .inr (3, [.ref (q 22), .ref (q 30), .ref (q 40), .int (enc (U 19 0)), .int (enc (U 20 0)), .int (enc (oU))]))]) ++ (wR cy (fun i => q (22 + i)) (cpT (cpR U N) N)) ++ (wT cy (fun i => q (30 + i)) (cpT (cpR U N) N))) ++ ((wY cy (fun i => q (40 + i)) sU) ++ (wY cy (fun i => q (19 + i)) sN))) [0, 1, 2, 3, 4, 5, 6, 7, 8, 9, 10, 11, 12, 13, 14, 15, 16, 17, 18, 21, 22, 23, 24, 25, 26, 27, 28, 29, 30, 31, 32, 33, 34, 35, 36, 37, 38, 39, 40, 41, 19, 20] rfl rfl rfl ?_
  refine tw_callV X (As := [.ref (q 19)]) (st := []) vw_X3_39 (m_X2_copyFrom (q := (fun i => cond (Nat.blt i 2) (q (40 + (i - 0))) (q (19 + (i - 2))))) sU sN) (([(q 0, .inr (3, [.ref (q 1), .ref (q 9), .ref (q 19), .int (enc (N 19 0)), .int (enc (N 20 0)), .int (enc (oN))]))]) ++ (wR cy (fun i => q (1 + i)) N) ++ (wT cy (fun i => q (9 + i)) N) ++ ([(q 21, .inr (3, [.ref (q 22), .ref (q 30), .ref (q 40), .int (enc (U 19 0)), .int (enc (U 20 0)), .int (enc (oU))]))]) ++ (wR cy (fun i => q (22 + i)) (cpT (cpR U N) N)) ++ (wT cy (fun i => q (30 + i)) (cpT (cpR U N) N))) ([]) rfl rfl (q0 := 0) rfl rfl rfl ⟨rfl, rfl, Nat.le_of_ble_eq_true rfl, Nat.le_of_ble_eq_true rfl⟩ ⟨Nat.le_of_ble_eq_true rfl, Nat.le_of_ble_eq_true rfl⟩ (Nat.le_of_ble_eq_true rfl) dX3_copyFrom_30 (fun v w1 hp => ?_)
  obtain ⟨rfl, rfl⟩ := hp
  refine Teq (ws' := (([(q 0, .inr (3, [.ref (q 1), .ref (q 9), .ref (q 19), .int (enc (N 19 0)), .int (enc (N 20 0)), .int (enc (oN))]))]) ++ (wR cy (fun i => q (1 + i)) N) ++ (wT cy (fun i => q (9 + i)) N) ++ ([(q 21, .inr (3, [.ref (q 22), .ref (q 30), .ref (q 40), .int (enc (U 19 0)), .int (enc (U 20 0)), .int (enc (oU))]))]) ++ (wR cy (fun i => q (22 + i)) (cpT (cpR U N) N)) ++ (wT cy (fun i => q (30 + i)) (cpT (cpR U N) N))) ++ ((wY cy (fun i => q (40 + i)) sN) ++ (wY cy (fun i => q (19 + i)) sN))) (lv' := [(0, .ref (q 21)), (1, .ref (q 0))]) (st' := []) rfl rfl rfl ?_
  refine Tperm (ws' := wV cy q N sN oN ++ wV cy (fun i => q (21 + i)) (cpT (cpR U N) N) sN oU) [0, 1, 2, 3, 4, 5, 6, 7, 8, 9, 10, 11, 12, 13, 14, 15, 16, 17, 18, 40, 41, 19, 20, 21, 22, 23, 24, 25, 26, 27, 28, 29, 30, 31, 32, 33, 34, 35, 36, 37, 38, 39] rfl rfl rfl ?_
  refine tw_aload_n X dX3_copyFrom_33 0 rfl rfl ?_
  refine tw_aload_n X dX3_copyFrom_34 1 rfl rfl ?_
  refine gf_X3_42 X (v := .int (enc (N 19 0))) 0 rfl rfl dX3_copyFrom_35 ?_
  refine pf_X3_42 X (ws' := wV cy q N sN oN ++ wV cy (fun i => q (21 + i)) (upc (cpT (cpR U N) N) 19 (N 19 0)) sN oU) 21 rfl (Nat.le_of_ble_eq_true rfl) rfl rfl dX3_copyFrom_38 rfl ?_
  refine tw_aload_n X dX3_copyFrom_41 0 rfl rfl ?_
  refine tw_aload_n X dX3_copyFrom_42 1 rfl rfl ?_
  refine gf_X3_46 X (v := .int (enc (N 20 0))) 0 rfl rfl dX3_copyFrom_43 ?_
  refine pf_X3_46 X (ws' := wV cy q N sN oN ++ wV cy (fun i => q (21 + i)) (upc (upc (cpT (cpR U N) N) 19 (N 19 0)) 20 (N 20 0)) sN oU) 21 rfl (Nat.le_of_ble_eq_true rfl) rfl rfl dX3_copyFrom_46 rfl ?_
  refine tw_aload_n X dX3_copyFrom_49 0 rfl rfl ?_
  refine tw_aload_n X dX3_copyFrom_50 1 rfl rfl ?_
  refine gf_X3_49 X (v := .int (enc (oN))) 0 rfl rfl dX3_copyFrom_51 ?_
  refine pf_X3_49 X (ws' := wV cy q N sN oN ++ wV cy (fun i => q (21 + i)) (upc (upc (cpT (cpR U N) N) 19 (N 19 0)) 20 (N 20 0)) sN (oN)) 21 rfl (Nat.le_of_ble_eq_true rfl) (by rcases ho with e | e <;> rw [e] <;> rfl) (by rcases ho with e | e <;> rw [e] <;> rfl) dX3_copyFrom_54 rfl ?_
  exact ret _ _ _ dX3_copyFrom_57 ⟨rfl, rfl⟩
set_option maxRecDepth 100000 in
set_option maxHeartbeats 4000000 in
theorem m_X4_foresee {G : va_G} {cy : ClassId} {q : Nat → Nat} (N : MT) (sN : Int → Int) (oN : Int) (U : MT) (sU : Int → Int) (oU : Int) (A : Int → Int) (m h : Int) (hn : Nat) (hh : h = hn) (h100 : hn ≤ 100) (B : Int) (hF : WF N B) (hB2 : B ≤ 800000) (hV : WVo N sN oN) (hm : m = -1 ∨ (0 ≤ m ∧ m < N 16 0)) : Ct G cy yX4_foresee cX4_foresee 4 none ({ frames := 4, cells := 0, slots := 0, locals := 93 } : Room) 0 0 [.ref (q 0), .int (enc (m)), .int (enc (h))] (wD cy q N sN oN U sU oU A) (fun v w1 => v = none ∧ ∃ U' sU' oU', FS N m hn U' ∧ w1 = wD cy q N sN oN U' sU' oU' A) := by
  refine Ct.ofV (by decide) (Nat.le_of_ble_eq_true rfl) rfl rfl ?_
  intro c X ret
  have h16 := hF.r.2.1
  refine Tlv (lv' := [(0, .ref (q 0)), (1, .int (enc (m))), (2, .int (enc (h)))]) rfl ?_
  refine tw_aload_n X dX4_foresee_0 0 rfl rfl ?_
  refine gf_X4_16 X (v := .ref (q 22)) 0 rfl rfl dX4_foresee_1 ?_
  refine tw_aload_n X dX4_foresee_4 0 rfl rfl ?_
  refine gf_X4_10 X (v := .ref (q 1)) 0 rfl rfl dX4_foresee_5 ?_
  refine tw_callV X (As := [.ref (q 1)]) (st := []) vw_X4_229 (m_X3_copyFrom (q := (fun i => q (1 + i))) N sN oN U sU oU hV.1) (([(q 0, .inr (4, [.ref (q 1), .ref (q 22), .ref (q 43)]))])) ((wY cy (fun i => q (43 + i)) A)) rfl rfl (q0 := 21) rfl rfl rfl ⟨rfl, rfl, Nat.le_of_ble_eq_true rfl, Nat.le_of_ble_eq_true rfl⟩ ⟨Nat.le_of_ble_eq_true rfl, Nat.le_of_ble_eq_true rfl⟩ (Nat.le_of_ble_eq_true rfl) dX4_foresee_8 (fun v w1 hp => ?_)
  obtain ⟨rfl, rfl⟩ := hp
  refine Teq (ws' := wD cy q N sN oN N sN oN A) (lv' := [(0, .ref (q 0)), (1, .int (enc (m))), (2, .int (enc (h)))]) (st' := []) rfl rfl rfl ?_
  have J24 : ∀ (s1 : Int → Int) (o1 : Int), WVo (startF N m) s1 o1 → T G c ({ frames := 4, cells := 0, slots := 0, locals := 93 } : Room) 4 0 0 (wD cy q N sN oN (startF N m) s1 o1 A) 24 [(0, .ref (q 0)), (1, .int (enc (m))), (2, .int (enc (h)))] [] := by
    intro s1 o1 hJ
    refine tw_iconst X dX4_foresee_24 ?_
    refine tw_istore_n (lv' := [(3, .int (enc (0))), (0, .ref (q 0)), (1, .int (enc (m))), (2, .int (enc (h)))]) X dX4_foresee_25 rfl (by decide) rfl ?_
    have L26 : ∀ (fu i : Nat) (s2 : Int → Int) (o2 : Int), (i : Int) ≤ h → h + 1 ≤ (i : Int) + fu → WVo (hoursM (startF N m) i) s2 o2 → T G c ({ frames := 4, cells := 0, slots := 0, locals := 93 } : Room) 4 0 0 (wD cy q N sN oN (hoursM (startF N m) i) s2 o2 A) 26 [(0, .ref (q 0)), (1, .int (enc (m))), (2, .int (enc (h))), (3, .int (enc ((i : Int))))] [] := by
      intro fu
      induction fu with
      | zero =>
        intro i s2 o2 hi0 hi1
        exact absurd hi1 (by omega)
      | succ fu ih26 =>
        intro i s2 o2 hi0_26 hi1_26 hVi
        have hWi := (hF.start m).hours i
        have hBi := hWi.bd (by omega)
        refine tw_iload_n X dX4_foresee_26 3 rfl rfl ?_
        refine tw_iload_n X dX4_foresee_27 2 rfl rfl ?_
        refine tw_icmp_ge (tgt := 67) X (In_of (by omega) (by omega)) (In_of (by omega) (by omega)) dX4_foresee_28 (by decide) (fun c28 => ?_) (fun c28 => ?_)
        · skip
          exact ret _ _ _ dX4_foresee_67 ⟨rfl, _, s2, o2, FS.of hF (h := hn) (k := i) (by omega) (by omega) (by first | exact Or.inl (by omega) | exact Or.inr c51), rfl⟩
        · skip
          refine tw_aload_n X dX4_foresee_31 0 rfl rfl ?_
          refine gf_X4_16 X (v := .ref (q 22)) 0 rfl rfl dX4_foresee_32 ?_
          refine gf_X4_69 X (v := .ref (q 31)) 22 rfl rfl dX4_foresee_35 ?_
          refine gf_X4_120 X (v := .int (enc ((hoursM (startF N m) i) 18 0))) 31 rfl rfl dX4_foresee_38 ?_
          have b1 := hBi 18 0
          refine tw_aload_n X dX4_foresee_41 0 rfl rfl ?_
          refine gf_X4_16 X (v := .ref (q 22)) 0 rfl rfl dX4_foresee_42 ?_
          refine gf_X4_69 X (v := .ref (q 31)) 22 rfl rfl dX4_foresee_45 ?_
          refine gf_X4_73 X (v := .int (enc ((hoursM (startF N m) i) 17 0))) 31 rfl rfl dX4_foresee_48 ?_
          have b2 := hBi 17 0
          refine tw_icmp_ge (tgt := 67) X (In_of (by omega) (by omega)) (In_of (by omega) (by omega)) dX4_foresee_51 (by decide) (fun c51 => ?_) (fun c51 => ?_)
          · skip
            exact ret _ _ _ dX4_foresee_67 ⟨rfl, _, s2, o2, FS.of hF (h := hn) (k := i) (by omega) (by omega) (by first | exact Or.inl (by omega) | exact Or.inr c51), rfl⟩
          · skip
            refine tw_aload_n X dX4_foresee_54 0 rfl rfl ?_
            refine gf_X4_16 X (v := .ref (q 22)) 0 rfl rfl dX4_foresee_55 ?_
            refine tw_callV X (As := []) (st := []) vw_X4_123 (m_X3_letHourGoBy (q := (fun i => q (22 + i))) (hoursM (startF N m) i) s2 o2 (B + 26 * i) hWi (by omega) hVi) (([(q 0, .inr (4, [.ref (q 1), .ref (q 22), .ref (q 43)]))]) ++ ([(q 1, .inr (3, [.ref (q 2), .ref (q 10), .ref (q 20), .int (enc (N 19 0)), .int (enc (N 20 0)), .int (enc (oN))]))]) ++ (wR cy (fun i => q (2 + i)) N) ++ (wT cy (fun i => q (10 + i)) N) ++ (wY cy (fun i => q (20 + i)) sN)) ((wY cy (fun i => q (43 + i)) A)) rfl rfl (q0 := 0) rfl rfl rfl ⟨rfl, rfl, Nat.le_of_ble_eq_true rfl, Nat.le_of_ble_eq_true rfl⟩ ⟨Nat.le_of_ble_eq_true rfl, Nat.le_of_ble_eq_true rfl⟩ (Nat.le_of_ble_eq_true rfl) dX4_foresee_58 (fun v w1 hp => ?_)
            obtain ⟨rfl, sh, oh, hVh, rfl⟩ := hp
            refine Teq (ws' := wD cy q N sN oN (hourM (hoursM (startF N m) i)) sh oh A) (lv' := [(0, .ref (q 0)), (1, .int (enc (m))), (2, .int (enc (h))), (3, .int (enc ((i : Int))))]) (st' := []) rfl rfl rfl ?_
            refine tw_iinc (q := 3) (x := (i : Int)) (y := (i : Int) + 1) (lv' := [(3, .int (enc ((i : Int) + 1))), (0, .ref (q 0)), (1, .int (enc (m))), (2, .int (enc (h)))]) X dX4_foresee_61 rfl rfl (by decide) rfl ?_
            refine tw_goto (tgt := 26) X dX4_foresee_64 (by decide) ?_
            refine Tsub (lv' := [(0, .ref (q 0)), (1, .int (enc (m))), (2, .int (enc (h))), (3, .int (enc ((i : Int) + 1)))]) [1, 2, 3, 0] rfl ?_
            refine Teq (ws' := wD cy q N sN oN (hoursM (startF N m) (i + 1)) (sh) (oh) A) (lv' := [(0, .ref (q 0)), (1, .int (enc (m))), (2, .int (enc (h))), (3, .int (enc (((i + 1 : Nat) : Int))))]) (st' := []) (rfl) (lvk (lvk (lvk (lvc (i_succ i) (rfl))))) rfl (ih26 (i + 1) (sh) (oh) (by omega) (by omega) (hVh))
    refine Tsub (lv' := [(0, .ref (q 0)), (1, .int (enc (m))), (2, .int (enc (h))), (3, .int (enc (0)))]) [1, 2, 3, 0] rfl ?_
    refine Teq (ws' := wD cy q N sN oN (hoursM (startF N m) 0) (s1) (o1) A) (lv' := [(0, .ref (q 0)), (1, .int (enc (m))), (2, .int (enc (h))), (3, .int (enc (((0 : Nat) : Int))))]) (st' := []) (rfl) (rfl) rfl (L26 (h + 1).toNat 0 (s1) (o1) (by omega) (by omega) (hJ))
  refine tw_iload_n X dX4_foresee_11 1 rfl rfl ?_
  refine tw_if_lt (tgt := 24) X (In_of (by omega) (by omega)) dX4_foresee_12 (by decide) (fun c12 => ?_) (fun c12 => ?_)
  · skip
    have eS : startF N m = N := by unfold startF; rw [if_pos c12]
    have hJ := hV
    refine Tws (ws' := wD cy q N sN oN (startF N m) sN oN A) (by rw [eS]) ?_
    exact J24 sN oN (by rw [eS]; exact hJ)
  · skip
    have eS : startF N m = up N 6 m 4 := by unfold startF; rw [if_neg (Int.not_lt.mpr c12)]
    have hJ : WVo (up N 6 m 4) sN 1 := WVo.old
    refine tw_aload_n X dX4_foresee_15 0 rfl rfl ?_
    refine gf_X4_16 X (v := .ref (q 22)) 0 rfl rfl dX4_foresee_16 ?_
    refine tw_iload_n X dX4_foresee_19 1 rfl rfl ?_
    refine tw_iconst X dX4_foresee_20 ?_
    refine tw_callV X (As := [.int (enc (m)), .int (enc (4))]) (st := []) vw_X4_101 (m_X3_closeRoad (q := (fun i => q (22 + i))) N sN oN (m) (4) (by omega)) (([(q 0, .inr (4, [.ref (q 1), .ref (q 22), .ref (q 43)]))]) ++ ([(q 1, .inr (3, [.ref (q 2), .ref (q 10), .ref (q 20), .int (enc (N 19 0)), .int (enc (N 20 0)), .int (enc (oN))]))]) ++ (wR cy (fun i => q (2 + i)) N) ++ (wT cy (fun i => q (10 + i)) N) ++ (wY cy (fun i => q (20 + i)) sN)) ((wY cy (fun i => q (43 + i)) A)) rfl rfl (q0 := 0) rfl rfl rfl ⟨rfl, rfl, Nat.le_of_ble_eq_true rfl, Nat.le_of_ble_eq_true rfl⟩ ⟨Nat.le_of_ble_eq_true rfl, Nat.le_of_ble_eq_true rfl⟩ (Nat.le_of_ble_eq_true rfl) dX4_foresee_21 (fun v w1 hp => ?_)
    obtain ⟨rfl, rfl⟩ := hp
    refine Teq (ws' := wD cy q N sN oN (up N 6 (m) (4)) sN 1 A) (lv' := [(0, .ref (q 0)), (1, .int (enc (m))), (2, .int (enc (h)))]) (st' := []) rfl rfl rfl ?_
    refine Tws (ws' := wD cy q N sN oN (startF N m) sN 1 A) (by rw [eS]) ?_
    exact J24 sN 1 (by rw [eS]; exact hJ)
set_option maxRecDepth 100000 in
set_option maxHeartbeats 4000000 in
theorem m_X4_foreseenHoursUntilIn {G : va_G} {cy : ClassId} {q : Nat → Nat} (N : MT) (sN : Int → Int) (oN : Int) (U : MT) (sU : Int → Int) (oU : Int) (A : Int → Int) (t : Int) (hB : Bd N) (hFS : FS N (-1) 100 U) (h17 : N 17 0 ≤ 12) (ht : 0 ≤ t ∧ t < N 17 0) : Ct G cy yX4_foreseenHoursUntilIn cX4_foreseenHoursUntilIn 2 (some .int) ({ frames := 1, cells := 0, slots := 0, locals := 21 } : Room) 0 0 [.ref (q 0), .int (enc (t))] (wD cy q N sN oN U sU oU A) (fun v w1 => v = some (.int (enc (untilM N t))) ∧ w1 = wD cy q N sN oN U sU oU A) := by
  refine Ct.ofI (by decide) (Nat.le_of_ble_eq_true rfl) rfl rfl (fun _ _ _ => rfl) ?_
  intro c X ret
  have hBU := hFS.1
  have ef := hFS.2.2 t ht.1 ht.2
  have e2 : hoursM (startF N (-1)) 100 15 t = hoursM N 100 15 t := rfl
  refine Tlv (lv' := [(0, .ref (q 0)), (1, .int (enc (t)))]) rfl ?_
  refine tw_aload_n X dX4_foreseenHoursUntilIn_0 0 rfl rfl ?_
  refine gf_X4_10 X (v := .ref (q 1)) 0 rfl rfl dX4_foreseenHoursUntilIn_1 ?_
  refine gf_X4_69 X (v := .ref (q 10)) 1 rfl rfl dX4_foreseenHoursUntilIn_4 ?_
  refine tw_iload_n X dX4_foreseenHoursUntilIn_7 1 rfl rfl ?_
  refine tw_callV X (As := [.int (enc (t))]) (st := []) vw_X4_175 (m_X1_isIn (q := (fun i => q (10 + i))) N (t) hB (by omega)) (([(q 0, .inr (4, [.ref (q 1), .ref (q 22), .ref (q 43)]))]) ++ ([(q 1, .inr (3, [.ref (q 2), .ref (q 10), .ref (q 20), .int (enc (N 19 0)), .int (enc (N 20 0)), .int (enc (oN))]))]) ++ (wR cy (fun i => q (2 + i)) N)) ((wY cy (fun i => q (20 + i)) sN) ++ ([(q 22, .inr (3, [.ref (q 23), .ref (q 31), .ref (q 41), .int (enc (U 19 0)), .int (enc (U 20 0)), .int (enc (oU))]))]) ++ (wR cy (fun i => q (23 + i)) U) ++ (wT cy (fun i => q (31 + i)) U) ++ (wY cy (fun i => q (41 + i)) sU) ++ (wY cy (fun i => q (43 + i)) A)) rfl rfl (q0 := 0) rfl rfl rfl ⟨rfl, rfl, Nat.le_of_ble_eq_true rfl, Nat.le_of_ble_eq_true rfl⟩ ⟨Nat.le_of_ble_eq_true rfl, Nat.le_of_ble_eq_true rfl⟩ (Nat.le_of_ble_eq_true rfl) dX4_foreseenHoursUntilIn_8 (fun v w1 hp => ?_)
  obtain ⟨rfl, rfl⟩ := hp
  refine Teq (ws' := wD cy q N sN oN U sU oU A) (lv' := [(0, .ref (q 0)), (1, .int (enc (t)))]) (st' := [.int (enc (if 0 ≤ N 15 t then 1 else 0))]) rfl rfl rfl ?_
  refine tw_if_eq (tgt := 16) X In_b dX4_foreseenHoursUntilIn_11 (by decide) (fun c11 => ?_) (fun c11 => ?_)
  · skip
    have c11 := b01.mp c11
    refine tw_aload_n X dX4_foreseenHoursUntilIn_16 0 rfl rfl ?_
    refine gf_X4_16 X (v := .ref (q 22)) 0 rfl rfl dX4_foreseenHoursUntilIn_17 ?_
    refine gf_X4_69 X (v := .ref (q 31)) 22 rfl rfl dX4_foreseenHoursUntilIn_20 ?_
    refine tw_iload_n X dX4_foreseenHoursUntilIn_23 1 rfl rfl ?_
    refine tw_callV X (As := [.int (enc (t))]) (st := []) vw_X4_175 (m_X1_isIn (q := (fun i => q (31 + i))) U (t) hBU (by omega)) (([(q 0, .inr (4, [.ref (q 1), .ref (q 22), .ref (q 43)]))]) ++ ([(q 1, .inr (3, [.ref (q 2), .ref (q 10), .ref (q 20), .int (enc (N 19 0)), .int (enc (N 20 0)), .int (enc (oN))]))]) ++ (wR cy (fun i => q (2 + i)) N) ++ (wT cy (fun i => q (10 + i)) N) ++ (wY cy (fun i => q (20 + i)) sN) ++ ([(q 22, .inr (3, [.ref (q 23), .ref (q 31), .ref (q 41), .int (enc (U 19 0)), .int (enc (U 20 0)), .int (enc (oU))]))]) ++ (wR cy (fun i => q (23 + i)) U)) ((wY cy (fun i => q (41 + i)) sU) ++ (wY cy (fun i => q (43 + i)) A)) rfl rfl (q0 := 0) rfl rfl rfl ⟨rfl, rfl, Nat.le_of_ble_eq_true rfl, Nat.le_of_ble_eq_true rfl⟩ ⟨Nat.le_of_ble_eq_true rfl, Nat.le_of_ble_eq_true rfl⟩ (Nat.le_of_ble_eq_true rfl) dX4_foreseenHoursUntilIn_24 (fun v w1 hp => ?_)
    obtain ⟨rfl, rfl⟩ := hp
    refine Teq (ws' := wD cy q N sN oN U sU oU A) (lv' := [(0, .ref (q 0)), (1, .int (enc (t)))]) (st' := [.int (enc (if 0 ≤ U 15 t then 1 else 0))]) rfl rfl rfl ?_
    refine tw_if_ne (tgt := 32) X In_b dX4_foreseenHoursUntilIn_27 (by decide) (fun c27 => ?_) (fun c27 => ?_)
    · skip
      have c27 := b01n.mp c27
      refine tw_aload_n X dX4_foreseenHoursUntilIn_32 0 rfl rfl ?_
      refine gf_X4_16 X (v := .ref (q 22)) 0 rfl rfl dX4_foreseenHoursUntilIn_33 ?_
      refine gf_X4_69 X (v := .ref (q 31)) 22 rfl rfl dX4_foreseenHoursUntilIn_36 ?_
      refine gf_X4_233 X (v := .ref (q 38)) 31 rfl rfl dX4_foreseenHoursUntilIn_39 ?_
      refine tw_iload_n X dX4_foreseenHoursUntilIn_42 1 rfl rfl ?_
      refine tw_iald X (N := 12) (f := (U 13)) 38 rfl (by decide) (by omega) dX4_foreseenHoursUntilIn_43 ?_
      refine Tst (st' := [.int (enc (U 13 t))]) rfl ?_
      have b1 := hFS.1 13 t
      refine tw_aload_n X dX4_foreseenHoursUntilIn_44 0 rfl rfl ?_
      refine gf_X4_16 X (v := .ref (q 22)) 0 rfl rfl dX4_foreseenHoursUntilIn_45 ?_
      refine gf_X4_69 X (v := .ref (q 31)) 22 rfl rfl dX4_foreseenHoursUntilIn_48 ?_
      refine gf_X4_236 X (v := .ref (q 40)) 31 rfl rfl dX4_foreseenHoursUntilIn_51 ?_
      refine tw_iload_n X dX4_foreseenHoursUntilIn_54 1 rfl rfl ?_
      refine tw_iald X (N := 12) (f := (U 15)) 40 rfl (by decide) (by omega) dX4_foreseenHoursUntilIn_55 ?_
      refine Tst (st' := [.int (enc (U 15 t)), .int (enc (U 13 t))]) rfl ?_
      have b2 := hFS.1 15 t
      refine tw_iadd (z := (U 13 t) + (U 15 t)) X dX4_foreseenHoursUntilIn_56 rfl ?_
      refine tw_aload_n X dX4_foreseenHoursUntilIn_57 0 rfl rfl ?_
      refine gf_X4_10 X (v := .ref (q 1)) 0 rfl rfl dX4_foreseenHoursUntilIn_58 ?_
      refine gf_X4_84 X (v := .int (enc (N 20 0))) 1 rfl rfl dX4_foreseenHoursUntilIn_61 ?_
      have b3 := hB 20 0
      refine tw_isub (z := ((U 13 t) + (U 15 t)) - (N 20 0)) X dX4_foreseenHoursUntilIn_64 rfl ?_
      exact ret _ _ _ _ dX4_foreseenHoursUntilIn_65 ⟨by unfold untilM; rw [if_neg c11, if_neg (by omega), ef.1, ef.2.2, e2], rfl⟩
    · skip
      have c27 := b01.mp c27
      refine tw_iconst X dX4_foreseenHoursUntilIn_30 ?_
      exact ret _ _ _ _ dX4_foreseenHoursUntilIn_31 ⟨by unfold untilM; rw [if_neg c11, if_pos (by omega)], rfl⟩
  · skip
    have c11 := b01n.mp c11
    refine tw_iconst X dX4_foreseenHoursUntilIn_14 ?_
    exact ret _ _ _ _ dX4_foreseenHoursUntilIn_15 ⟨by unfold untilM; rw [if_pos c11], rfl⟩
set_option maxRecDepth 100000 in
set_option maxHeartbeats 4000000 in
theorem m_X4_hour {G : va_G} {cy : ClassId} {q : Nat → Nat} (N : MT) (sN : Int → Int) (oN : Int) (U : MT) (sU : Int → Int) (oU : Int) (A : Int → Int) : Ct G cy yX4_hour cX4_hour 1 (some .int) ({ frames := 0, cells := 0, slots := 0, locals := 0 } : Room) 0 0 [.ref (q 0)] (wD cy q N sN oN U sU oU A) (fun v w1 => v = some (.int (enc (N 20 0))) ∧ w1 = wD cy q N sN oN U sU oU A) := by
  refine Ct.ofI (by decide) (Nat.le_of_ble_eq_true rfl) rfl rfl (fun _ _ _ => rfl) ?_
  intro c X ret
  refine Tlv (lv' := [(0, .ref (q 0))]) rfl ?_
  refine tw_aload_n X dX4_hour_0 0 rfl rfl ?_
  refine gf_X4_10 X (v := .ref (q 1)) 0 rfl rfl dX4_hour_1 ?_
  refine gf_X4_84 X (v := .int (enc (N 20 0))) 1 rfl rfl dX4_hour_4 ?_
  exact ret _ _ _ _ dX4_hour_7 ⟨rfl, rfl⟩
set_option maxRecDepth 100000 in
set_option maxHeartbeats 4000000 in
theorem m_X4_crossings {G : va_G} {cy : ClassId} {q : Nat → Nat} (N : MT) (sN : Int → Int) (oN : Int) (U : MT) (sU : Int → Int) (oU : Int) (A : Int → Int) : Ct G cy yX4_crossings cX4_crossings 1 (some .int) ({ frames := 0, cells := 0, slots := 0, locals := 0 } : Room) 0 0 [.ref (q 0)] (wD cy q N sN oN U sU oU A) (fun v w1 => v = some (.int (enc (N 19 0))) ∧ w1 = wD cy q N sN oN U sU oU A) := by
  refine Ct.ofI (by decide) (Nat.le_of_ble_eq_true rfl) rfl rfl (fun _ _ _ => rfl) ?_
  intro c X ret
  refine Tlv (lv' := [(0, .ref (q 0))]) rfl ?_
  refine tw_aload_n X dX4_crossings_0 0 rfl rfl ?_
  refine gf_X4_10 X (v := .ref (q 1)) 0 rfl rfl dX4_crossings_1 ?_
  refine gf_X4_26 X (v := .int (enc (N 19 0))) 1 rfl rfl dX4_crossings_4 ?_
  exact ret _ _ _ _ dX4_crossings_7 ⟨rfl, rfl⟩
set_option maxRecDepth 100000 in
set_option maxHeartbeats 4000000 in
theorem m_X4_roads {G : va_G} {cy : ClassId} {q : Nat → Nat} (N : MT) (sN : Int → Int) (oN : Int) (U : MT) (sU : Int → Int) (oU : Int) (A : Int → Int) : Ct G cy yX4_roads cX4_roads 1 (some .int) ({ frames := 0, cells := 0, slots := 0, locals := 0 } : Room) 0 0 [.ref (q 0)] (wD cy q N sN oN U sU oU A) (fun v w1 => v = some (.int (enc (N 16 0))) ∧ w1 = wD cy q N sN oN U sU oU A) := by
  refine Ct.ofI (by decide) (Nat.le_of_ble_eq_true rfl) rfl rfl (fun _ _ _ => rfl) ?_
  intro c X ret
  refine Tlv (lv' := [(0, .ref (q 0))]) rfl ?_
  refine tw_aload_n X dX4_roads_0 0 rfl rfl ?_
  refine gf_X4_10 X (v := .ref (q 1)) 0 rfl rfl dX4_roads_1 ?_
  refine gf_X4_54 X (v := .ref (q 2)) 1 rfl rfl dX4_roads_4 ?_
  refine gf_X4_58 X (v := .int (enc (N 16 0))) 2 rfl rfl dX4_roads_7 ?_
  exact ret _ _ _ _ dX4_roads_10 ⟨rfl, rfl⟩
set_option maxRecDepth 100000 in
set_option maxHeartbeats 4000000 in
theorem m_X4_tourists {G : va_G} {cy : ClassId} {q : Nat → Nat} (N : MT) (sN : Int → Int) (oN : Int) (U : MT) (sU : Int → Int) (oU : Int) (A : Int → Int) : Ct G cy yX4_tourists cX4_tourists 1 (some .int) ({ frames := 0, cells := 0, slots := 0, locals := 0 } : Room) 0 0 [.ref (q 0)] (wD cy q N sN oN U sU oU A) (fun v w1 => v = some (.int (enc (N 17 0))) ∧ w1 = wD cy q N sN oN U sU oU A) := by
  refine Ct.ofI (by decide) (Nat.le_of_ble_eq_true rfl) rfl rfl (fun _ _ _ => rfl) ?_
  intro c X ret
  refine Tlv (lv' := [(0, .ref (q 0))]) rfl ?_
  refine tw_aload_n X dX4_tourists_0 0 rfl rfl ?_
  refine gf_X4_10 X (v := .ref (q 1)) 0 rfl rfl dX4_tourists_1 ?_
  refine gf_X4_69 X (v := .ref (q 10)) 1 rfl rfl dX4_tourists_4 ?_
  refine gf_X4_73 X (v := .int (enc (N 17 0))) 10 rfl rfl dX4_tourists_7 ?_
  exact ret _ _ _ _ dX4_tourists_10 ⟨rfl, rfl⟩
set_option maxRecDepth 100000 in
set_option maxHeartbeats 4000000 in
theorem m_X4_arrived {G : va_G} {cy : ClassId} {q : Nat → Nat} (N : MT) (sN : Int → Int) (oN : Int) (U : MT) (sU : Int → Int) (oU : Int) (A : Int → Int) : Ct G cy yX4_arrived cX4_arrived 1 (some .int) ({ frames := 0, cells := 0, slots := 0, locals := 0 } : Room) 0 0 [.ref (q 0)] (wD cy q N sN oN U sU oU A) (fun v w1 => v = some (.int (enc (N 18 0))) ∧ w1 = wD cy q N sN oN U sU oU A) := by
  refine Ct.ofI (by decide) (Nat.le_of_ble_eq_true rfl) rfl rfl (fun _ _ _ => rfl) ?_
  intro c X ret
  refine Tlv (lv' := [(0, .ref (q 0))]) rfl ?_
  refine tw_aload_n X dX4_arrived_0 0 rfl rfl ?_
  refine gf_X4_10 X (v := .ref (q 1)) 0 rfl rfl dX4_arrived_1 ?_
  refine gf_X4_69 X (v := .ref (q 10)) 1 rfl rfl dX4_arrived_4 ?_
  refine gf_X4_120 X (v := .int (enc (N 18 0))) 10 rfl rfl dX4_arrived_7 ?_
  exact ret _ _ _ _ dX4_arrived_10 ⟨rfl, rfl⟩
set_option maxRecDepth 100000 in
set_option maxHeartbeats 4000000 in
theorem m_X4_closedRoads {G : va_G} {cy : ClassId} {q : Nat → Nat} (N : MT) (sN : Int → Int) (oN : Int) (U : MT) (sU : Int → Int) (oU : Int) (A : Int → Int) (hB : Bd N) (h : 0 ≤ N 16 0 ∧ N 16 0 ≤ 20) : Ct G cy yX4_closedRoads cX4_closedRoads 1 (some .int) ({ frames := 1, cells := 0, slots := 0, locals := 22 } : Room) 0 0 [.ref (q 0)] (wD cy q N sN oN U sU oU A) (fun v w1 => v = some (.int (enc (cntC N (N 16 0).toNat))) ∧ w1 = wD cy q N sN oN U sU oU A) := by
  refine Ct.ofI (by decide) (Nat.le_of_ble_eq_true rfl) rfl rfl (fun _ _ _ => rfl) ?_
  intro c X ret
  refine Tlv (lv' := [(0, .ref (q 0))]) rfl ?_
  refine tw_aload_n X dX4_closedRoads_0 0 rfl rfl ?_
  refine gf_X4_10 X (v := .ref (q 1)) 0 rfl rfl dX4_closedRoads_1 ?_
  refine gf_X4_54 X (v := .ref (q 2)) 1 rfl rfl dX4_closedRoads_4 ?_
  refine tw_callV X (As := []) (st := []) vw_X4_126 (m_X0_countClosed (q := (fun i => q (2 + i))) N hB (by omega)) (([(q 0, .inr (4, [.ref (q 1), .ref (q 22), .ref (q 43)]))]) ++ ([(q 1, .inr (3, [.ref (q 2), .ref (q 10), .ref (q 20), .int (enc (N 19 0)), .int (enc (N 20 0)), .int (enc (oN))]))])) ((wT cy (fun i => q (10 + i)) N) ++ (wY cy (fun i => q (20 + i)) sN) ++ ([(q 22, .inr (3, [.ref (q 23), .ref (q 31), .ref (q 41), .int (enc (U 19 0)), .int (enc (U 20 0)), .int (enc (oU))]))]) ++ (wR cy (fun i => q (23 + i)) U) ++ (wT cy (fun i => q (31 + i)) U) ++ (wY cy (fun i => q (41 + i)) sU) ++ (wY cy (fun i => q (43 + i)) A)) rfl rfl (q0 := 0) rfl rfl rfl ⟨rfl, rfl, Nat.le_of_ble_eq_true rfl, Nat.le_of_ble_eq_true rfl⟩ ⟨Nat.le_of_ble_eq_true rfl, Nat.le_of_ble_eq_true rfl⟩ (Nat.le_of_ble_eq_true rfl) dX4_closedRoads_7 (fun v w1 hp => ?_)
  obtain ⟨rfl, rfl⟩ := hp
  refine Teq (ws' := wD cy q N sN oN U sU oU A) (lv' := [(0, .ref (q 0))]) (st' := [.int (enc (cntC N (N 16 0).toNat))]) rfl rfl rfl ?_
  exact ret _ _ _ _ dX4_closedRoads_10 ⟨rfl, rfl⟩
set_option maxRecDepth 100000 in
set_option maxHeartbeats 4000000 in
theorem m_X4_allFrayed {G : va_G} {cy : ClassId} {q : Nat → Nat} (N : MT) (sN : Int → Int) (oN : Int) (U : MT) (sU : Int → Int) (oU : Int) (A : Int → Int) (hB : Bd N) (h : 0 ≤ N 17 0 ∧ N 17 0 ≤ 12) : Ct G cy yX4_allFrayed cX4_allFrayed 1 (some .int) ({ frames := 2, cells := 0, slots := 0, locals := 43 } : Room) 0 0 [.ref (q 0)] (wD cy q N sN oN U sU oU A) (fun v w1 => v = some (.int (enc (frI N (N 17 0).toNat))) ∧ w1 = wD cy q N sN oN U sU oU A) := by
  refine Ct.ofI (by decide) (Nat.le_of_ble_eq_true rfl) rfl rfl (fun _ _ _ => rfl) ?_
  intro c X ret
  refine Tlv (lv' := [(0, .ref (q 0))]) rfl ?_
  refine tw_aload_n X dX4_allFrayed_0 0 rfl rfl ?_
  refine gf_X4_10 X (v := .ref (q 1)) 0 rfl rfl dX4_allFrayed_1 ?_
  refine gf_X4_69 X (v := .ref (q 10)) 1 rfl rfl dX4_allFrayed_4 ?_
  refine tw_callV X (As := []) (st := []) vw_X4_129 (m_X1_frayOfThoseIn (q := (fun i => q (10 + i))) N hB (by omega)) (([(q 0, .inr (4, [.ref (q 1), .ref (q 22), .ref (q 43)]))]) ++ ([(q 1, .inr (3, [.ref (q 2), .ref (q 10), .ref (q 20), .int (enc (N 19 0)), .int (enc (N 20 0)), .int (enc (oN))]))]) ++ (wR cy (fun i => q (2 + i)) N)) ((wY cy (fun i => q (20 + i)) sN) ++ ([(q 22, .inr (3, [.ref (q 23), .ref (q 31), .ref (q 41), .int (enc (U 19 0)), .int (enc (U 20 0)), .int (enc (oU))]))]) ++ (wR cy (fun i => q (23 + i)) U) ++ (wT cy (fun i => q (31 + i)) U) ++ (wY cy (fun i => q (41 + i)) sU) ++ (wY cy (fun i => q (43 + i)) A)) rfl rfl (q0 := 0) rfl rfl rfl ⟨rfl, rfl, Nat.le_of_ble_eq_true rfl, Nat.le_of_ble_eq_true rfl⟩ ⟨Nat.le_of_ble_eq_true rfl, Nat.le_of_ble_eq_true rfl⟩ (Nat.le_of_ble_eq_true rfl) dX4_allFrayed_7 (fun v w1 hp => ?_)
  obtain ⟨rfl, rfl⟩ := hp
  refine Teq (ws' := wD cy q N sN oN U sU oU A) (lv' := [(0, .ref (q 0))]) (st' := [.int (enc (frI N (N 17 0).toNat))]) rfl rfl rfl ?_
  exact ret _ _ _ _ dX4_allFrayed_10 ⟨rfl, rfl⟩
set_option maxRecDepth 100000 in
set_option maxHeartbeats 4000000 in
theorem m_X4_mostWorn {G : va_G} {cy : ClassId} {q : Nat → Nat} (N : MT) (sN : Int → Int) (oN : Int) (U : MT) (sU : Int → Int) (oU : Int) (A : Int → Int) (hB : Bd N) (h : 0 ≤ N 16 0 ∧ N 16 0 ≤ 20) : Ct G cy yX4_mostWorn cX4_mostWorn 1 (some .int) ({ frames := 1, cells := 0, slots := 0, locals := 23 } : Room) 0 0 [.ref (q 0)] (wD cy q N sN oN U sU oU A) (fun v w1 => v = some (.int (enc (mostW N (N 16 0).toNat).1)) ∧ w1 = wD cy q N sN oN U sU oU A) := by
  refine Ct.ofI (by decide) (Nat.le_of_ble_eq_true rfl) rfl rfl (fun _ _ _ => rfl) ?_
  intro c X ret
  refine Tlv (lv' := [(0, .ref (q 0))]) rfl ?_
  refine tw_aload_n X dX4_mostWorn_0 0 rfl rfl ?_
  refine gf_X4_10 X (v := .ref (q 1)) 0 rfl rfl dX4_mostWorn_1 ?_
  refine gf_X4_54 X (v := .ref (q 2)) 1 rfl rfl dX4_mostWorn_4 ?_
  refine tw_callV X (As := []) (st := []) vw_X4_138 (m_X0_openWithMostWear (q := (fun i => q (2 + i))) N hB (by omega)) (([(q 0, .inr (4, [.ref (q 1), .ref (q 22), .ref (q 43)]))]) ++ ([(q 1, .inr (3, [.ref (q 2), .ref (q 10), .ref (q 20), .int (enc (N 19 0)), .int (enc (N 20 0)), .int (enc (oN))]))])) ((wT cy (fun i => q (10 + i)) N) ++ (wY cy (fun i => q (20 + i)) sN) ++ ([(q 22, .inr (3, [.ref (q 23), .ref (q 31), .ref (q 41), .int (enc (U 19 0)), .int (enc (U 20 0)), .int (enc (oU))]))]) ++ (wR cy (fun i => q (23 + i)) U) ++ (wT cy (fun i => q (31 + i)) U) ++ (wY cy (fun i => q (41 + i)) sU) ++ (wY cy (fun i => q (43 + i)) A)) rfl rfl (q0 := 0) rfl rfl rfl ⟨rfl, rfl, Nat.le_of_ble_eq_true rfl, Nat.le_of_ble_eq_true rfl⟩ ⟨Nat.le_of_ble_eq_true rfl, Nat.le_of_ble_eq_true rfl⟩ (Nat.le_of_ble_eq_true rfl) dX4_mostWorn_7 (fun v w1 hp => ?_)
  obtain ⟨rfl, rfl⟩ := hp
  refine Teq (ws' := wD cy q N sN oN U sU oU A) (lv' := [(0, .ref (q 0))]) (st' := [.int (enc ((mostW N (N 16 0).toNat).1))]) rfl rfl rfl ?_
  exact ret _ _ _ _ dX4_mostWorn_10 ⟨rfl, rfl⟩
noncomputable def pdF (N : MT) (i : Int) : Nat → Int
  | 0 => 0
  | j + 1 => pdF N i j + (if 1000000 ≤ dst N true i j then 1 else 0)
noncomputable def pdP (N : MT) : Nat → Int
  | 0 => 0
  | i + 1 => pdP N i + pdF N i i
theorem pdF_s (N : MT) (i : Int) (j : Nat) : pdF N i (j + 1) = pdF N i j + (if 1000000 ≤ dst N true i j then 1 else 0) := rfl
theorem pdP_s (N : MT) (i : Nat) : pdP N (i + 1) = pdP N i + pdF N i i := rfl
theorem pd_F {N : MT} {s : Int → Int} (h : WV N true s) {i : Int} (h0 : 0 ≤ i) (h1 : i < N 19 0) : ∀ j : Nat, (j : Int) ≤ N 19 0 → parF s i j = pdF N i j
  | 0, _ => rfl
  | j + 1, hj => by rw [parF_s, pdF_s, pd_F h h0 h1 j (by omega), h i j h0 h1 (by omega) (by omega)]
theorem pd_P {N : MT} {s : Int → Int} (h : WV N true s) : ∀ i : Nat, (i : Int) ≤ N 19 0 → parP s i = pdP N i
  | 0, _ => rfl
  | i + 1, hi => by rw [parP_s, pdP_s, pd_P h i (by omega), pd_F h (by omega) (by omega) i (by omega)]
theorem pdF_rng (N : MT) (i : Int) : ∀ j : Nat, 0 ≤ pdF N i j ∧ pdF N i j ≤ j
  | 0 => ⟨Int.le_refl _, Int.le_refl _⟩
  | j + 1 => by
    have := pdF_rng N i j
    rw [pdF_s]
    split <;> omega
theorem pdP_rng (N : MT) : ∀ i : Nat, i ≤ 10 → 0 ≤ pdP N i ∧ pdP N i ≤ 10 * (i : Int)
  | 0, _ => ⟨Int.le_refl _, Int.le_refl _⟩
  | i + 1, h => by
    have := pdP_rng N i (by omega)
    have := pdF_rng N i i
    rw [pdP_s]
    omega
theorem WV.rng {N : MT} {s : Int → Int} (hW : WFR N) (h : WV N true s) : ∀ a b : Int, 0 ≤ a → a < N 19 0 → 0 ≤ b → b < N 19 0 → 0 ≤ s (a * 10 + b) ∧ s (a * 10 + b) ≤ 1000000 := fun a b a0 a1 b0 b1 => by
  have d := dst_ok (o := true) hW a b
  rw [h a b a0 a1 b0 b1]
  exact ⟨d.1, d.2.1⟩
set_option maxRecDepth 100000 in
set_option maxHeartbeats 4000000 in
theorem m_X4_partedPairs {G : va_G} {cy : ClassId} {q : Nat → Nat} (N : MT) (sN : Int → Int) (oN : Int) (U : MT) (sU : Int → Int) (oU : Int) (A : Int → Int) (B : Int) (hF : WF N B) (hB2 : B ≤ 800000) (hV : WVo N sN oN) : Ct G cy yX4_partedPairs cX4_partedPairs 1 (some .int) ({ frames := 3, cells := 0, slots := 0, locals := 72 } : Room) 0 0 [.ref (q 0)] (wD cy q N sN oN U sU oU A) (fun v w1 => v = some (.int (enc (pdP N (N 19 0).toNat))) ∧ ∃ s', WV N true s' ∧ w1 = wD cy q N s' 0 U sU oU A) := by
  refine Ct.ofI (by decide) (Nat.le_of_ble_eq_true rfl) rfl rfl (fun _ _ _ => rfl) ?_
  intro c X ret
  have hB := hF.bd (by omega)
  obtain ⟨w0, w1, w2, w3, w4⟩ := hF.r
  refine Tlv (lv' := [(0, .ref (q 0))]) rfl ?_
  refine tw_aload_n X dX4_partedPairs_0 0 rfl rfl ?_
  refine gf_X4_10 X (v := .ref (q 1)) 0 rfl rfl dX4_partedPairs_1 ?_
  refine tw_callV X (As := []) (st := []) vw_X4_141 (m_X3_findOpenWays (q := (fun i => q (1 + i))) N sN oN hF.r hB hV) (([(q 0, .inr (4, [.ref (q 1), .ref (q 22), .ref (q 43)]))])) (([(q 22, .inr (3, [.ref (q 23), .ref (q 31), .ref (q 41), .int (enc (U 19 0)), .int (enc (U 20 0)), .int (enc (oU))]))]) ++ (wR cy (fun i => q (23 + i)) U) ++ (wT cy (fun i => q (31 + i)) U) ++ (wY cy (fun i => q (41 + i)) sU) ++ (wY cy (fun i => q (43 + i)) A)) rfl rfl (q0 := 0) rfl rfl rfl ⟨rfl, rfl, Nat.le_of_ble_eq_true rfl, Nat.le_of_ble_eq_true rfl⟩ ⟨Nat.le_of_ble_eq_true rfl, Nat.le_of_ble_eq_true rfl⟩ (Nat.le_of_ble_eq_true rfl) dX4_partedPairs_4 (fun v w1 hp => ?_)
  obtain ⟨rfl, sf, hVf, rfl⟩ := hp
  refine Teq (ws' := wD cy q N sf 0 U sU oU A) (lv' := [(0, .ref (q 0))]) (st' := []) rfl rfl rfl ?_
  refine tw_aload_n X dX4_partedPairs_7 0 rfl rfl ?_
  refine gf_X4_10 X (v := .ref (q 1)) 0 rfl rfl dX4_partedPairs_8 ?_
  refine gf_X4_144 X (v := .ref (q 20)) 1 rfl rfl dX4_partedPairs_11 ?_
  refine tw_aload_n X dX4_partedPairs_14 0 rfl rfl ?_
  refine gf_X4_10 X (v := .ref (q 1)) 0 rfl rfl dX4_partedPairs_15 ?_
  refine gf_X4_26 X (v := .int (enc (N 19 0))) 1 rfl rfl dX4_partedPairs_18 ?_
  have b1 := hB 19 0
  refine tw_callV X (As := [.int (enc (N 19 0))]) (st := []) vw_X4_157 (m_X2_countParted (q := (fun i => q (20 + i))) sf (N 19 0) (by omega) (hVf.rng hF.r)) (([(q 0, .inr (4, [.ref (q 1), .ref (q 22), .ref (q 43)]))]) ++ ([(q 1, .inr (3, [.ref (q 2), .ref (q 10), .ref (q 20), .int (enc (N 19 0)), .int (enc (N 20 0)), .int (enc (0))]))]) ++ (wR cy (fun i => q (2 + i)) N) ++ (wT cy (fun i => q (10 + i)) N)) (([(q 22, .inr (3, [.ref (q 23), .ref (q 31), .ref (q 41), .int (enc (U 19 0)), .int (enc (U 20 0)), .int (enc (oU))]))]) ++ (wR cy (fun i => q (23 + i)) U) ++ (wT cy (fun i => q (31 + i)) U) ++ (wY cy (fun i => q (41 + i)) sU) ++ (wY cy (fun i => q (43 + i)) A)) rfl rfl (q0 := 0) rfl rfl rfl ⟨rfl, rfl, Nat.le_of_ble_eq_true rfl, Nat.le_of_ble_eq_true rfl⟩ ⟨Nat.le_of_ble_eq_true rfl, Nat.le_of_ble_eq_true rfl⟩ (Nat.le_of_ble_eq_true rfl) dX4_partedPairs_21 (fun v w1 hp => ?_)
  obtain ⟨rfl, rfl⟩ := hp
  refine Teq (ws' := wD cy q N sf 0 U sU oU A) (lv' := [(0, .ref (q 0))]) (st' := [.int (enc (parP sf (N 19 0).toNat))]) rfl rfl rfl ?_
  exact ret _ _ _ _ dX4_partedPairs_24 ⟨by rw [pd_P hVf _ (by omega)], sf, hVf, rfl⟩
set_option maxRecDepth 100000 in
set_option maxHeartbeats 4000000 in
theorem m_X4_bestToMend {G : va_G} {cy : ClassId} {q : Nat → Nat} (N : MT) (sN : Int → Int) (oN : Int) (U : MT) (sU : Int → Int) (oU : Int) (A : Int → Int) (B : Int) (hF : WF N B) (hB2 : B ≤ 800000) (hV : WVo N sN oN) : Ct G cy yX4_bestToMend cX4_bestToMend 6 (some .int) ({ frames := 5, cells := 0, slots := 0, locals := 116 } : Room) 0 0 [.ref (q 0)] (wD cy q N sN oN U sU oU A) (fun v w1 => v = some (.int (enc (bestM N))) ∧ ∃ U' sU' oU', w1 = wD cy q N sN oN U' sU' oU' A) := by
  refine Ct.ofI (by decide) (Nat.le_of_ble_eq_true rfl) rfl rfl (fun _ _ _ => rfl) ?_
  intro c X ret
  have hB := hF.bd (by omega)
  obtain ⟨w0, w1, w2, w3, w4⟩ := hF.r
  have h17 := hF.2.2.2.2.2.1
  have h172 := hF.2.2.2.2.2.2.1
  have h20 := hF.2.2.2.2.2.2.2.1
  have h202 := hF.1 20 0
  refine Tlv (lv' := [(0, .ref (q 0))]) rfl ?_
  refine tw_iconst X dX4_bestToMend_0 ?_
  refine tw_istore_n (lv' := [(1, .int (enc (-1))), (0, .ref (q 0))]) X dX4_bestToMend_1 rfl (by decide) rfl ?_
  refine tw_aload_n X dX4_bestToMend_2 1 rfl rfl ?_
  refine gf_X4_10 X (v := .ref (q 1)) 0 rfl rfl dX4_bestToMend_3 ?_
  refine gf_X4_84 X (v := .int (enc (N 20 0))) 1 rfl rfl dX4_bestToMend_6 ?_
  have b1 := hB 20 0
  refine tw_bipush X dX4_bestToMend_9 (by decide) ?_
  refine tw_iadd (z := N 20 0 + 24) X dX4_bestToMend_11 rfl ?_
  refine tw_istore_n (lv' := [(2, .int (enc (N 20 0 + 24))), (1, .int (enc (-1))), (0, .ref (q 0))]) X dX4_bestToMend_12 rfl (by decide) rfl ?_
  refine tw_aload_n X dX4_bestToMend_13 2 rfl rfl ?_
  refine tw_iconst X dX4_bestToMend_14 ?_
  refine tw_bipush X dX4_bestToMend_15 (by decide) ?_
  refine tw_callV X (As := [.int (enc (-1)), .int (enc (24))]) (st := []) vw_X4_179 (m_X4_foresee (q := q) N sN oN U sU oU A (-1) (24) 24 rfl (by omega) B hF hB2 hV (Or.inl rfl)) ([]) ([]) rfl rfl (q0 := 0) rfl rfl rfl ⟨rfl, rfl, Nat.le_of_ble_eq_true rfl, Nat.le_of_ble_eq_true rfl⟩ ⟨Nat.le_of_ble_eq_true rfl, Nat.le_of_ble_eq_true rfl⟩ (Nat.le_of_ble_eq_true rfl) dX4_bestToMend_17 (fun v w1 hp => ?_)
  obtain ⟨rfl, U1, su, ou, hFS, rfl⟩ := hp
  refine Teq (ws' := wD cy q N sN oN U1 su ou A) (lv' := [(2, .int (enc (N 20 0 + 24))), (1, .int (enc (-1))), (0, .ref (q 0))]) (st' := []) rfl rfl rfl ?_
  have e17 := hFS.2.1
  refine tw_aload_n X dX4_bestToMend_20 2 rfl rfl ?_
  refine gf_X4_16 X (v := .ref (q 22)) 0 rfl rfl dX4_bestToMend_21 ?_
  refine gf_X4_69 X (v := .ref (q 31)) 22 rfl rfl dX4_bestToMend_24 ?_
  refine tw_iload_n X dX4_bestToMend_27 0 rfl rfl ?_
  refine tw_callV X (As := [.int (enc (N 20 0 + 24))]) (st := []) vw_X4_185 (m_X1_frayOfAll (q := (fun i => q (31 + i))) U1 (N 20 0 + 24) hFS.1 (by omega) (by omega)) (([(q 0, .inr (4, [.ref (q 1), .ref (q 22), .ref (q 43)]))]) ++ ([(q 1, .inr (3, [.ref (q 2), .ref (q 10), .ref (q 20), .int (enc (N 19 0)), .int (enc (N 20 0)), .int (enc (oN))]))]) ++ (wR cy (fun i => q (2 + i)) N) ++ (wT cy (fun i => q (10 + i)) N) ++ (wY cy (fun i => q (20 + i)) sN) ++ ([(q 22, .inr (3, [.ref (q 23), .ref (q 31), .ref (q 41), .int (enc (U1 19 0)), .int (enc (U1 20 0)), .int (enc (ou))]))]) ++ (wR cy (fun i => q (23 + i)) U1)) ((wY cy (fun i => q (41 + i)) su) ++ (wY cy (fun i => q (43 + i)) A)) rfl rfl (q0 := 0) rfl rfl rfl ⟨rfl, rfl, Nat.le_of_ble_eq_true rfl, Nat.le_of_ble_eq_true rfl⟩ ⟨Nat.le_of_ble_eq_true rfl, Nat.le_of_ble_eq_true rfl⟩ (Nat.le_of_ble_eq_true rfl) dX4_bestToMend_28 (fun v w1 hp => ?_)
  obtain ⟨rfl, rfl⟩ := hp
  refine Teq (ws' := wD cy q N sN oN U1 su ou A) (lv' := [(2, .int (enc (N 20 0 + 24))), (1, .int (enc (-1))), (0, .ref (q 0))]) (st' := [.int (enc (frA U1 (N 20 0 + 24) (U1 17 0).toNat))]) rfl rfl rfl ?_
  refine tw_istore_n (lv' := [(3, .int (enc (frA U1 (N 20 0 + 24) (U1 17 0).toNat))), (2, .int (enc (N 20 0 + 24))), (1, .int (enc (-1))), (0, .ref (q 0))]) X dX4_bestToMend_31 rfl (by decide) rfl ?_
  refine tw_iconst X dX4_bestToMend_32 ?_
  refine tw_istore (lv' := [(4, .int (enc (0))), (3, .int (enc (frA U1 (N 20 0 + 24) (U1 17 0).toNat))), (2, .int (enc (N 20 0 + 24))), (1, .int (enc (-1))), (0, .ref (q 0))]) X dX4_bestToMend_33 (by decide) rfl ?_
  have L35 : ∀ (fu i : Nat) (Ui : MT) (si : Int → Int) (oi : Int), (i : Int) ≤ N 16 0 → N 16 0 + 1 ≤ (i : Int) + fu → T G c ({ frames := 5, cells := 0, slots := 0, locals := 116 } : Room) 6 0 0 (wD cy q N sN oN Ui si oi A) 35 [(0, .ref (q 0)), (1, .int (enc ((bestI N i).1))), (2, .int (enc (N 20 0 + 24))), (3, .int (enc ((bestI N i).2))), (4, .int (enc ((i : Int))))] [] := by
    intro fu
    induction fu with
    | zero =>
      intro i Ui si oi hi0 hi1
      exact absurd hi1 (by omega)
    | succ fu ih35 =>
      intro i Ui si oi hi0_35 hi1_35 
      refine tw_iload X dX4_bestToMend_35 4 rfl ?_
      refine tw_aload_n X dX4_bestToMend_37 0 rfl rfl ?_
      refine gf_X4_10 X (v := .ref (q 1)) 0 rfl rfl dX4_bestToMend_38 ?_
      refine gf_X4_54 X (v := .ref (q 2)) 1 rfl rfl dX4_bestToMend_41 ?_
      refine gf_X4_58 X (v := .int (enc (N 16 0))) 2 rfl rfl dX4_bestToMend_44 ?_
      have b2 := hB 16 0
      refine tw_icmp_ge (tgt := 105) X (In_of (by omega) (by omega)) (In_of (by omega) (by omega)) dX4_bestToMend_47 (by decide) (fun c47 => ?_) (fun c47 => ?_)
      · skip
        refine tw_iload_n X dX4_bestToMend_105 1 rfl rfl ?_
        exact ret _ _ _ _ dX4_bestToMend_106 ⟨by unfold bestM; rw [show (N 16 0).toNat = i by omega], _, _, _, rfl⟩
      · skip
        refine tw_aload_n X dX4_bestToMend_50 0 rfl rfl ?_
        refine gf_X4_10 X (v := .ref (q 1)) 0 rfl rfl dX4_bestToMend_51 ?_
        refine gf_X4_54 X (v := .ref (q 2)) 1 rfl rfl dX4_bestToMend_54 ?_
        refine gf_X4_95 X (v := .ref (q 9)) 2 rfl rfl dX4_bestToMend_57 ?_
        refine tw_iload X dX4_bestToMend_60 4 rfl ?_
        refine tw_iald X (N := 20) (f := (N 6)) 9 rfl (by decide) (by omega) dX4_bestToMend_62 ?_
        refine Tst (st' := [.int (enc (N 6 (i : Int)))]) rfl ?_
        have b3 := hB 6 (i : Int)
        refine tw_if_ne (tgt := 99) X (In_of (by omega) (by omega)) dX4_bestToMend_63 (by decide) (fun c63 => ?_) (fun c63 => ?_)
        · skip
          have eT : bestI N (i + 1) = bestI N i := bestI_n (fun z => c63 z.1)
          refine tw_iinc (q := 4) (x := (i : Int)) (y := (i : Int) + 1) (lv' := [(4, .int (enc ((i : Int) + 1))), (0, .ref (q 0)), (1, .int (enc ((bestI N i).1))), (2, .int (enc (N 20 0 + 24))), (3, .int (enc ((bestI N i).2)))]) X dX4_bestToMend_99 rfl rfl (by decide) rfl ?_
          refine tw_goto (tgt := 35) X dX4_bestToMend_102 (by decide) ?_
          refine Tsub (lv' := [(0, .ref (q 0)), (1, .int (enc ((bestI N i).1))), (2, .int (enc (N 20 0 + 24))), (3, .int (enc ((bestI N i).2))), (4, .int (enc ((i : Int) + 1)))]) [1, 2, 3, 4, 0] rfl ?_
          refine Teq (ws' := wD cy q N sN oN (Ui) (si) (oi) A) (lv' := [(0, .ref (q 0)), (1, .int (enc ((bestI N (i + 1)).1))), (2, .int (enc (N 20 0 + 24))), (3, .int (enc ((bestI N (i + 1)).2))), (4, .int (enc (((i + 1 : Nat) : Int))))]) (st' := []) (rfl) (lvk (lvc (by rw [eT]) (lvk (lvc (by rw [eT]) (lvc (i_succ i) (rfl)))))) rfl (ih35 (i + 1) (Ui) (si) (oi) (by omega) (by omega))
        · skip
          refine tw_aload_n X dX4_bestToMend_66 0 rfl rfl ?_
          refine tw_iload X dX4_bestToMend_67 4 rfl ?_
          refine tw_bipush X dX4_bestToMend_69 (by decide) ?_
          refine tw_callV X (As := [.int (enc ((i : Int))), .int (enc (24))]) (st := []) vw_X4_179 (m_X4_foresee (q := q) N sN oN Ui si oi A ((i : Int)) (24) 24 rfl (by omega) B hF hB2 hV (Or.inr ⟨by omega, c47⟩)) ([]) ([]) rfl rfl (q0 := 0) rfl rfl rfl ⟨rfl, rfl, Nat.le_of_ble_eq_true rfl, Nat.le_of_ble_eq_true rfl⟩ ⟨Nat.le_of_ble_eq_true rfl, Nat.le_of_ble_eq_true rfl⟩ (Nat.le_of_ble_eq_true rfl) dX4_bestToMend_71 (fun v w1 hp => ?_)
          obtain ⟨rfl, U2, su, ou, hFS, rfl⟩ := hp
          refine Teq (ws' := wD cy q N sN oN U2 su ou A) (lv' := [(0, .ref (q 0)), (1, .int (enc ((bestI N i).1))), (2, .int (enc (N 20 0 + 24))), (3, .int (enc ((bestI N i).2))), (4, .int (enc ((i : Int))))]) (st' := []) rfl rfl rfl ?_
          have e17 := hFS.2.1
          have efA := hFS.fA h17 (N 20 0 + 24)
          have rb := bestI_rng hF hB2 i
          have ra := foreA_rng (m := (i : Int)) hF hB2 (h := 24) (by omega) (x := N 20 0 + 24) (by omega)
          refine tw_aload_n X dX4_bestToMend_74 0 rfl rfl ?_
          refine gf_X4_16 X (v := .ref (q 22)) 0 rfl rfl dX4_bestToMend_75 ?_
          refine gf_X4_69 X (v := .ref (q 31)) 22 rfl rfl dX4_bestToMend_78 ?_
          refine tw_iload_n X dX4_bestToMend_81 2 rfl rfl ?_
          refine tw_callV X (As := [.int (enc (N 20 0 + 24))]) (st := []) vw_X4_185 (m_X1_frayOfAll (q := (fun i => q (31 + i))) U2 (N 20 0 + 24) hFS.1 (by omega) (by omega)) (([(q 0, .inr (4, [.ref (q 1), .ref (q 22), .ref (q 43)]))]) ++ ([(q 1, .inr (3, [.ref (q 2), .ref (q 10), .ref (q 20), .int (enc (N 19 0)), .int (enc (N 20 0)), .int (enc (oN))]))]) ++ (wR cy (fun i => q (2 + i)) N) ++ (wT cy (fun i => q (10 + i)) N) ++ (wY cy (fun i => q (20 + i)) sN) ++ ([(q 22, .inr (3, [.ref (q 23), .ref (q 31), .ref (q 41), .int (enc (U2 19 0)), .int (enc (U2 20 0)), .int (enc (ou))]))]) ++ (wR cy (fun i => q (23 + i)) U2)) ((wY cy (fun i => q (41 + i)) su) ++ (wY cy (fun i => q (43 + i)) A)) rfl rfl (q0 := 0) rfl rfl rfl ⟨rfl, rfl, Nat.le_of_ble_eq_true rfl, Nat.le_of_ble_eq_true rfl⟩ ⟨Nat.le_of_ble_eq_true rfl, Nat.le_of_ble_eq_true rfl⟩ (Nat.le_of_ble_eq_true rfl) dX4_bestToMend_82 (fun v w1 hp => ?_)
          obtain ⟨rfl, rfl⟩ := hp
          refine Teq (ws' := wD cy q N sN oN U2 su ou A) (lv' := [(0, .ref (q 0)), (1, .int (enc ((bestI N i).1))), (2, .int (enc (N 20 0 + 24))), (3, .int (enc ((bestI N i).2))), (4, .int (enc ((i : Int))))]) (st' := [.int (enc (frA U2 (N 20 0 + 24) (U2 17 0).toNat))]) rfl rfl rfl ?_
          refine tw_istore (lv' := [(5, .int (enc (frA U2 (N 20 0 + 24) (U2 17 0).toNat))), (0, .ref (q 0)), (1, .int (enc ((bestI N i).1))), (2, .int (enc (N 20 0 + 24))), (3, .int (enc ((bestI N i).2))), (4, .int (enc ((i : Int))))]) X dX4_bestToMend_85 (by decide) rfl ?_
          refine tw_iload X dX4_bestToMend_87 0 rfl ?_
          refine tw_iload_n X dX4_bestToMend_89 4 rfl rfl ?_
          refine tw_icmp_ge (tgt := 99) X (In_of (by omega) (by omega)) (In_of (by omega) (by omega)) dX4_bestToMend_90 (by decide) (fun c90 => ?_) (fun c90 => ?_)
          · skip
            have eT : bestI N (i + 1) = bestI N i := bestI_n (fun z => by omega)
            refine tw_iinc (q := 5) (x := (i : Int)) (y := (i : Int) + 1) (lv' := [(4, .int (enc ((i : Int) + 1))), (5, .int (enc (frA U2 (N 20 0 + 24) (U2 17 0).toNat))), (0, .ref (q 0)), (1, .int (enc ((bestI N i).1))), (2, .int (enc (N 20 0 + 24))), (3, .int (enc ((bestI N i).2)))]) X dX4_bestToMend_99 rfl rfl (by decide) rfl ?_
            refine tw_goto (tgt := 35) X dX4_bestToMend_102 (by decide) ?_
            refine Tsub (lv' := [(0, .ref (q 0)), (1, .int (enc ((bestI N i).1))), (2, .int (enc (N 20 0 + 24))), (3, .int (enc ((bestI N i).2))), (4, .int (enc ((i : Int) + 1)))]) [2, 3, 4, 5, 0] rfl ?_
            refine Teq (ws' := wD cy q N sN oN (U2) (su) (ou) A) (lv' := [(0, .ref (q 0)), (1, .int (enc ((bestI N (i + 1)).1))), (2, .int (enc (N 20 0 + 24))), (3, .int (enc ((bestI N (i + 1)).2))), (4, .int (enc (((i + 1 : Nat) : Int))))]) (st' := []) (rfl) (lvk (lvc (by rw [eT]) (lvk (lvc (by rw [eT]) (lvc (i_succ i) (rfl)))))) rfl (ih35 (i + 1) (U2) (su) (ou) (by omega) (by omega))
          · skip
            have eT : bestI N (i + 1) = ((i : Int), frA U2 (N 20 0 + 24) (U2 17 0).toNat) := by rw [efA]; exact bestI_y c63 (by omega)
            refine tw_iload X dX4_bestToMend_93 0 rfl ?_
            refine tw_istore_n (lv' := [(3, .int (enc (frA U2 (N 20 0 + 24) (U2 17 0).toNat))), (5, .int (enc (frA U2 (N 20 0 + 24) (U2 17 0).toNat))), (0, .ref (q 0)), (1, .int (enc ((bestI N i).1))), (2, .int (enc (N 20 0 + 24))), (4, .int (enc ((i : Int))))]) X dX4_bestToMend_95 rfl (by decide) rfl ?_
            refine tw_iload X dX4_bestToMend_96 5 rfl ?_
            refine tw_istore_n (lv' := [(1, .int (enc ((i : Int)))), (3, .int (enc (frA U2 (N 20 0 + 24) (U2 17 0).toNat))), (5, .int (enc (frA U2 (N 20 0 + 24) (U2 17 0).toNat))), (0, .ref (q 0)), (2, .int (enc (N 20 0 + 24))), (4, .int (enc ((i : Int))))]) X dX4_bestToMend_98 rfl (by decide) rfl ?_
            refine tw_iinc (q := 5) (x := (i : Int)) (y := (i : Int) + 1) (lv' := [(4, .int (enc ((i : Int) + 1))), (1, .int (enc ((i : Int)))), (3, .int (enc (frA U2 (N 20 0 + 24) (U2 17 0).toNat))), (5, .int (enc (frA U2 (N 20 0 + 24) (U2 17 0).toNat))), (0, .ref (q 0)), (2, .int (enc (N 20 0 + 24)))]) X dX4_bestToMend_99 rfl rfl (by decide) rfl ?_
            refine tw_goto (tgt := 35) X dX4_bestToMend_102 (by decide) ?_
            refine Tsub (lv' := [(0, .ref (q 0)), (1, .int (enc ((i : Int)))), (2, .int (enc (N 20 0 + 24))), (3, .int (enc (frA U2 (N 20 0 + 24) (U2 17 0).toNat))), (4, .int (enc ((i : Int) + 1)))]) [4, 1, 5, 2, 0] rfl ?_
            refine Teq (ws' := wD cy q N sN oN (U2) (su) (ou) A) (lv' := [(0, .ref (q 0)), (1, .int (enc ((bestI N (i + 1)).1))), (2, .int (enc (N 20 0 + 24))), (3, .int (enc ((bestI N (i + 1)).2))), (4, .int (enc (((i + 1 : Nat) : Int))))]) (st' := []) (rfl) (lvk (lvc (by rw [eT]) (lvk (lvc (by rw [eT]) (lvc (i_succ i) (rfl)))))) rfl (ih35 (i + 1) (U2) (su) (ou) (by omega) (by omega))
  refine Tsub (lv' := [(0, .ref (q 0)), (1, .int (enc (-1))), (2, .int (enc (N 20 0 + 24))), (3, .int (enc (frA U1 (N 20 0 + 24) (U1 17 0).toNat))), (4, .int (enc (0)))]) [4, 3, 2, 1, 0] rfl ?_
  refine Teq (ws' := wD cy q N sN oN (U1) (su) (ou) A) (lv' := [(0, .ref (q 0)), (1, .int (enc ((bestI N 0).1))), (2, .int (enc (N 20 0 + 24))), (3, .int (enc ((bestI N 0).2))), (4, .int (enc (((0 : Nat) : Int))))]) (st' := []) (rfl) (lvk (lvk (lvk (lvc (hFS.fA h17 _) (lvk (rfl)))))) rfl (L35 (N 16 0 + 1).toNat 0 (U1) (su) (ou) (by omega) (by omega))
def sumL (N : MT) : Nat → Int
  | 0 => 0
  | r + 1 => sumL N r + len N r
theorem sumL_s (N : MT) (r : Nat) : sumL N (r + 1) = sumL N r + len N r := rfl
theorem sumL_rng {N : MT} (hW : WFR N) : ∀ n : Nat, (n : Int) ≤ N 16 0 → 0 ≤ sumL N n ∧ sumL N n ≤ 12 * (n : Int)
  | 0, _ => ⟨Int.le_refl _, Int.le_refl _⟩
  | n + 1, h => by
    have := sumL_rng hW n (by omega)
    have := hW.ln (r := (n : Int)) (by omega) (by omega)
    rw [sumL_s]
    omega
theorem nan_all : ∀ b : Fin 20, ∀ a : Fin 241, (FP.ddiv (FP.i2d (enc (a.val : Int))) (FP.i2d (enc ((b.val + 1 : Nat) : Int)))) &&& 0x7fffffffffffffff ≤ 0x7ff0000000000000 := by decide +kernel
theorem nan_ok {x y : Int} (hx : 0 ≤ x ∧ x ≤ 240) (hy : 1 ≤ y ∧ y ≤ 20) : vf_n64 (FP.ddiv (FP.i2d (enc x)) (FP.i2d (enc y))) := by
  have h := nan_all ⟨(y - 1).toNat, by omega⟩ ⟨x.toNat, by omega⟩
  have e1 : ((x.toNat : Nat) : Int) = x := by omega
  have e2 : (((y - 1).toNat + 1 : Nat) : Int) = y := by omega
  unfold vf_n64
  rw [← e1, ← e2]
  exact h
noncomputable def meanM (N : MT) : UInt64 := if N 16 0 = 0 then FP.dconst0 else FP.ddiv (FP.i2d (enc (sumL N (N 16 0).toNat))) (FP.i2d (enc (N 16 0)))
set_option maxRecDepth 100000 in
set_option maxHeartbeats 4000000 in
theorem m_X4_meanLength {G : va_G} {cy : ClassId} {q : Nat → Nat} (N : MT) (sN : Int → Int) (oN : Int) (U : MT) (sU : Int → Int) (oU : Int) (A : Int → Int) (hW : WFR N) (hB : Bd N) : Ct G cy yX4_meanLength cX4_meanLength 4 (some .double) ({ frames := 1, cells := 0, slots := 0, locals := 21 } : Room) 0 0 [.ref (q 0)] (wD cy q N sN oN U sU oU A) (fun v w1 => v = some (.double (meanM N)) ∧ w1 = wD cy q N sN oN U sU oU A) := by
  refine Ct.ofD (by decide) (Nat.le_of_ble_eq_true rfl) rfl rfl ?_
  intro c X ret
  obtain ⟨w0, w1, w2, w3, w4⟩ := id hW
  refine Tlv (lv' := [(0, .ref (q 0))]) rfl ?_
  refine tw_aload_n X dX4_meanLength_0 0 rfl rfl ?_
  refine gf_X4_10 X (v := .ref (q 1)) 0 rfl rfl dX4_meanLength_1 ?_
  refine gf_X4_54 X (v := .ref (q 2)) 1 rfl rfl dX4_meanLength_4 ?_
  refine gf_X4_58 X (v := .int (enc (N 16 0))) 2 rfl rfl dX4_meanLength_7 ?_
  have b1 := hB 16 0
  refine tw_istore_n (lv' := [(1, .int (enc (N 16 0))), (0, .ref (q 0))]) X dX4_meanLength_10 rfl (by decide) rfl ?_
  refine tw_iload_n X dX4_meanLength_11 0 rfl rfl ?_
  refine tw_if_ne (tgt := 17) X (In_of (by omega) (by omega)) dX4_meanLength_12 (by decide) (fun c12 => ?_) (fun c12 => ?_)
  · skip
    refine tw_iconst X dX4_meanLength_17 ?_
    refine tw_istore_n (lv' := [(2, .int (enc (0))), (1, .int (enc (N 16 0))), (0, .ref (q 0))]) X dX4_meanLength_18 rfl (by decide) rfl ?_
    refine tw_iconst X dX4_meanLength_19 ?_
    refine tw_istore_n (lv' := [(3, .int (enc (0))), (2, .int (enc (0))), (1, .int (enc (N 16 0))), (0, .ref (q 0))]) X dX4_meanLength_20 rfl (by decide) rfl ?_
    have L21 : ∀ (fu i : Nat), (i : Int) ≤ N 16 0 → N 16 0 + 1 ≤ (i : Int) + fu → T G c ({ frames := 1, cells := 0, slots := 0, locals := 21 } : Room) 4 0 0 (wD cy q N sN oN U sU oU A) 21 [(0, .ref (q 0)), (1, .int (enc (N 16 0))), (2, .int (enc (sumL N i))), (3, .int (enc ((i : Int))))] [] := by
      intro fu
      induction fu with
      | zero =>
        intro i  hi0 hi1
        exact absurd hi1 (by omega)
      | succ fu ih21 =>
        intro i  hi0_21 hi1_21 
        refine tw_iload_n X dX4_meanLength_21 3 rfl rfl ?_
        refine tw_iload_n X dX4_meanLength_22 1 rfl rfl ?_
        refine tw_icmp_ge (tgt := 46) X (In_of (by omega) (by omega)) (In_of (by omega) (by omega)) dX4_meanLength_23 (by decide) (fun c23 => ?_) (fun c23 => ?_)
        · skip
          have ei : (N 16 0).toNat = i := by omega
          have hs := sumL_rng hW i (by omega)
          refine tw_iload_n X dX4_meanLength_46 2 rfl rfl ?_
          refine tw_i2d X dX4_meanLength_47 ?_
          refine tw_iload_n X dX4_meanLength_48 1 rfl rfl ?_
          refine tw_i2d X dX4_meanLength_49 ?_
          refine tw_ddiv X (nan_ok (by omega) (by omega)) dX4_meanLength_50 ?_
          exact ret _ _ _ _ dX4_meanLength_51 ⟨by unfold meanM; rw [if_neg c12, ei], rfl⟩
        · skip
          refine tw_iload_n X dX4_meanLength_26 2 rfl rfl ?_
          refine tw_aload_n X dX4_meanLength_27 0 rfl rfl ?_
          refine gf_X4_10 X (v := .ref (q 1)) 0 rfl rfl dX4_meanLength_28 ?_
          refine gf_X4_54 X (v := .ref (q 2)) 1 rfl rfl dX4_meanLength_31 ?_
          refine tw_iload_n X dX4_meanLength_34 3 rfl rfl ?_
          refine tw_callV X (As := [.int (enc ((i : Int)))]) (st := [.int (enc (sumL N i))]) vw_X4_132 (m_X0_lengthNow (q := (fun i => q (2 + i))) N ((i : Int)) (by omega)) (([(q 0, .inr (4, [.ref (q 1), .ref (q 22), .ref (q 43)]))]) ++ ([(q 1, .inr (3, [.ref (q 2), .ref (q 10), .ref (q 20), .int (enc (N 19 0)), .int (enc (N 20 0)), .int (enc (oN))]))])) ((wT cy (fun i => q (10 + i)) N) ++ (wY cy (fun i => q (20 + i)) sN) ++ ([(q 22, .inr (3, [.ref (q 23), .ref (q 31), .ref (q 41), .int (enc (U 19 0)), .int (enc (U 20 0)), .int (enc (oU))]))]) ++ (wR cy (fun i => q (23 + i)) U) ++ (wT cy (fun i => q (31 + i)) U) ++ (wY cy (fun i => q (41 + i)) sU) ++ (wY cy (fun i => q (43 + i)) A)) rfl rfl (q0 := 0) rfl rfl rfl ⟨rfl, rfl, Nat.le_of_ble_eq_true rfl, Nat.le_of_ble_eq_true rfl⟩ ⟨Nat.le_of_ble_eq_true rfl, Nat.le_of_ble_eq_true rfl⟩ (Nat.le_of_ble_eq_true rfl) dX4_meanLength_35 (fun v w1 hp => ?_)
          obtain ⟨rfl, rfl⟩ := hp
          refine Teq (ws' := wD cy q N sN oN U sU oU A) (lv' := [(0, .ref (q 0)), (1, .int (enc (N 16 0))), (2, .int (enc (sumL N i))), (3, .int (enc ((i : Int))))]) (st' := [.int (enc (len N (i : Int))), .int (enc (sumL N i))]) rfl rfl rfl ?_
          refine tw_iadd (z := (sumL N i) + (len N (i : Int))) X dX4_meanLength_38 rfl ?_
          refine tw_istore_n (lv' := [(2, .int (enc ((sumL N i) + (len N (i : Int))))), (0, .ref (q 0)), (1, .int (enc (N 16 0))), (3, .int (enc ((i : Int))))]) X dX4_meanLength_39 rfl (by decide) rfl ?_
          refine tw_iinc (q := 3) (x := (i : Int)) (y := (i : Int) + 1) (lv' := [(3, .int (enc ((i : Int) + 1))), (2, .int (enc ((sumL N i) + (len N (i : Int))))), (0, .ref (q 0)), (1, .int (enc (N 16 0)))]) X dX4_meanLength_40 rfl rfl (by decide) rfl ?_
          refine tw_goto (tgt := 21) X dX4_meanLength_43 (by decide) ?_
          refine Tsub (lv' := [(0, .ref (q 0)), (1, .int (enc (N 16 0))), (2, .int (enc ((sumL N i) + (len N (i : Int))))), (3, .int (enc ((i : Int) + 1)))]) [2, 3, 1, 0] rfl ?_
          refine Teq (ws' := wD cy q N sN oN U sU oU A) (lv' := [(0, .ref (q 0)), (1, .int (enc (N 16 0))), (2, .int (enc (sumL N (i + 1)))), (3, .int (enc (((i + 1 : Nat) : Int))))]) (st' := []) (rfl) (lvk (lvk (lvc (by rw [sumL_s]) (lvc (i_succ i) (rfl))))) rfl (ih21 (i + 1) (by omega) (by omega))
    refine Tsub (lv' := [(0, .ref (q 0)), (1, .int (enc (N 16 0))), (2, .int (enc (0))), (3, .int (enc (0)))]) [3, 2, 1, 0] rfl ?_
    refine Teq (ws' := wD cy q N sN oN U sU oU A) (lv' := [(0, .ref (q 0)), (1, .int (enc (N 16 0))), (2, .int (enc (sumL N 0))), (3, .int (enc (((0 : Nat) : Int))))]) (st' := []) (rfl) (rfl) rfl (L21 (N 16 0 + 1).toNat 0 (by omega) (by omega))
  · skip
    refine tw_dconst0 X dX4_meanLength_15 ?_
    exact ret _ _ _ _ dX4_meanLength_16 ⟨by unfold meanM; rw [if_pos c12], rfl⟩
def wv (d : Int64) (z : Int) : Int64 := d * 31 + Int64.ofInt z
def dgR (N : MT) (d : Int64) : Nat → Int64
  | 0 => d
  | r + 1 => wv (wv (wv (wv (wv (dgR N d r) (len N r)) (N 4 r)) (N 5 r)) (N 6 r)) (onR N r (N 17 0).toNat)
noncomputable def dgT (N : MT) (d : Int64) : Nat → Int64
  | 0 => d
  | t + 1 => wv (wv (wv (wv (wv (wv (dgT N d t) (N 7 t)) (N 8 t)) (N 12 t)) (frayAt N t (N 20 0))) (if 0 ≤ N 15 t then 1 else 0)) (untilM N t)
theorem dgR_s (N : MT) (d : Int64) (r : Nat) : dgR N d (r + 1) = wv (wv (wv (wv (wv (dgR N d r) (len N r)) (N 4 r)) (N 5 r)) (N 6 r)) (onR N r (N 17 0).toNat) := rfl
theorem dgT_s (N : MT) (d : Int64) (t : Nat) : dgT N d (t + 1) = wv (wv (wv (wv (wv (wv (dgT N d t) (N 7 t)) (N 8 t)) (N 12 t)) (frayAt N t (N 20 0))) (if 0 ≤ N 15 t then 1 else 0)) (untilM N t) := rfl
noncomputable def digM (N : MT) : Int64 := dgT N (dgR N (wv (wv (wv (wv (wv (wv (wv (wv (wv (wv (2153 : Int64) (N 20 0)) (N 19 0)) (N 16 0)) (N 17 0)) (N 18 0)) (cntC N (N 16 0).toNat)) (frI N (N 17 0).toNat)) (mostW N (N 16 0).toNat).1) (pdP N (N 19 0).toNat)) (bestM N)) (N 16 0).toNat) (N 17 0).toNat
theorem lvl {j : Nat} {a b : Int64} {l l' : List (Nat × Value)} (h : a = b) (h2 : l = l') : (j, Value.long a) :: l = (j, Value.long b) :: l' := by rw [h, h2]
theorem untilM_rng {N : MT} {B : Int} (hF : WF N B) (hB : B ≤ 800000) (t : Int) : -3000000 ≤ untilM N t ∧ untilM N t ≤ 3000000 := by
  have a := hF.1 13 t
  have b := (hF.hours 100).1 15 t
  have c := hF.1 20 0
  unfold untilM
  split
  · omega
  · split <;> omega
theorem cntC_rng (M : MT) : ∀ n : Nat, 0 ≤ cntC M n ∧ cntC M n ≤ n
  | 0 => ⟨Int.le_refl _, Int.le_refl _⟩
  | n + 1 => by
    have := cntC_rng M n
    rw [cntC_s]
    split <;> omega
theorem mostW_rng (M : MT) : ∀ n : Nat, -1 ≤ (mostW M n).1 ∧ (mostW M n).1 < n
  | 0 => ⟨Int.le_refl _, by show (-1 : Int) < ((0 : Nat) : Int); decide⟩
  | n + 1 => by
    have ih := mostW_rng M n
    by_cases h : M 6 n = 0 ∧ (mostW M n).2 < M 4 n
    · rw [mostW_y h.1 h.2]
      exact ⟨by show (-1 : Int) ≤ (n : Int); omega, by show (n : Int) < ((n + 1 : Nat) : Int); omega⟩
    · rw [mostW_n (by omega)]; omega
theorem bestM_rng (N : MT) : ∀ n : Nat, -1 ≤ (bestI N n).1 ∧ (bestI N n).1 < n
  | 0 => ⟨Int.le_refl _, by show (-1 : Int) < ((0 : Nat) : Int); decide⟩
  | n + 1 => by
    have ih := bestM_rng N n
    by_cases h : N 6 n = 0 ∧ foreA N n 24 (N 20 0 + 24) < (bestI N n).2
    · rw [bestI_y h.1 h.2]
      exact ⟨by show (-1 : Int) ≤ (n : Int); omega, by show (n : Int) < ((n + 1 : Nat) : Int); omega⟩
    · rw [bestI_n h]; omega
set_option maxRecDepth 100000 in
set_option maxHeartbeats 4000000 in
theorem m_X4_woven {G : va_G} {cy : ClassId} (d x : Int64) : Ct G cy yX4_woven cX4_woven 4 (some .long) ({ frames := 0, cells := 0, slots := 0, locals := 0 } : Room) 0 0 [.long (d), .long (x)] ([]) (fun v w1 => v = some (.long (d * 31 + x)) ∧ w1 = []) := by
  refine Ct.ofL (by decide) (Nat.le_of_ble_eq_true rfl) rfl rfl ?_
  intro c X ret
  refine Tlv (lv' := [(0, .long (d)), (2, .long (x))]) rfl ?_
  refine tw_lload_n X dX4_woven_0 0 rfl rfl ?_
  refine tw_ldc2 X wk_X4_227 dX4_woven_1 ?_
  refine tw_lmul X dX4_woven_4 ?_
  refine tw_lload_n X dX4_woven_5 1 rfl rfl ?_
  refine tw_ladd X dX4_woven_6 ?_
  exact ret _ _ _ _ dX4_woven_7 ⟨rfl, rfl⟩
set_option maxRecDepth 100000 in
set_option maxHeartbeats 4000000 in
theorem m_X4_digestOfRoads {G : va_G} {cy : ClassId} {q : Nat → Nat} (N : MT) (sN : Int → Int) (oN : Int) (U : MT) (sU : Int → Int) (oU : Int) (A : Int → Int) (d : Int64) (B : Int) (hF : WF N B) (hB2 : B ≤ 800000) : Ct G cy yX4_digestOfRoads cX4_digestOfRoads 6 (some .long) ({ frames := 1, cells := 0, slots := 0, locals := 23 } : Room) 0 0 [.ref (q 0), .long (d)] (wD cy q N sN oN U sU oU A) (fun v w1 => v = some (.long (dgR N d (N 16 0).toNat)) ∧ w1 = wD cy q N sN oN U sU oU A) := by
  refine Ct.ofL (by decide) (Nat.le_of_ble_eq_true rfl) rfl rfl ?_
  intro c X ret
  have hB := hF.bd (by omega)
  obtain ⟨w0, w1, w2, w3, w4⟩ := hF.r
  have h17 := hF.2.2.2.2.2.1
  have h172 := hF.2.2.2.2.2.2.1
  have h20 := hF.2.2.2.2.2.2.2.1
  refine Tlv (lv' := [(0, .ref (q 0)), (1, .long (d))]) rfl ?_
  refine tw_lload_n X dX4_digestOfRoads_0 1 rfl rfl ?_
  refine tw_lstore_n (lv' := [(3, .long (d)), (0, .ref (q 0)), (1, .long (d))]) X dX4_digestOfRoads_1 rfl (by decide) rfl ?_
  refine tw_iconst X dX4_digestOfRoads_2 ?_
  refine tw_istore (lv' := [(5, .int (enc (0))), (3, .long (d)), (0, .ref (q 0)), (1, .long (d))]) X dX4_digestOfRoads_3 (by decide) rfl ?_
  have L5 : ∀ (fu i : Nat), (i : Int) ≤ N 16 0 → N 16 0 + 1 ≤ (i : Int) + fu → T G c ({ frames := 1, cells := 0, slots := 0, locals := 23 } : Room) 6 0 0 (wD cy q N sN oN U sU oU A) 5 [(0, .ref (q 0)), (1, .long (d)), (3, .long (dgR N d i)), (5, .int (enc ((i : Int))))] [] := by
    intro fu
    induction fu with
    | zero =>
      intro i  hi0 hi1
      exact absurd hi1 (by omega)
    | succ fu ih5 =>
      intro i  hi0_5 hi1_5 
      refine tw_iload X dX4_digestOfRoads_5 3 rfl ?_
      refine tw_aload_n X dX4_digestOfRoads_7 0 rfl rfl ?_
      refine gf_X4_10 X (v := .ref (q 1)) 0 rfl rfl dX4_digestOfRoads_8 ?_
      refine gf_X4_54 X (v := .ref (q 2)) 1 rfl rfl dX4_digestOfRoads_11 ?_
      refine gf_X4_58 X (v := .int (enc (N 16 0))) 2 rfl rfl dX4_digestOfRoads_14 ?_
      have b1 := hB 16 0
      refine tw_icmp_ge (tgt := 119) X (In_of (by omega) (by omega)) (In_of (by omega) (by omega)) dX4_digestOfRoads_17 (by decide) (fun c17 => ?_) (fun c17 => ?_)
      · skip
        refine tw_lload_n X dX4_digestOfRoads_119 2 rfl rfl ?_
        exact ret _ _ _ _ dX4_digestOfRoads_120 ⟨by rw [show (N 16 0).toNat = i by omega], rfl⟩
      · skip
        refine tw_lload_n X dX4_digestOfRoads_20 2 rfl rfl ?_
        refine tw_aload_n X dX4_digestOfRoads_21 0 rfl rfl ?_
        refine gf_X4_10 X (v := .ref (q 1)) 0 rfl rfl dX4_digestOfRoads_22 ?_
        refine gf_X4_54 X (v := .ref (q 2)) 1 rfl rfl dX4_digestOfRoads_25 ?_
        refine tw_iload X dX4_digestOfRoads_28 3 rfl ?_
        refine tw_callV X (As := [.int (enc ((i : Int)))]) (st := [.long (dgR N d i)]) vw_X4_132 (m_X0_lengthNow (q := (fun i => q (2 + i))) N ((i : Int)) (by omega)) (([(q 0, .inr (4, [.ref (q 1), .ref (q 22), .ref (q 43)]))]) ++ ([(q 1, .inr (3, [.ref (q 2), .ref (q 10), .ref (q 20), .int (enc (N 19 0)), .int (enc (N 20 0)), .int (enc (oN))]))])) ((wT cy (fun i => q (10 + i)) N) ++ (wY cy (fun i => q (20 + i)) sN) ++ ([(q 22, .inr (3, [.ref (q 23), .ref (q 31), .ref (q 41), .int (enc (U 19 0)), .int (enc (U 20 0)), .int (enc (oU))]))]) ++ (wR cy (fun i => q (23 + i)) U) ++ (wT cy (fun i => q (31 + i)) U) ++ (wY cy (fun i => q (41 + i)) sU) ++ (wY cy (fun i => q (43 + i)) A)) rfl rfl (q0 := 0) rfl rfl rfl ⟨rfl, rfl, Nat.le_of_ble_eq_true rfl, Nat.le_of_ble_eq_true rfl⟩ ⟨Nat.le_of_ble_eq_true rfl, Nat.le_of_ble_eq_true rfl⟩ (Nat.le_of_ble_eq_true rfl) dX4_digestOfRoads_30 (fun v w1 hp => ?_)
        obtain ⟨rfl, rfl⟩ := hp
        refine Teq (ws' := wD cy q N sN oN U sU oU A) (lv' := [(0, .ref (q 0)), (1, .long (d)), (3, .long (dgR N d i)), (5, .int (enc ((i : Int))))]) (st' := [.int (enc (len N (i : Int))), .long (dgR N d i)]) rfl rfl rfl ?_
        have hl := hF.r.ln (r := (i : Int)) (by omega) c17
        refine tw_i2l X (In_of (by omega) (by omega)) dX4_digestOfRoads_33 ?_
        refine tw_callS X (As := [.long (dgR N d i), .long (Int64.ofInt (len N (i : Int)))]) (st := []) sw_X4_192 (m_X4_woven (dgR N d i) (Int64.ofInt (len N (i : Int)))) ([]) (wD cy q N sN oN U sU oU A) rfl rfl rfl ⟨rfl, rfl, Nat.le_of_ble_eq_true rfl, Nat.le_of_ble_eq_true rfl⟩ ⟨Nat.le_of_ble_eq_true rfl, Nat.le_of_ble_eq_true rfl⟩ (Nat.le_of_ble_eq_true rfl) dX4_digestOfRoads_34 (fun v w1 hp => ?_)
        obtain ⟨rfl, rfl⟩ := hp
        refine Teq (ws' := wD cy q N sN oN U sU oU A) (lv' := [(0, .ref (q 0)), (1, .long (d)), (3, .long (dgR N d i)), (5, .int (enc ((i : Int))))]) (st' := [.long (wv (dgR N d i) (len N (i : Int)))]) rfl rfl rfl ?_
        refine tw_lstore_n (lv' := [(3, .long (wv (dgR N d i) (len N (i : Int)))), (0, .ref (q 0)), (1, .long (d)), (5, .int (enc ((i : Int))))]) X dX4_digestOfRoads_37 rfl (by decide) rfl ?_
        refine tw_lload_n X dX4_digestOfRoads_38 0 rfl rfl ?_
        refine tw_aload_n X dX4_digestOfRoads_39 1 rfl rfl ?_
        refine gf_X4_10 X (v := .ref (q 1)) 0 rfl rfl dX4_digestOfRoads_40 ?_
        refine gf_X4_54 X (v := .ref (q 2)) 1 rfl rfl dX4_digestOfRoads_43 ?_
        refine gf_X4_105 X (v := .ref (q 7)) 2 rfl rfl dX4_digestOfRoads_46 ?_
        refine tw_iload X dX4_digestOfRoads_49 3 rfl ?_
        refine tw_iald X (N := 20) (f := (N 4)) 7 rfl (by decide) (by omega) dX4_digestOfRoads_51 ?_
        refine Tst (st' := [.int (enc (N 4 (i : Int))), .long (wv (dgR N d i) (len N (i : Int)))]) rfl ?_
        have b2 := hB 4 (i : Int)
        refine tw_i2l X (In_of (by omega) (by omega)) dX4_digestOfRoads_52 ?_
        refine tw_callS X (As := [.long (wv (dgR N d i) (len N (i : Int))), .long (Int64.ofInt (N 4 (i : Int)))]) (st := []) sw_X4_192 (m_X4_woven (wv (dgR N d i) (len N (i : Int))) (Int64.ofInt (N 4 (i : Int)))) ([]) (wD cy q N sN oN U sU oU A) rfl rfl rfl ⟨rfl, rfl, Nat.le_of_ble_eq_true rfl, Nat.le_of_ble_eq_true rfl⟩ ⟨Nat.le_of_ble_eq_true rfl, Nat.le_of_ble_eq_true rfl⟩ (Nat.le_of_ble_eq_true rfl) dX4_digestOfRoads_53 (fun v w1 hp => ?_)
        obtain ⟨rfl, rfl⟩ := hp
        refine Teq (ws' := wD cy q N sN oN U sU oU A) (lv' := [(3, .long (wv (dgR N d i) (len N (i : Int)))), (0, .ref (q 0)), (1, .long (d)), (5, .int (enc ((i : Int))))]) (st' := [.long (wv (wv (dgR N d i) (len N (i : Int))) (N 4 (i : Int)))]) rfl rfl rfl ?_
        refine tw_lstore_n (lv' := [(3, .long (wv (wv (dgR N d i) (len N (i : Int))) (N 4 (i : Int)))), (0, .ref (q 0)), (1, .long (d)), (5, .int (enc ((i : Int))))]) X dX4_digestOfRoads_56 rfl (by decide) rfl ?_
        refine tw_lload_n X dX4_digestOfRoads_57 0 rfl rfl ?_
        refine tw_aload_n X dX4_digestOfRoads_58 1 rfl rfl ?_
        refine gf_X4_10 X (v := .ref (q 1)) 0 rfl rfl dX4_digestOfRoads_59 ?_
        refine gf_X4_54 X (v := .ref (q 2)) 1 rfl rfl dX4_digestOfRoads_62 ?_
        refine gf_X4_135 X (v := .ref (q 8)) 2 rfl rfl dX4_digestOfRoads_65 ?_
        refine tw_iload X dX4_digestOfRoads_68 3 rfl ?_
        refine tw_iald X (N := 20) (f := (N 5)) 8 rfl (by decide) (by omega) dX4_digestOfRoads_70 ?_
        refine Tst (st' := [.int (enc (N 5 (i : Int))), .long (wv (wv (dgR N d i) (len N (i : Int))) (N 4 (i : Int)))]) rfl ?_
        have b3 := hB 5 (i : Int)
        refine tw_i2l X (In_of (by omega) (by omega)) dX4_digestOfRoads_71 ?_
        refine tw_callS X (As := [.long (wv (wv (dgR N d i) (len N (i : Int))) (N 4 (i : Int))), .long (Int64.ofInt (N 5 (i : Int)))]) (st := []) sw_X4_192 (m_X4_woven (wv (wv (dgR N d i) (len N (i : Int))) (N 4 (i : Int))) (Int64.ofInt (N 5 (i : Int)))) ([]) (wD cy q N sN oN U sU oU A) rfl rfl rfl ⟨rfl, rfl, Nat.le_of_ble_eq_true rfl, Nat.le_of_ble_eq_true rfl⟩ ⟨Nat.le_of_ble_eq_true rfl, Nat.le_of_ble_eq_true rfl⟩ (Nat.le_of_ble_eq_true rfl) dX4_digestOfRoads_72 (fun v w1 hp => ?_)
        obtain ⟨rfl, rfl⟩ := hp
        refine Teq (ws' := wD cy q N sN oN U sU oU A) (lv' := [(3, .long (wv (wv (dgR N d i) (len N (i : Int))) (N 4 (i : Int)))), (0, .ref (q 0)), (1, .long (d)), (5, .int (enc ((i : Int))))]) (st' := [.long (wv (wv (wv (dgR N d i) (len N (i : Int))) (N 4 (i : Int))) (N 5 (i : Int)))]) rfl rfl rfl ?_
        refine tw_lstore_n (lv' := [(3, .long (wv (wv (wv (dgR N d i) (len N (i : Int))) (N 4 (i : Int))) (N 5 (i : Int)))), (0, .ref (q 0)), (1, .long (d)), (5, .int (enc ((i : Int))))]) X dX4_digestOfRoads_75 rfl (by decide) rfl ?_
        refine tw_lload_n X dX4_digestOfRoads_76 0 rfl rfl ?_
        refine tw_aload_n X dX4_digestOfRoads_77 1 rfl rfl ?_
        refine gf_X4_10 X (v := .ref (q 1)) 0 rfl rfl dX4_digestOfRoads_78 ?_
        refine gf_X4_54 X (v := .ref (q 2)) 1 rfl rfl dX4_digestOfRoads_81 ?_
        refine gf_X4_95 X (v := .ref (q 9)) 2 rfl rfl dX4_digestOfRoads_84 ?_
        refine tw_iload X dX4_digestOfRoads_87 3 rfl ?_
        refine tw_iald X (N := 20) (f := (N 6)) 9 rfl (by decide) (by omega) dX4_digestOfRoads_89 ?_
        refine Tst (st' := [.int (enc (N 6 (i : Int))), .long (wv (wv (wv (dgR N d i) (len N (i : Int))) (N 4 (i : Int))) (N 5 (i : Int)))]) rfl ?_
        have b4 := hB 6 (i : Int)
        refine tw_i2l X (In_of (by omega) (by omega)) dX4_digestOfRoads_90 ?_
        refine tw_callS X (As := [.long (wv (wv (wv (dgR N d i) (len N (i : Int))) (N 4 (i : Int))) (N 5 (i : Int))), .long (Int64.ofInt (N 6 (i : Int)))]) (st := []) sw_X4_192 (m_X4_woven (wv (wv (wv (dgR N d i) (len N (i : Int))) (N 4 (i : Int))) (N 5 (i : Int))) (Int64.ofInt (N 6 (i : Int)))) ([]) (wD cy q N sN oN U sU oU A) rfl rfl rfl ⟨rfl, rfl, Nat.le_of_ble_eq_true rfl, Nat.le_of_ble_eq_true rfl⟩ ⟨Nat.le_of_ble_eq_true rfl, Nat.le_of_ble_eq_true rfl⟩ (Nat.le_of_ble_eq_true rfl) dX4_digestOfRoads_91 (fun v w1 hp => ?_)
        obtain ⟨rfl, rfl⟩ := hp
        refine Teq (ws' := wD cy q N sN oN U sU oU A) (lv' := [(3, .long (wv (wv (wv (dgR N d i) (len N (i : Int))) (N 4 (i : Int))) (N 5 (i : Int)))), (0, .ref (q 0)), (1, .long (d)), (5, .int (enc ((i : Int))))]) (st' := [.long (wv (wv (wv (wv (dgR N d i) (len N (i : Int))) (N 4 (i : Int))) (N 5 (i : Int))) (N 6 (i : Int)))]) rfl rfl rfl ?_
        refine tw_lstore_n (lv' := [(3, .long (wv (wv (wv (wv (dgR N d i) (len N (i : Int))) (N 4 (i : Int))) (N 5 (i : Int))) (N 6 (i : Int)))), (0, .ref (q 0)), (1, .long (d)), (5, .int (enc ((i : Int))))]) X dX4_digestOfRoads_94 rfl (by decide) rfl ?_
        refine tw_lload_n X dX4_digestOfRoads_95 0 rfl rfl ?_
        refine tw_aload_n X dX4_digestOfRoads_96 1 rfl rfl ?_
        refine gf_X4_10 X (v := .ref (q 1)) 0 rfl rfl dX4_digestOfRoads_97 ?_
        refine gf_X4_69 X (v := .ref (q 10)) 1 rfl rfl dX4_digestOfRoads_100 ?_
        refine tw_iload X dX4_digestOfRoads_103 3 rfl ?_
        refine tw_callV X (As := [.int (enc ((i : Int)))]) (st := [.long (wv (wv (wv (wv (dgR N d i) (len N (i : Int))) (N 4 (i : Int))) (N 5 (i : Int))) (N 6 (i : Int)))]) vw_X4_108 (m_X1_countOn (q := (fun i => q (10 + i))) N ((i : Int)) hB (by omega) (by omega)) (([(q 0, .inr (4, [.ref (q 1), .ref (q 22), .ref (q 43)]))]) ++ ([(q 1, .inr (3, [.ref (q 2), .ref (q 10), .ref (q 20), .int (enc (N 19 0)), .int (enc (N 20 0)), .int (enc (oN))]))]) ++ (wR cy (fun i => q (2 + i)) N)) ((wY cy (fun i => q (20 + i)) sN) ++ ([(q 22, .inr (3, [.ref (q 23), .ref (q 31), .ref (q 41), .int (enc (U 19 0)), .int (enc (U 20 0)), .int (enc (oU))]))]) ++ (wR cy (fun i => q (23 + i)) U) ++ (wT cy (fun i => q (31 + i)) U) ++ (wY cy (fun i => q (41 + i)) sU) ++ (wY cy (fun i => q (43 + i)) A)) rfl rfl (q0 := 0) rfl rfl rfl ⟨rfl, rfl, Nat.le_of_ble_eq_true rfl, Nat.le_of_ble_eq_true rfl⟩ ⟨Nat.le_of_ble_eq_true rfl, Nat.le_of_ble_eq_true rfl⟩ (Nat.le_of_ble_eq_true rfl) dX4_digestOfRoads_105 (fun v w1 hp => ?_)
        obtain ⟨rfl, rfl⟩ := hp
        refine Teq (ws' := wD cy q N sN oN U sU oU A) (lv' := [(3, .long (wv (wv (wv (wv (dgR N d i) (len N (i : Int))) (N 4 (i : Int))) (N 5 (i : Int))) (N 6 (i : Int)))), (0, .ref (q 0)), (1, .long (d)), (5, .int (enc ((i : Int))))]) (st' := [.int (enc (onR N (i : Int) (N 17 0).toNat)), .long (wv (wv (wv (wv (dgR N d i) (len N (i : Int))) (N 4 (i : Int))) (N 5 (i : Int))) (N 6 (i : Int)))]) rfl rfl rfl ?_
        have hon := onR_rng N (i : Int) (N 17 0).toNat
        refine tw_i2l X (In_of (by omega) (by omega)) dX4_digestOfRoads_108 ?_
        refine tw_callS X (As := [.long (wv (wv (wv (wv (dgR N d i) (len N (i : Int))) (N 4 (i : Int))) (N 5 (i : Int))) (N 6 (i : Int))), .long (Int64.ofInt (onR N (i : Int) (N 17 0).toNat))]) (st := []) sw_X4_192 (m_X4_woven (wv (wv (wv (wv (dgR N d i) (len N (i : Int))) (N 4 (i : Int))) (N 5 (i : Int))) (N 6 (i : Int))) (Int64.ofInt (onR N (i : Int) (N 17 0).toNat))) ([]) (wD cy q N sN oN U sU oU A) rfl rfl rfl ⟨rfl, rfl, Nat.le_of_ble_eq_true rfl, Nat.le_of_ble_eq_true rfl⟩ ⟨Nat.le_of_ble_eq_true rfl, Nat.le_of_ble_eq_true rfl⟩ (Nat.le_of_ble_eq_true rfl) dX4_digestOfRoads_109 (fun v w1 hp => ?_)
        obtain ⟨rfl, rfl⟩ := hp
        refine Teq (ws' := wD cy q N sN oN U sU oU A) (lv' := [(3, .long (wv (wv (wv (wv (dgR N d i) (len N (i : Int))) (N 4 (i : Int))) (N 5 (i : Int))) (N 6 (i : Int)))), (0, .ref (q 0)), (1, .long (d)), (5, .int (enc ((i : Int))))]) (st' := [.long (wv (wv (wv (wv (wv (dgR N d i) (len N (i : Int))) (N 4 (i : Int))) (N 5 (i : Int))) (N 6 (i : Int))) (onR N (i : Int) (N 17 0).toNat))]) rfl rfl rfl ?_
        refine tw_lstore_n (lv' := [(3, .long (wv (wv (wv (wv (wv (dgR N d i) (len N (i : Int))) (N 4 (i : Int))) (N 5 (i : Int))) (N 6 (i : Int))) (onR N (i : Int) (N 17 0).toNat))), (0, .ref (q 0)), (1, .long (d)), (5, .int (enc ((i : Int))))]) X dX4_digestOfRoads_112 rfl (by decide) rfl ?_
        refine tw_iinc (q := 3) (x := (i : Int)) (y := (i : Int) + 1) (lv' := [(5, .int (enc ((i : Int) + 1))), (3, .long (wv (wv (wv (wv (wv (dgR N d i) (len N (i : Int))) (N 4 (i : Int))) (N 5 (i : Int))) (N 6 (i : Int))) (onR N (i : Int) (N 17 0).toNat))), (0, .ref (q 0)), (1, .long (d))]) X dX4_digestOfRoads_113 rfl rfl (by decide) rfl ?_
        refine tw_goto (tgt := 5) X dX4_digestOfRoads_116 (by decide) ?_
        refine Tsub (lv' := [(0, .ref (q 0)), (1, .long (d)), (3, .long (wv (wv (wv (wv (wv (dgR N d i) (len N (i : Int))) (N 4 (i : Int))) (N 5 (i : Int))) (N 6 (i : Int))) (onR N (i : Int) (N 17 0).toNat))), (5, .int (enc ((i : Int) + 1)))]) [2, 3, 1, 0] rfl ?_
        refine Teq (ws' := wD cy q N sN oN U sU oU A) (lv' := [(0, .ref (q 0)), (1, .long (d)), (3, .long (dgR N d (i + 1))), (5, .int (enc (((i + 1 : Nat) : Int))))]) (st' := []) (rfl) (lvk (lvk (lvl (by rw [dgR_s]) (lvc (i_succ i) (rfl))))) rfl (ih5 (i + 1) (by omega) (by omega))
  refine Tsub (lv' := [(0, .ref (q 0)), (1, .long (d)), (3, .long (d)), (5, .int (enc (0)))]) [2, 3, 1, 0] rfl ?_
  refine Teq (ws' := wD cy q N sN oN U sU oU A) (lv' := [(0, .ref (q 0)), (1, .long (d)), (3, .long (dgR N d 0)), (5, .int (enc (((0 : Nat) : Int))))]) (st' := []) (rfl) (rfl) rfl (L5 (N 16 0 + 1).toNat 0 (by omega) (by omega))
set_option maxRecDepth 100000 in
set_option maxHeartbeats 4000000 in
theorem m_X4_digestOfTourists {G : va_G} {cy : ClassId} {q : Nat → Nat} (N : MT) (sN : Int → Int) (oN : Int) (U : MT) (sU : Int → Int) (oU : Int) (A : Int → Int) (d : Int64) (B : Int) (hF : WF N B) (hB2 : B ≤ 800000) (hV : WVo N sN oN) : Ct G cy yX4_digestOfTourists cX4_digestOfTourists 6 (some .long) ({ frames := 5, cells := 0, slots := 0, locals := 116 } : Room) 0 0 [.ref (q 0), .long (d)] (wD cy q N sN oN U sU oU A) (fun v w1 => v = some (.long (dgT N d (N 17 0).toNat)) ∧ ∃ U' sU' oU', w1 = wD cy q N sN oN U' sU' oU' A) := by
  refine Ct.ofL (by decide) (Nat.le_of_ble_eq_true rfl) rfl rfl ?_
  intro c X ret
  have hB := hF.bd (by omega)
  obtain ⟨w0, w1, w2, w3, w4⟩ := hF.r
  have h17 := hF.2.2.2.2.2.1
  have h172 := hF.2.2.2.2.2.2.1
  have h20 := hF.2.2.2.2.2.2.2.1
  refine Tlv (lv' := [(0, .ref (q 0)), (1, .long (d))]) rfl ?_
  refine tw_lload_n X dX4_digestOfTourists_0 1 rfl rfl ?_
  refine tw_lstore_n (lv' := [(3, .long (d)), (0, .ref (q 0)), (1, .long (d))]) X dX4_digestOfTourists_1 rfl (by decide) rfl ?_
  refine tw_aload_n X dX4_digestOfTourists_2 1 rfl rfl ?_
  refine tw_iconst X dX4_digestOfTourists_3 ?_
  refine tw_bipush X dX4_digestOfTourists_4 (by decide) ?_
  refine tw_callV X (As := [.int (enc (-1)), .int (enc (100))]) (st := []) vw_X4_179 (m_X4_foresee (q := q) N sN oN U sU oU A (-1) (100) 100 rfl (by omega) B hF hB2 hV (Or.inl rfl)) ([]) ([]) rfl rfl (q0 := 0) rfl rfl rfl ⟨rfl, rfl, Nat.le_of_ble_eq_true rfl, Nat.le_of_ble_eq_true rfl⟩ ⟨Nat.le_of_ble_eq_true rfl, Nat.le_of_ble_eq_true rfl⟩ (Nat.le_of_ble_eq_true rfl) dX4_digestOfTourists_6 (fun v w1 hp => ?_)
  obtain ⟨rfl, U1, su, ou, hFS, rfl⟩ := hp
  refine Teq (ws' := wD cy q N sN oN U1 su ou A) (lv' := [(3, .long (d)), (0, .ref (q 0)), (1, .long (d))]) (st' := []) rfl rfl rfl ?_
  refine tw_iconst X dX4_digestOfTourists_9 ?_
  refine tw_istore (lv' := [(5, .int (enc (0))), (3, .long (d)), (0, .ref (q 0)), (1, .long (d))]) X dX4_digestOfTourists_10 (by decide) rfl ?_
  have L12 : ∀ (fu i : Nat), (i : Int) ≤ N 17 0 → N 17 0 + 1 ≤ (i : Int) + fu → T G c ({ frames := 5, cells := 0, slots := 0, locals := 116 } : Room) 6 0 0 (wD cy q N sN oN U1 su ou A) 12 [(0, .ref (q 0)), (1, .long (d)), (3, .long (dgT N d i)), (5, .int (enc ((i : Int))))] [] := by
    intro fu
    induction fu with
    | zero =>
      intro i  hi0 hi1
      exact absurd hi1 (by omega)
    | succ fu ih12 =>
      intro i  hi0_12 hi1_12 
      refine tw_iload X dX4_digestOfTourists_12 3 rfl ?_
      refine tw_aload_n X dX4_digestOfTourists_14 0 rfl rfl ?_
      refine gf_X4_10 X (v := .ref (q 1)) 0 rfl rfl dX4_digestOfTourists_15 ?_
      refine gf_X4_69 X (v := .ref (q 10)) 1 rfl rfl dX4_digestOfTourists_18 ?_
      refine gf_X4_73 X (v := .int (enc (N 17 0))) 10 rfl rfl dX4_digestOfTourists_21 ?_
      have b1 := hB 17 0
      refine tw_icmp_ge (tgt := 152) X (In_of (by omega) (by omega)) (In_of (by omega) (by omega)) dX4_digestOfTourists_24 (by decide) (fun c24 => ?_) (fun c24 => ?_)
      · skip
        refine tw_lload_n X dX4_digestOfTourists_152 2 rfl rfl ?_
        exact ret _ _ _ _ dX4_digestOfTourists_153 ⟨by rw [show (N 17 0).toNat = i by omega], _, _, _, rfl⟩
      · skip
        refine tw_lload_n X dX4_digestOfTourists_27 2 rfl rfl ?_
        refine tw_aload_n X dX4_digestOfTourists_28 0 rfl rfl ?_
        refine gf_X4_10 X (v := .ref (q 1)) 0 rfl rfl dX4_digestOfTourists_29 ?_
        refine gf_X4_69 X (v := .ref (q 10)) 1 rfl rfl dX4_digestOfTourists_32 ?_
        refine gf_X4_163 X (v := .ref (q 11)) 10 rfl rfl dX4_digestOfTourists_35 ?_
        refine tw_iload X dX4_digestOfTourists_38 3 rfl ?_
        refine tw_iald X (N := 12) (f := (N 7)) 11 rfl (by decide) (by omega) dX4_digestOfTourists_40 ?_
        refine Tst (st' := [.int (enc (N 7 (i : Int))), .long (dgT N d i)]) rfl ?_
        have b2 := hB 7 (i : Int)
        refine tw_i2l X (In_of (by omega) (by omega)) dX4_digestOfTourists_41 ?_
        refine tw_callS X (As := [.long (dgT N d i), .long (Int64.ofInt (N 7 (i : Int)))]) (st := []) sw_X4_192 (m_X4_woven (dgT N d i) (Int64.ofInt (N 7 (i : Int)))) ([]) (wD cy q N sN oN U1 su ou A) rfl rfl rfl ⟨rfl, rfl, Nat.le_of_ble_eq_true rfl, Nat.le_of_ble_eq_true rfl⟩ ⟨Nat.le_of_ble_eq_true rfl, Nat.le_of_ble_eq_true rfl⟩ (Nat.le_of_ble_eq_true rfl) dX4_digestOfTourists_42 (fun v w1 hp => ?_)
        obtain ⟨rfl, rfl⟩ := hp
        refine Teq (ws' := wD cy q N sN oN U1 su ou A) (lv' := [(0, .ref (q 0)), (1, .long (d)), (3, .long (dgT N d i)), (5, .int (enc ((i : Int))))]) (st' := [.long (wv (dgT N d i) (N 7 (i : Int)))]) rfl rfl rfl ?_
        refine tw_lstore_n (lv' := [(3, .long (wv (dgT N d i) (N 7 (i : Int)))), (0, .ref (q 0)), (1, .long (d)), (5, .int (enc ((i : Int))))]) X dX4_digestOfTourists_45 rfl (by decide) rfl ?_
        refine tw_lload_n X dX4_digestOfTourists_46 0 rfl rfl ?_
        refine tw_aload_n X dX4_digestOfTourists_47 1 rfl rfl ?_
        refine gf_X4_10 X (v := .ref (q 1)) 0 rfl rfl dX4_digestOfTourists_48 ?_
        refine gf_X4_69 X (v := .ref (q 10)) 1 rfl rfl dX4_digestOfTourists_51 ?_
        refine gf_X4_166 X (v := .ref (q 12)) 10 rfl rfl dX4_digestOfTourists_54 ?_
        refine tw_iload X dX4_digestOfTourists_57 3 rfl ?_
        refine tw_iald X (N := 12) (f := (N 8)) 12 rfl (by decide) (by omega) dX4_digestOfTourists_59 ?_
        refine Tst (st' := [.int (enc (N 8 (i : Int))), .long (wv (dgT N d i) (N 7 (i : Int)))]) rfl ?_
        have b3 := hB 8 (i : Int)
        refine tw_i2l X (In_of (by omega) (by omega)) dX4_digestOfTourists_60 ?_
        refine tw_callS X (As := [.long (wv (dgT N d i) (N 7 (i : Int))), .long (Int64.ofInt (N 8 (i : Int)))]) (st := []) sw_X4_192 (m_X4_woven (wv (dgT N d i) (N 7 (i : Int))) (Int64.ofInt (N 8 (i : Int)))) ([]) (wD cy q N sN oN U1 su ou A) rfl rfl rfl ⟨rfl, rfl, Nat.le_of_ble_eq_true rfl, Nat.le_of_ble_eq_true rfl⟩ ⟨Nat.le_of_ble_eq_true rfl, Nat.le_of_ble_eq_true rfl⟩ (Nat.le_of_ble_eq_true rfl) dX4_digestOfTourists_61 (fun v w1 hp => ?_)
        obtain ⟨rfl, rfl⟩ := hp
        refine Teq (ws' := wD cy q N sN oN U1 su ou A) (lv' := [(3, .long (wv (dgT N d i) (N 7 (i : Int)))), (0, .ref (q 0)), (1, .long (d)), (5, .int (enc ((i : Int))))]) (st' := [.long (wv (wv (dgT N d i) (N 7 (i : Int))) (N 8 (i : Int)))]) rfl rfl rfl ?_
        refine tw_lstore_n (lv' := [(3, .long (wv (wv (dgT N d i) (N 7 (i : Int))) (N 8 (i : Int)))), (0, .ref (q 0)), (1, .long (d)), (5, .int (enc ((i : Int))))]) X dX4_digestOfTourists_64 rfl (by decide) rfl ?_
        refine tw_lload_n X dX4_digestOfTourists_65 0 rfl rfl ?_
        refine tw_aload_n X dX4_digestOfTourists_66 1 rfl rfl ?_
        refine gf_X4_10 X (v := .ref (q 1)) 0 rfl rfl dX4_digestOfTourists_67 ?_
        refine gf_X4_69 X (v := .ref (q 10)) 1 rfl rfl dX4_digestOfTourists_70 ?_
        refine gf_X4_169 X (v := .ref (q 16)) 10 rfl rfl dX4_digestOfTourists_73 ?_
        refine tw_iload X dX4_digestOfTourists_76 3 rfl ?_
        refine tw_iald X (N := 12) (f := (N 12)) 16 rfl (by decide) (by omega) dX4_digestOfTourists_78 ?_
        refine Tst (st' := [.int (enc (N 12 (i : Int))), .long (wv (wv (dgT N d i) (N 7 (i : Int))) (N 8 (i : Int)))]) rfl ?_
        have b4 := hB 12 (i : Int)
        refine tw_i2l X (In_of (by omega) (by omega)) dX4_digestOfTourists_79 ?_
        refine tw_callS X (As := [.long (wv (wv (dgT N d i) (N 7 (i : Int))) (N 8 (i : Int))), .long (Int64.ofInt (N 12 (i : Int)))]) (st := []) sw_X4_192 (m_X4_woven (wv (wv (dgT N d i) (N 7 (i : Int))) (N 8 (i : Int))) (Int64.ofInt (N 12 (i : Int)))) ([]) (wD cy q N sN oN U1 su ou A) rfl rfl rfl ⟨rfl, rfl, Nat.le_of_ble_eq_true rfl, Nat.le_of_ble_eq_true rfl⟩ ⟨Nat.le_of_ble_eq_true rfl, Nat.le_of_ble_eq_true rfl⟩ (Nat.le_of_ble_eq_true rfl) dX4_digestOfTourists_80 (fun v w1 hp => ?_)
        obtain ⟨rfl, rfl⟩ := hp
        refine Teq (ws' := wD cy q N sN oN U1 su ou A) (lv' := [(3, .long (wv (wv (dgT N d i) (N 7 (i : Int))) (N 8 (i : Int)))), (0, .ref (q 0)), (1, .long (d)), (5, .int (enc ((i : Int))))]) (st' := [.long (wv (wv (wv (dgT N d i) (N 7 (i : Int))) (N 8 (i : Int))) (N 12 (i : Int)))]) rfl rfl rfl ?_
        refine tw_lstore_n (lv' := [(3, .long (wv (wv (wv (dgT N d i) (N 7 (i : Int))) (N 8 (i : Int))) (N 12 (i : Int)))), (0, .ref (q 0)), (1, .long (d)), (5, .int (enc ((i : Int))))]) X dX4_digestOfTourists_83 rfl (by decide) rfl ?_
        refine tw_lload_n X dX4_digestOfTourists_84 0 rfl rfl ?_
        refine tw_aload_n X dX4_digestOfTourists_85 1 rfl rfl ?_
        refine gf_X4_10 X (v := .ref (q 1)) 0 rfl rfl dX4_digestOfTourists_86 ?_
        refine gf_X4_69 X (v := .ref (q 10)) 1 rfl rfl dX4_digestOfTourists_89 ?_
        refine tw_iload X dX4_digestOfTourists_92 3 rfl ?_
        refine tw_aload_n X dX4_digestOfTourists_94 1 rfl rfl ?_
        refine gf_X4_10 X (v := .ref (q 1)) 0 rfl rfl dX4_digestOfTourists_95 ?_
        refine gf_X4_84 X (v := .int (enc (N 20 0))) 1 rfl rfl dX4_digestOfTourists_98 ?_
        have b5 := hB 20 0
        refine tw_callV X (As := [.int (enc ((i : Int))), .int (enc (N 20 0))]) (st := [.long (wv (wv (wv (dgT N d i) (N 7 (i : Int))) (N 8 (i : Int))) (N 12 (i : Int)))]) vw_X4_172 (m_X1_frayAt (q := (fun i => q (10 + i))) N ((i : Int)) (N 20 0) hB (by omega) (by omega)) (([(q 0, .inr (4, [.ref (q 1), .ref (q 22), .ref (q 43)]))]) ++ ([(q 1, .inr (3, [.ref (q 2), .ref (q 10), .ref (q 20), .int (enc (N 19 0)), .int (enc (N 20 0)), .int (enc (oN))]))]) ++ (wR cy (fun i => q (2 + i)) N)) ((wY cy (fun i => q (20 + i)) sN) ++ ([(q 22, .inr (3, [.ref (q 23), .ref (q 31), .ref (q 41), .int (enc (U1 19 0)), .int (enc (U1 20 0)), .int (enc (ou))]))]) ++ (wR cy (fun i => q (23 + i)) U1) ++ (wT cy (fun i => q (31 + i)) U1) ++ (wY cy (fun i => q (41 + i)) su) ++ (wY cy (fun i => q (43 + i)) A)) rfl rfl (q0 := 0) rfl rfl rfl ⟨rfl, rfl, Nat.le_of_ble_eq_true rfl, Nat.le_of_ble_eq_true rfl⟩ ⟨Nat.le_of_ble_eq_true rfl, Nat.le_of_ble_eq_true rfl⟩ (Nat.le_of_ble_eq_true rfl) dX4_digestOfTourists_101 (fun v w1 hp => ?_)
        obtain ⟨rfl, rfl⟩ := hp
        refine Teq (ws' := wD cy q N sN oN U1 su ou A) (lv' := [(3, .long (wv (wv (wv (dgT N d i) (N 7 (i : Int))) (N 8 (i : Int))) (N 12 (i : Int)))), (0, .ref (q 0)), (1, .long (d)), (5, .int (enc ((i : Int))))]) (st' := [.int (enc (frayAt N (i : Int) (N 20 0))), .long (wv (wv (wv (dgT N d i) (N 7 (i : Int))) (N 8 (i : Int))) (N 12 (i : Int)))]) rfl rfl rfl ?_
        have hfr := frayAt_rng (t := (i : Int)) (h := N 20 0) hB (by omega)
        refine tw_i2l X (In_of (by omega) (by omega)) dX4_digestOfTourists_104 ?_
        refine tw_callS X (As := [.long (wv (wv (wv (dgT N d i) (N 7 (i : Int))) (N 8 (i : Int))) (N 12 (i : Int))), .long (Int64.ofInt (frayAt N (i : Int) (N 20 0)))]) (st := []) sw_X4_192 (m_X4_woven (wv (wv (wv (dgT N d i) (N 7 (i : Int))) (N 8 (i : Int))) (N 12 (i : Int))) (Int64.ofInt (frayAt N (i : Int) (N 20 0)))) ([]) (wD cy q N sN oN U1 su ou A) rfl rfl rfl ⟨rfl, rfl, Nat.le_of_ble_eq_true rfl, Nat.le_of_ble_eq_true rfl⟩ ⟨Nat.le_of_ble_eq_true rfl, Nat.le_of_ble_eq_true rfl⟩ (Nat.le_of_ble_eq_true rfl) dX4_digestOfTourists_105 (fun v w1 hp => ?_)
        obtain ⟨rfl, rfl⟩ := hp
        refine Teq (ws' := wD cy q N sN oN U1 su ou A) (lv' := [(3, .long (wv (wv (wv (dgT N d i) (N 7 (i : Int))) (N 8 (i : Int))) (N 12 (i : Int)))), (0, .ref (q 0)), (1, .long (d)), (5, .int (enc ((i : Int))))]) (st' := [.long (wv (wv (wv (wv (dgT N d i) (N 7 (i : Int))) (N 8 (i : Int))) (N 12 (i : Int))) (frayAt N (i : Int) (N 20 0)))]) rfl rfl rfl ?_
        refine tw_lstore_n (lv' := [(3, .long (wv (wv (wv (wv (dgT N d i) (N 7 (i : Int))) (N 8 (i : Int))) (N 12 (i : Int))) (frayAt N (i : Int) (N 20 0)))), (0, .ref (q 0)), (1, .long (d)), (5, .int (enc ((i : Int))))]) X dX4_digestOfTourists_108 rfl (by decide) rfl ?_
        refine tw_lload_n X dX4_digestOfTourists_109 0 rfl rfl ?_
        refine tw_aload_n X dX4_digestOfTourists_110 1 rfl rfl ?_
        refine gf_X4_10 X (v := .ref (q 1)) 0 rfl rfl dX4_digestOfTourists_111 ?_
        refine gf_X4_69 X (v := .ref (q 10)) 1 rfl rfl dX4_digestOfTourists_114 ?_
        refine tw_iload X dX4_digestOfTourists_117 3 rfl ?_
        refine tw_callV X (As := [.int (enc ((i : Int)))]) (st := [.long (wv (wv (wv (wv (dgT N d i) (N 7 (i : Int))) (N 8 (i : Int))) (N 12 (i : Int))) (frayAt N (i : Int) (N 20 0)))]) vw_X4_175 (m_X1_isIn (q := (fun i => q (10 + i))) N ((i : Int)) hB (by omega)) (([(q 0, .inr (4, [.ref (q 1), .ref (q 22), .ref (q 43)]))]) ++ ([(q 1, .inr (3, [.ref (q 2), .ref (q 10), .ref (q 20), .int (enc (N 19 0)), .int (enc (N 20 0)), .int (enc (oN))]))]) ++ (wR cy (fun i => q (2 + i)) N)) ((wY cy (fun i => q (20 + i)) sN) ++ ([(q 22, .inr (3, [.ref (q 23), .ref (q 31), .ref (q 41), .int (enc (U1 19 0)), .int (enc (U1 20 0)), .int (enc (ou))]))]) ++ (wR cy (fun i => q (23 + i)) U1) ++ (wT cy (fun i => q (31 + i)) U1) ++ (wY cy (fun i => q (41 + i)) su) ++ (wY cy (fun i => q (43 + i)) A)) rfl rfl (q0 := 0) rfl rfl rfl ⟨rfl, rfl, Nat.le_of_ble_eq_true rfl, Nat.le_of_ble_eq_true rfl⟩ ⟨Nat.le_of_ble_eq_true rfl, Nat.le_of_ble_eq_true rfl⟩ (Nat.le_of_ble_eq_true rfl) dX4_digestOfTourists_119 (fun v w1 hp => ?_)
        obtain ⟨rfl, rfl⟩ := hp
        refine Teq (ws' := wD cy q N sN oN U1 su ou A) (lv' := [(3, .long (wv (wv (wv (wv (dgT N d i) (N 7 (i : Int))) (N 8 (i : Int))) (N 12 (i : Int))) (frayAt N (i : Int) (N 20 0)))), (0, .ref (q 0)), (1, .long (d)), (5, .int (enc ((i : Int))))]) (st' := [.int (enc (if 0 ≤ N 15 (i : Int) then 1 else 0)), .long (wv (wv (wv (wv (dgT N d i) (N 7 (i : Int))) (N 8 (i : Int))) (N 12 (i : Int))) (frayAt N (i : Int) (N 20 0)))]) rfl rfl rfl ?_
        refine tw_if_eq (tgt := 129) X In_b dX4_digestOfTourists_122 (by decide) (fun c122 => ?_) (fun c122 => ?_)
        · skip
          have c122 := b01.mp c122
          refine tw_lconst (v := Int64.ofInt (0)) X dX4_digestOfTourists_129 (by decide) ?_
          refine tw_callS X (As := [.long (wv (wv (wv (wv (dgT N d i) (N 7 (i : Int))) (N 8 (i : Int))) (N 12 (i : Int))) (frayAt N (i : Int) (N 20 0))), .long (Int64.ofInt (0))]) (st := []) sw_X4_192 (m_X4_woven (wv (wv (wv (wv (dgT N d i) (N 7 (i : Int))) (N 8 (i : Int))) (N 12 (i : Int))) (frayAt N (i : Int) (N 20 0))) (Int64.ofInt (0))) ([]) (wD cy q N sN oN U1 su ou A) rfl rfl rfl ⟨rfl, rfl, Nat.le_of_ble_eq_true rfl, Nat.le_of_ble_eq_true rfl⟩ ⟨Nat.le_of_ble_eq_true rfl, Nat.le_of_ble_eq_true rfl⟩ (Nat.le_of_ble_eq_true rfl) dX4_digestOfTourists_130 (fun v w1 hp => ?_)
          obtain ⟨rfl, rfl⟩ := hp
          refine Teq (ws' := wD cy q N sN oN U1 su ou A) (lv' := [(3, .long (wv (wv (wv (wv (dgT N d i) (N 7 (i : Int))) (N 8 (i : Int))) (N 12 (i : Int))) (frayAt N (i : Int) (N 20 0)))), (0, .ref (q 0)), (1, .long (d)), (5, .int (enc ((i : Int))))]) (st' := [.long (wv (wv (wv (wv (wv (dgT N d i) (N 7 (i : Int))) (N 8 (i : Int))) (N 12 (i : Int))) (frayAt N (i : Int) (N 20 0))) (0))]) rfl rfl rfl ?_
          refine tw_lstore_n (lv' := [(3, .long (wv (wv (wv (wv (wv (dgT N d i) (N 7 (i : Int))) (N 8 (i : Int))) (N 12 (i : Int))) (frayAt N (i : Int) (N 20 0))) (0))), (0, .ref (q 0)), (1, .long (d)), (5, .int (enc ((i : Int))))]) X dX4_digestOfTourists_133 rfl (by decide) rfl ?_
          refine tw_lload_n X dX4_digestOfTourists_134 0 rfl rfl ?_
          refine tw_aload_n X dX4_digestOfTourists_135 1 rfl rfl ?_
          refine tw_iload X dX4_digestOfTourists_136 3 rfl ?_
          refine tw_callV X (As := [.int (enc ((i : Int)))]) (st := [.long (wv (wv (wv (wv (wv (dgT N d i) (N 7 (i : Int))) (N 8 (i : Int))) (N 12 (i : Int))) (frayAt N (i : Int) (N 20 0))) (0))]) vw_X4_182 (m_X4_foreseenHoursUntilIn (q := q) N sN oN U1 su ou A ((i : Int)) hB hFS (by omega) (by omega)) ([]) ([]) rfl rfl (q0 := 0) rfl rfl rfl ⟨rfl, rfl, Nat.le_of_ble_eq_true rfl, Nat.le_of_ble_eq_true rfl⟩ ⟨Nat.le_of_ble_eq_true rfl, Nat.le_of_ble_eq_true rfl⟩ (Nat.le_of_ble_eq_true rfl) dX4_digestOfTourists_138 (fun v w1 hp => ?_)
          obtain ⟨rfl, rfl⟩ := hp
          refine Teq (ws' := wD cy q N sN oN U1 su ou A) (lv' := [(3, .long (wv (wv (wv (wv (wv (dgT N d i) (N 7 (i : Int))) (N 8 (i : Int))) (N 12 (i : Int))) (frayAt N (i : Int) (N 20 0))) (0))), (0, .ref (q 0)), (1, .long (d)), (5, .int (enc ((i : Int))))]) (st' := [.int (enc (untilM N (i : Int))), .long (wv (wv (wv (wv (wv (dgT N d i) (N 7 (i : Int))) (N 8 (i : Int))) (N 12 (i : Int))) (frayAt N (i : Int) (N 20 0))) (0))]) rfl rfl rfl ?_
          have hun := untilM_rng hF hB2 (i : Int)
          refine tw_i2l X (In_of (by omega) (by omega)) dX4_digestOfTourists_141 ?_
          refine tw_callS X (As := [.long (wv (wv (wv (wv (wv (dgT N d i) (N 7 (i : Int))) (N 8 (i : Int))) (N 12 (i : Int))) (frayAt N (i : Int) (N 20 0))) (0)), .long (Int64.ofInt (untilM N (i : Int)))]) (st := []) sw_X4_192 (m_X4_woven (wv (wv (wv (wv (wv (dgT N d i) (N 7 (i : Int))) (N 8 (i : Int))) (N 12 (i : Int))) (frayAt N (i : Int) (N 20 0))) (0)) (Int64.ofInt (untilM N (i : Int)))) ([]) (wD cy q N sN oN U1 su ou A) rfl rfl rfl ⟨rfl, rfl, Nat.le_of_ble_eq_true rfl, Nat.le_of_ble_eq_true rfl⟩ ⟨Nat.le_of_ble_eq_true rfl, Nat.le_of_ble_eq_true rfl⟩ (Nat.le_of_ble_eq_true rfl) dX4_digestOfTourists_142 (fun v w1 hp => ?_)
          obtain ⟨rfl, rfl⟩ := hp
          refine Teq (ws' := wD cy q N sN oN U1 su ou A) (lv' := [(3, .long (wv (wv (wv (wv (wv (dgT N d i) (N 7 (i : Int))) (N 8 (i : Int))) (N 12 (i : Int))) (frayAt N (i : Int) (N 20 0))) (0))), (0, .ref (q 0)), (1, .long (d)), (5, .int (enc ((i : Int))))]) (st' := [.long (wv (wv (wv (wv (wv (wv (dgT N d i) (N 7 (i : Int))) (N 8 (i : Int))) (N 12 (i : Int))) (frayAt N (i : Int) (N 20 0))) (0)) (untilM N (i : Int)))]) rfl rfl rfl ?_
          refine tw_lstore_n (lv' := [(3, .long (wv (wv (wv (wv (wv (wv (dgT N d i) (N 7 (i : Int))) (N 8 (i : Int))) (N 12 (i : Int))) (frayAt N (i : Int) (N 20 0))) (0)) (untilM N (i : Int)))), (0, .ref (q 0)), (1, .long (d)), (5, .int (enc ((i : Int))))]) X dX4_digestOfTourists_145 rfl (by decide) rfl ?_
          refine tw_iinc (q := 3) (x := (i : Int)) (y := (i : Int) + 1) (lv' := [(5, .int (enc ((i : Int) + 1))), (3, .long (wv (wv (wv (wv (wv (wv (dgT N d i) (N 7 (i : Int))) (N 8 (i : Int))) (N 12 (i : Int))) (frayAt N (i : Int) (N 20 0))) (0)) (untilM N (i : Int)))), (0, .ref (q 0)), (1, .long (d))]) X dX4_digestOfTourists_146 rfl rfl (by decide) rfl ?_
          refine tw_goto (tgt := 12) X dX4_digestOfTourists_149 (by decide) ?_
          refine Tsub (lv' := [(0, .ref (q 0)), (1, .long (d)), (3, .long (wv (wv (wv (wv (wv (wv (dgT N d i) (N 7 (i : Int))) (N 8 (i : Int))) (N 12 (i : Int))) (frayAt N (i : Int) (N 20 0))) (0)) (untilM N (i : Int)))), (5, .int (enc ((i : Int) + 1)))]) [2, 3, 1, 0] rfl ?_
          refine Teq (ws' := wD cy q N sN oN U1 su ou A) (lv' := [(0, .ref (q 0)), (1, .long (d)), (3, .long (dgT N d (i + 1))), (5, .int (enc (((i + 1 : Nat) : Int))))]) (st' := []) (rfl) (lvk (lvk (lvl (by rw [dgT_s]; first | rw [if_pos c122] | rw [if_neg c122]) (lvc (i_succ i) (rfl))))) rfl (ih12 (i + 1) (by omega) (by omega))
        · skip
          have c122 := b01n.mp c122
          refine tw_lconst (v := Int64.ofInt (1)) X dX4_digestOfTourists_125 (by decide) ?_
          refine tw_goto (tgt := 130) X dX4_digestOfTourists_126 (by decide) ?_
          refine tw_callS X (As := [.long (wv (wv (wv (wv (dgT N d i) (N 7 (i : Int))) (N 8 (i : Int))) (N 12 (i : Int))) (frayAt N (i : Int) (N 20 0))), .long (Int64.ofInt (1))]) (st := []) sw_X4_192 (m_X4_woven (wv (wv (wv (wv (dgT N d i) (N 7 (i : Int))) (N 8 (i : Int))) (N 12 (i : Int))) (frayAt N (i : Int) (N 20 0))) (Int64.ofInt (1))) ([]) (wD cy q N sN oN U1 su ou A) rfl rfl rfl ⟨rfl, rfl, Nat.le_of_ble_eq_true rfl, Nat.le_of_ble_eq_true rfl⟩ ⟨Nat.le_of_ble_eq_true rfl, Nat.le_of_ble_eq_true rfl⟩ (Nat.le_of_ble_eq_true rfl) dX4_digestOfTourists_130 (fun v w1 hp => ?_)
          obtain ⟨rfl, rfl⟩ := hp
          refine Teq (ws' := wD cy q N sN oN U1 su ou A) (lv' := [(3, .long (wv (wv (wv (wv (dgT N d i) (N 7 (i : Int))) (N 8 (i : Int))) (N 12 (i : Int))) (frayAt N (i : Int) (N 20 0)))), (0, .ref (q 0)), (1, .long (d)), (5, .int (enc ((i : Int))))]) (st' := [.long (wv (wv (wv (wv (wv (dgT N d i) (N 7 (i : Int))) (N 8 (i : Int))) (N 12 (i : Int))) (frayAt N (i : Int) (N 20 0))) (1))]) rfl rfl rfl ?_
          refine tw_lstore_n (lv' := [(3, .long (wv (wv (wv (wv (wv (dgT N d i) (N 7 (i : Int))) (N 8 (i : Int))) (N 12 (i : Int))) (frayAt N (i : Int) (N 20 0))) (1))), (0, .ref (q 0)), (1, .long (d)), (5, .int (enc ((i : Int))))]) X dX4_digestOfTourists_133 rfl (by decide) rfl ?_
          refine tw_lload_n X dX4_digestOfTourists_134 0 rfl rfl ?_
          refine tw_aload_n X dX4_digestOfTourists_135 1 rfl rfl ?_
          refine tw_iload X dX4_digestOfTourists_136 3 rfl ?_
          refine tw_callV X (As := [.int (enc ((i : Int)))]) (st := [.long (wv (wv (wv (wv (wv (dgT N d i) (N 7 (i : Int))) (N 8 (i : Int))) (N 12 (i : Int))) (frayAt N (i : Int) (N 20 0))) (1))]) vw_X4_182 (m_X4_foreseenHoursUntilIn (q := q) N sN oN U1 su ou A ((i : Int)) hB hFS (by omega) (by omega)) ([]) ([]) rfl rfl (q0 := 0) rfl rfl rfl ⟨rfl, rfl, Nat.le_of_ble_eq_true rfl, Nat.le_of_ble_eq_true rfl⟩ ⟨Nat.le_of_ble_eq_true rfl, Nat.le_of_ble_eq_true rfl⟩ (Nat.le_of_ble_eq_true rfl) dX4_digestOfTourists_138 (fun v w1 hp => ?_)
          obtain ⟨rfl, rfl⟩ := hp
          refine Teq (ws' := wD cy q N sN oN U1 su ou A) (lv' := [(3, .long (wv (wv (wv (wv (wv (dgT N d i) (N 7 (i : Int))) (N 8 (i : Int))) (N 12 (i : Int))) (frayAt N (i : Int) (N 20 0))) (1))), (0, .ref (q 0)), (1, .long (d)), (5, .int (enc ((i : Int))))]) (st' := [.int (enc (untilM N (i : Int))), .long (wv (wv (wv (wv (wv (dgT N d i) (N 7 (i : Int))) (N 8 (i : Int))) (N 12 (i : Int))) (frayAt N (i : Int) (N 20 0))) (1))]) rfl rfl rfl ?_
          have hun := untilM_rng hF hB2 (i : Int)
          refine tw_i2l X (In_of (by omega) (by omega)) dX4_digestOfTourists_141 ?_
          refine tw_callS X (As := [.long (wv (wv (wv (wv (wv (dgT N d i) (N 7 (i : Int))) (N 8 (i : Int))) (N 12 (i : Int))) (frayAt N (i : Int) (N 20 0))) (1)), .long (Int64.ofInt (untilM N (i : Int)))]) (st := []) sw_X4_192 (m_X4_woven (wv (wv (wv (wv (wv (dgT N d i) (N 7 (i : Int))) (N 8 (i : Int))) (N 12 (i : Int))) (frayAt N (i : Int) (N 20 0))) (1)) (Int64.ofInt (untilM N (i : Int)))) ([]) (wD cy q N sN oN U1 su ou A) rfl rfl rfl ⟨rfl, rfl, Nat.le_of_ble_eq_true rfl, Nat.le_of_ble_eq_true rfl⟩ ⟨Nat.le_of_ble_eq_true rfl, Nat.le_of_ble_eq_true rfl⟩ (Nat.le_of_ble_eq_true rfl) dX4_digestOfTourists_142 (fun v w1 hp => ?_)
          obtain ⟨rfl, rfl⟩ := hp
          refine Teq (ws' := wD cy q N sN oN U1 su ou A) (lv' := [(3, .long (wv (wv (wv (wv (wv (dgT N d i) (N 7 (i : Int))) (N 8 (i : Int))) (N 12 (i : Int))) (frayAt N (i : Int) (N 20 0))) (1))), (0, .ref (q 0)), (1, .long (d)), (5, .int (enc ((i : Int))))]) (st' := [.long (wv (wv (wv (wv (wv (wv (dgT N d i) (N 7 (i : Int))) (N 8 (i : Int))) (N 12 (i : Int))) (frayAt N (i : Int) (N 20 0))) (1)) (untilM N (i : Int)))]) rfl rfl rfl ?_
          refine tw_lstore_n (lv' := [(3, .long (wv (wv (wv (wv (wv (wv (dgT N d i) (N 7 (i : Int))) (N 8 (i : Int))) (N 12 (i : Int))) (frayAt N (i : Int) (N 20 0))) (1)) (untilM N (i : Int)))), (0, .ref (q 0)), (1, .long (d)), (5, .int (enc ((i : Int))))]) X dX4_digestOfTourists_145 rfl (by decide) rfl ?_
          refine tw_iinc (q := 3) (x := (i : Int)) (y := (i : Int) + 1) (lv' := [(5, .int (enc ((i : Int) + 1))), (3, .long (wv (wv (wv (wv (wv (wv (dgT N d i) (N 7 (i : Int))) (N 8 (i : Int))) (N 12 (i : Int))) (frayAt N (i : Int) (N 20 0))) (1)) (untilM N (i : Int)))), (0, .ref (q 0)), (1, .long (d))]) X dX4_digestOfTourists_146 rfl rfl (by decide) rfl ?_
          refine tw_goto (tgt := 12) X dX4_digestOfTourists_149 (by decide) ?_
          refine Tsub (lv' := [(0, .ref (q 0)), (1, .long (d)), (3, .long (wv (wv (wv (wv (wv (wv (dgT N d i) (N 7 (i : Int))) (N 8 (i : Int))) (N 12 (i : Int))) (frayAt N (i : Int) (N 20 0))) (1)) (untilM N (i : Int)))), (5, .int (enc ((i : Int) + 1)))]) [2, 3, 1, 0] rfl ?_
          refine Teq (ws' := wD cy q N sN oN U1 su ou A) (lv' := [(0, .ref (q 0)), (1, .long (d)), (3, .long (dgT N d (i + 1))), (5, .int (enc (((i + 1 : Nat) : Int))))]) (st' := []) (rfl) (lvk (lvk (lvl (by rw [dgT_s]; first | rw [if_pos c122] | rw [if_neg c122]) (lvc (i_succ i) (rfl))))) rfl (ih12 (i + 1) (by omega) (by omega))
  refine Tsub (lv' := [(0, .ref (q 0)), (1, .long (d)), (3, .long (d)), (5, .int (enc (0)))]) [2, 3, 1, 0] rfl ?_
  refine Teq (ws' := wD cy q N sN oN U1 su ou A) (lv' := [(0, .ref (q 0)), (1, .long (d)), (3, .long (dgT N d 0)), (5, .int (enc (((0 : Nat) : Int))))]) (st' := []) (rfl) (rfl) rfl (L12 (N 17 0 + 1).toNat 0 (by omega) (by omega))
set_option maxRecDepth 100000 in
set_option maxHeartbeats 4000000 in
theorem m_X4_digest {G : va_G} {cy : ClassId} {q : Nat → Nat} (N : MT) (sN : Int → Int) (oN : Int) (U : MT) (sU : Int → Int) (oU : Int) (A : Int → Int) (B : Int) (hF : WF N B) (hB2 : B ≤ 800000) (hV : WVo N sN oN) : Ct G cy yX4_digest cX4_digest 3 (some .long) ({ frames := 6, cells := 0, slots := 0, locals := 141 } : Room) 0 0 [.ref (q 0)] (wD cy q N sN oN U sU oU A) (fun v w1 => v = some (.long (digM N)) ∧ ∃ s' U' sU' oU', WV N true s' ∧ w1 = wD cy q N s' 0 U' sU' oU' A) := by
  refine Ct.ofL (by decide) (Nat.le_of_ble_eq_true rfl) rfl rfl ?_
  intro c X ret
  have hB := hF.bd (by omega)
  obtain ⟨w0, w1, w2, w3, w4⟩ := hF.r
  have h17 := hF.2.2.2.2.2.1
  have h172 := hF.2.2.2.2.2.2.1
  have h20 := hF.2.2.2.2.2.2.2.1
  refine Tlv (lv' := [(0, .ref (q 0))]) rfl ?_
  refine tw_ldc2 X wk_X4_188 dX4_digest_0 ?_
  refine tw_lstore_n (lv' := [(1, .long ((2153 : Int64))), (0, .ref (q 0))]) X dX4_digest_3 rfl (by decide) rfl ?_
  refine tw_lload_n X dX4_digest_4 0 rfl rfl ?_
  refine tw_aload_n X dX4_digest_5 1 rfl rfl ?_
  refine tw_callV X (As := []) (st := [.long ((2153 : Int64))]) vw_X4_190 (m_X4_hour (q := q) N sN oN U sU oU A) ([]) ([]) rfl rfl (q0 := 0) rfl rfl rfl ⟨rfl, rfl, Nat.le_of_ble_eq_true rfl, Nat.le_of_ble_eq_true rfl⟩ ⟨Nat.le_of_ble_eq_true rfl, Nat.le_of_ble_eq_true rfl⟩ (Nat.le_of_ble_eq_true rfl) dX4_digest_6 (fun v w1 hp => ?_)
  obtain ⟨rfl, rfl⟩ := hp
  refine Teq (ws' := wD cy q N sN oN U sU oU A) (lv' := [(1, .long ((2153 : Int64))), (0, .ref (q 0))]) (st' := [.int (enc (N 20 0)), .long ((2153 : Int64))]) rfl rfl rfl ?_
  have b1 := hB 20 0
  refine tw_i2l X (In_of (by omega) (by omega)) dX4_digest_9 ?_
  refine tw_callS X (As := [.long ((2153 : Int64)), .long (Int64.ofInt (N 20 0))]) (st := []) sw_X4_192 (m_X4_woven ((2153 : Int64)) (Int64.ofInt (N 20 0))) ([]) (wD cy q N sN oN U sU oU A) rfl rfl rfl ⟨rfl, rfl, Nat.le_of_ble_eq_true rfl, Nat.le_of_ble_eq_true rfl⟩ ⟨Nat.le_of_ble_eq_true rfl, Nat.le_of_ble_eq_true rfl⟩ (Nat.le_of_ble_eq_true rfl) dX4_digest_10 (fun v w1 hp => ?_)
  obtain ⟨rfl, rfl⟩ := hp
  refine Teq (ws' := wD cy q N sN oN U sU oU A) (lv' := [(1, .long ((2153 : Int64))), (0, .ref (q 0))]) (st' := [.long (wv ((2153 : Int64)) (N 20 0))]) rfl rfl rfl ?_
  refine tw_lstore_n (lv' := [(1, .long (wv ((2153 : Int64)) (N 20 0))), (0, .ref (q 0))]) X dX4_digest_13 rfl (by decide) rfl ?_
  refine tw_lload_n X dX4_digest_14 0 rfl rfl ?_
  refine tw_aload_n X dX4_digest_15 1 rfl rfl ?_
  refine tw_callV X (As := []) (st := [.long (wv ((2153 : Int64)) (N 20 0))]) vw_X4_196 (m_X4_crossings (q := q) N sN oN U sU oU A) ([]) ([]) rfl rfl (q0 := 0) rfl rfl rfl ⟨rfl, rfl, Nat.le_of_ble_eq_true rfl, Nat.le_of_ble_eq_true rfl⟩ ⟨Nat.le_of_ble_eq_true rfl, Nat.le_of_ble_eq_true rfl⟩ (Nat.le_of_ble_eq_true rfl) dX4_digest_16 (fun v w1 hp => ?_)
  obtain ⟨rfl, rfl⟩ := hp
  refine Teq (ws' := wD cy q N sN oN U sU oU A) (lv' := [(1, .long (wv ((2153 : Int64)) (N 20 0))), (0, .ref (q 0))]) (st' := [.int (enc (N 19 0)), .long (wv ((2153 : Int64)) (N 20 0))]) rfl rfl rfl ?_
  have b2 := hB 19 0
  refine tw_i2l X (In_of (by omega) (by omega)) dX4_digest_19 ?_
  refine tw_callS X (As := [.long (wv ((2153 : Int64)) (N 20 0)), .long (Int64.ofInt (N 19 0))]) (st := []) sw_X4_192 (m_X4_woven (wv ((2153 : Int64)) (N 20 0)) (Int64.ofInt (N 19 0))) ([]) (wD cy q N sN oN U sU oU A) rfl rfl rfl ⟨rfl, rfl, Nat.le_of_ble_eq_true rfl, Nat.le_of_ble_eq_true rfl⟩ ⟨Nat.le_of_ble_eq_true rfl, Nat.le_of_ble_eq_true rfl⟩ (Nat.le_of_ble_eq_true rfl) dX4_digest_20 (fun v w1 hp => ?_)
  obtain ⟨rfl, rfl⟩ := hp
  refine Teq (ws' := wD cy q N sN oN U sU oU A) (lv' := [(1, .long (wv ((2153 : Int64)) (N 20 0))), (0, .ref (q 0))]) (st' := [.long (wv (wv ((2153 : Int64)) (N 20 0)) (N 19 0))]) rfl rfl rfl ?_
  refine tw_lstore_n (lv' := [(1, .long (wv (wv ((2153 : Int64)) (N 20 0)) (N 19 0))), (0, .ref (q 0))]) X dX4_digest_23 rfl (by decide) rfl ?_
  refine tw_lload_n X dX4_digest_24 0 rfl rfl ?_
  refine tw_aload_n X dX4_digest_25 1 rfl rfl ?_
  refine tw_callV X (As := []) (st := [.long (wv (wv ((2153 : Int64)) (N 20 0)) (N 19 0))]) vw_X4_198 (m_X4_roads (q := q) N sN oN U sU oU A) ([]) ([]) rfl rfl (q0 := 0) rfl rfl rfl ⟨rfl, rfl, Nat.le_of_ble_eq_true rfl, Nat.le_of_ble_eq_true rfl⟩ ⟨Nat.le_of_ble_eq_true rfl, Nat.le_of_ble_eq_true rfl⟩ (Nat.le_of_ble_eq_true rfl) dX4_digest_26 (fun v w1 hp => ?_)
  obtain ⟨rfl, rfl⟩ := hp
  refine Teq (ws' := wD cy q N sN oN U sU oU A) (lv' := [(1, .long (wv (wv ((2153 : Int64)) (N 20 0)) (N 19 0))), (0, .ref (q 0))]) (st' := [.int (enc (N 16 0)), .long (wv (wv ((2153 : Int64)) (N 20 0)) (N 19 0))]) rfl rfl rfl ?_
  have b3 := hB 16 0
  refine tw_i2l X (In_of (by omega) (by omega)) dX4_digest_29 ?_
  refine tw_callS X (As := [.long (wv (wv ((2153 : Int64)) (N 20 0)) (N 19 0)), .long (Int64.ofInt (N 16 0))]) (st := []) sw_X4_192 (m_X4_woven (wv (wv ((2153 : Int64)) (N 20 0)) (N 19 0)) (Int64.ofInt (N 16 0))) ([]) (wD cy q N sN oN U sU oU A) rfl rfl rfl ⟨rfl, rfl, Nat.le_of_ble_eq_true rfl, Nat.le_of_ble_eq_true rfl⟩ ⟨Nat.le_of_ble_eq_true rfl, Nat.le_of_ble_eq_true rfl⟩ (Nat.le_of_ble_eq_true rfl) dX4_digest_30 (fun v w1 hp => ?_)
  obtain ⟨rfl, rfl⟩ := hp
  refine Teq (ws' := wD cy q N sN oN U sU oU A) (lv' := [(1, .long (wv (wv ((2153 : Int64)) (N 20 0)) (N 19 0))), (0, .ref (q 0))]) (st' := [.long (wv (wv (wv ((2153 : Int64)) (N 20 0)) (N 19 0)) (N 16 0))]) rfl rfl rfl ?_
  refine tw_lstore_n (lv' := [(1, .long (wv (wv (wv ((2153 : Int64)) (N 20 0)) (N 19 0)) (N 16 0))), (0, .ref (q 0))]) X dX4_digest_33 rfl (by decide) rfl ?_
  refine tw_lload_n X dX4_digest_34 0 rfl rfl ?_
  refine tw_aload_n X dX4_digest_35 1 rfl rfl ?_
  refine tw_callV X (As := []) (st := [.long (wv (wv (wv ((2153 : Int64)) (N 20 0)) (N 19 0)) (N 16 0))]) vw_X4_200 (m_X4_tourists (q := q) N sN oN U sU oU A) ([]) ([]) rfl rfl (q0 := 0) rfl rfl rfl ⟨rfl, rfl, Nat.le_of_ble_eq_true rfl, Nat.le_of_ble_eq_true rfl⟩ ⟨Nat.le_of_ble_eq_true rfl, Nat.le_of_ble_eq_true rfl⟩ (Nat.le_of_ble_eq_true rfl) dX4_digest_36 (fun v w1 hp => ?_)
  obtain ⟨rfl, rfl⟩ := hp
  refine Teq (ws' := wD cy q N sN oN U sU oU A) (lv' := [(1, .long (wv (wv (wv ((2153 : Int64)) (N 20 0)) (N 19 0)) (N 16 0))), (0, .ref (q 0))]) (st' := [.int (enc (N 17 0)), .long (wv (wv (wv ((2153 : Int64)) (N 20 0)) (N 19 0)) (N 16 0))]) rfl rfl rfl ?_
  have b4 := hB 17 0
  refine tw_i2l X (In_of (by omega) (by omega)) dX4_digest_39 ?_
  refine tw_callS X (As := [.long (wv (wv (wv ((2153 : Int64)) (N 20 0)) (N 19 0)) (N 16 0)), .long (Int64.ofInt (N 17 0))]) (st := []) sw_X4_192 (m_X4_woven (wv (wv (wv ((2153 : Int64)) (N 20 0)) (N 19 0)) (N 16 0)) (Int64.ofInt (N 17 0))) ([]) (wD cy q N sN oN U sU oU A) rfl rfl rfl ⟨rfl, rfl, Nat.le_of_ble_eq_true rfl, Nat.le_of_ble_eq_true rfl⟩ ⟨Nat.le_of_ble_eq_true rfl, Nat.le_of_ble_eq_true rfl⟩ (Nat.le_of_ble_eq_true rfl) dX4_digest_40 (fun v w1 hp => ?_)
  obtain ⟨rfl, rfl⟩ := hp
  refine Teq (ws' := wD cy q N sN oN U sU oU A) (lv' := [(1, .long (wv (wv (wv ((2153 : Int64)) (N 20 0)) (N 19 0)) (N 16 0))), (0, .ref (q 0))]) (st' := [.long (wv (wv (wv (wv ((2153 : Int64)) (N 20 0)) (N 19 0)) (N 16 0)) (N 17 0))]) rfl rfl rfl ?_
  refine tw_lstore_n (lv' := [(1, .long (wv (wv (wv (wv ((2153 : Int64)) (N 20 0)) (N 19 0)) (N 16 0)) (N 17 0))), (0, .ref (q 0))]) X dX4_digest_43 rfl (by decide) rfl ?_
  refine tw_lload_n X dX4_digest_44 0 rfl rfl ?_
  refine tw_aload_n X dX4_digest_45 1 rfl rfl ?_
  refine tw_callV X (As := []) (st := [.long (wv (wv (wv (wv ((2153 : Int64)) (N 20 0)) (N 19 0)) (N 16 0)) (N 17 0))]) vw_X4_202 (m_X4_arrived (q := q) N sN oN U sU oU A) ([]) ([]) rfl rfl (q0 := 0) rfl rfl rfl ⟨rfl, rfl, Nat.le_of_ble_eq_true rfl, Nat.le_of_ble_eq_true rfl⟩ ⟨Nat.le_of_ble_eq_true rfl, Nat.le_of_ble_eq_true rfl⟩ (Nat.le_of_ble_eq_true rfl) dX4_digest_46 (fun v w1 hp => ?_)
  obtain ⟨rfl, rfl⟩ := hp
  refine Teq (ws' := wD cy q N sN oN U sU oU A) (lv' := [(1, .long (wv (wv (wv (wv ((2153 : Int64)) (N 20 0)) (N 19 0)) (N 16 0)) (N 17 0))), (0, .ref (q 0))]) (st' := [.int (enc (N 18 0)), .long (wv (wv (wv (wv ((2153 : Int64)) (N 20 0)) (N 19 0)) (N 16 0)) (N 17 0))]) rfl rfl rfl ?_
  have b5 := hB 18 0
  refine tw_i2l X (In_of (by omega) (by omega)) dX4_digest_49 ?_
  refine tw_callS X (As := [.long (wv (wv (wv (wv ((2153 : Int64)) (N 20 0)) (N 19 0)) (N 16 0)) (N 17 0)), .long (Int64.ofInt (N 18 0))]) (st := []) sw_X4_192 (m_X4_woven (wv (wv (wv (wv ((2153 : Int64)) (N 20 0)) (N 19 0)) (N 16 0)) (N 17 0)) (Int64.ofInt (N 18 0))) ([]) (wD cy q N sN oN U sU oU A) rfl rfl rfl ⟨rfl, rfl, Nat.le_of_ble_eq_true rfl, Nat.le_of_ble_eq_true rfl⟩ ⟨Nat.le_of_ble_eq_true rfl, Nat.le_of_ble_eq_true rfl⟩ (Nat.le_of_ble_eq_true rfl) dX4_digest_50 (fun v w1 hp => ?_)
  obtain ⟨rfl, rfl⟩ := hp
  refine Teq (ws' := wD cy q N sN oN U sU oU A) (lv' := [(1, .long (wv (wv (wv (wv ((2153 : Int64)) (N 20 0)) (N 19 0)) (N 16 0)) (N 17 0))), (0, .ref (q 0))]) (st' := [.long (wv (wv (wv (wv (wv ((2153 : Int64)) (N 20 0)) (N 19 0)) (N 16 0)) (N 17 0)) (N 18 0))]) rfl rfl rfl ?_
  refine tw_lstore_n (lv' := [(1, .long (wv (wv (wv (wv (wv ((2153 : Int64)) (N 20 0)) (N 19 0)) (N 16 0)) (N 17 0)) (N 18 0))), (0, .ref (q 0))]) X dX4_digest_53 rfl (by decide) rfl ?_
  refine tw_lload_n X dX4_digest_54 0 rfl rfl ?_
  refine tw_aload_n X dX4_digest_55 1 rfl rfl ?_
  refine tw_callV X (As := []) (st := [.long (wv (wv (wv (wv (wv ((2153 : Int64)) (N 20 0)) (N 19 0)) (N 16 0)) (N 17 0)) (N 18 0))]) vw_X4_205 (m_X4_closedRoads (q := q) N sN oN U sU oU A hB (by omega)) ([]) ([]) rfl rfl (q0 := 0) rfl rfl rfl ⟨rfl, rfl, Nat.le_of_ble_eq_true rfl, Nat.le_of_ble_eq_true rfl⟩ ⟨Nat.le_of_ble_eq_true rfl, Nat.le_of_ble_eq_true rfl⟩ (Nat.le_of_ble_eq_true rfl) dX4_digest_56 (fun v w1 hp => ?_)
  obtain ⟨rfl, rfl⟩ := hp
  refine Teq (ws' := wD cy q N sN oN U sU oU A) (lv' := [(1, .long (wv (wv (wv (wv (wv ((2153 : Int64)) (N 20 0)) (N 19 0)) (N 16 0)) (N 17 0)) (N 18 0))), (0, .ref (q 0))]) (st' := [.int (enc (cntC N (N 16 0).toNat)), .long (wv (wv (wv (wv (wv ((2153 : Int64)) (N 20 0)) (N 19 0)) (N 16 0)) (N 17 0)) (N 18 0))]) rfl rfl rfl ?_
  have r1 := cntC_rng N (N 16 0).toNat
  refine tw_i2l X (In_of (by omega) (by omega)) dX4_digest_59 ?_
  refine tw_callS X (As := [.long (wv (wv (wv (wv (wv ((2153 : Int64)) (N 20 0)) (N 19 0)) (N 16 0)) (N 17 0)) (N 18 0)), .long (Int64.ofInt (cntC N (N 16 0).toNat))]) (st := []) sw_X4_192 (m_X4_woven (wv (wv (wv (wv (wv ((2153 : Int64)) (N 20 0)) (N 19 0)) (N 16 0)) (N 17 0)) (N 18 0)) (Int64.ofInt (cntC N (N 16 0).toNat))) ([]) (wD cy q N sN oN U sU oU A) rfl rfl rfl ⟨rfl, rfl, Nat.le_of_ble_eq_true rfl, Nat.le_of_ble_eq_true rfl⟩ ⟨Nat.le_of_ble_eq_true rfl, Nat.le_of_ble_eq_true rfl⟩ (Nat.le_of_ble_eq_true rfl) dX4_digest_60 (fun v w1 hp => ?_)
  obtain ⟨rfl, rfl⟩ := hp
  refine Teq (ws' := wD cy q N sN oN U sU oU A) (lv' := [(1, .long (wv (wv (wv (wv (wv ((2153 : Int64)) (N 20 0)) (N 19 0)) (N 16 0)) (N 17 0)) (N 18 0))), (0, .ref (q 0))]) (st' := [.long (wv (wv (wv (wv (wv (wv ((2153 : Int64)) (N 20 0)) (N 19 0)) (N 16 0)) (N 17 0)) (N 18 0)) (cntC N (N 16 0).toNat))]) rfl rfl rfl ?_
  refine tw_lstore_n (lv' := [(1, .long (wv (wv (wv (wv (wv (wv ((2153 : Int64)) (N 20 0)) (N 19 0)) (N 16 0)) (N 17 0)) (N 18 0)) (cntC N (N 16 0).toNat))), (0, .ref (q 0))]) X dX4_digest_63 rfl (by decide) rfl ?_
  refine tw_lload_n X dX4_digest_64 0 rfl rfl ?_
  refine tw_aload_n X dX4_digest_65 1 rfl rfl ?_
  refine tw_callV X (As := []) (st := [.long (wv (wv (wv (wv (wv (wv ((2153 : Int64)) (N 20 0)) (N 19 0)) (N 16 0)) (N 17 0)) (N 18 0)) (cntC N (N 16 0).toNat))]) vw_X4_208 (m_X4_allFrayed (q := q) N sN oN U sU oU A hB (by omega)) ([]) ([]) rfl rfl (q0 := 0) rfl rfl rfl ⟨rfl, rfl, Nat.le_of_ble_eq_true rfl, Nat.le_of_ble_eq_true rfl⟩ ⟨Nat.le_of_ble_eq_true rfl, Nat.le_of_ble_eq_true rfl⟩ (Nat.le_of_ble_eq_true rfl) dX4_digest_66 (fun v w1 hp => ?_)
  obtain ⟨rfl, rfl⟩ := hp
  refine Teq (ws' := wD cy q N sN oN U sU oU A) (lv' := [(1, .long (wv (wv (wv (wv (wv (wv ((2153 : Int64)) (N 20 0)) (N 19 0)) (N 16 0)) (N 17 0)) (N 18 0)) (cntC N (N 16 0).toNat))), (0, .ref (q 0))]) (st' := [.int (enc (frI N (N 17 0).toNat)), .long (wv (wv (wv (wv (wv (wv ((2153 : Int64)) (N 20 0)) (N 19 0)) (N 16 0)) (N 17 0)) (N 18 0)) (cntC N (N 16 0).toNat))]) rfl rfl rfl ?_
  have r2 := frI_rng hB (N 17 0).toNat
  refine tw_i2l X (In_of (by omega) (by omega)) dX4_digest_69 ?_
  refine tw_callS X (As := [.long (wv (wv (wv (wv (wv (wv ((2153 : Int64)) (N 20 0)) (N 19 0)) (N 16 0)) (N 17 0)) (N 18 0)) (cntC N (N 16 0).toNat)), .long (Int64.ofInt (frI N (N 17 0).toNat))]) (st := []) sw_X4_192 (m_X4_woven (wv (wv (wv (wv (wv (wv ((2153 : Int64)) (N 20 0)) (N 19 0)) (N 16 0)) (N 17 0)) (N 18 0)) (cntC N (N 16 0).toNat)) (Int64.ofInt (frI N (N 17 0).toNat))) ([]) (wD cy q N sN oN U sU oU A) rfl rfl rfl ⟨rfl, rfl, Nat.le_of_ble_eq_true rfl, Nat.le_of_ble_eq_true rfl⟩ ⟨Nat.le_of_ble_eq_true rfl, Nat.le_of_ble_eq_true rfl⟩ (Nat.le_of_ble_eq_true rfl) dX4_digest_70 (fun v w1 hp => ?_)
  obtain ⟨rfl, rfl⟩ := hp
  refine Teq (ws' := wD cy q N sN oN U sU oU A) (lv' := [(1, .long (wv (wv (wv (wv (wv (wv ((2153 : Int64)) (N 20 0)) (N 19 0)) (N 16 0)) (N 17 0)) (N 18 0)) (cntC N (N 16 0).toNat))), (0, .ref (q 0))]) (st' := [.long (wv (wv (wv (wv (wv (wv (wv ((2153 : Int64)) (N 20 0)) (N 19 0)) (N 16 0)) (N 17 0)) (N 18 0)) (cntC N (N 16 0).toNat)) (frI N (N 17 0).toNat))]) rfl rfl rfl ?_
  refine tw_lstore_n (lv' := [(1, .long (wv (wv (wv (wv (wv (wv (wv ((2153 : Int64)) (N 20 0)) (N 19 0)) (N 16 0)) (N 17 0)) (N 18 0)) (cntC N (N 16 0).toNat)) (frI N (N 17 0).toNat))), (0, .ref (q 0))]) X dX4_digest_73 rfl (by decide) rfl ?_
  refine tw_lload_n X dX4_digest_74 0 rfl rfl ?_
  refine tw_aload_n X dX4_digest_75 1 rfl rfl ?_
  refine tw_callV X (As := []) (st := [.long (wv (wv (wv (wv (wv (wv (wv ((2153 : Int64)) (N 20 0)) (N 19 0)) (N 16 0)) (N 17 0)) (N 18 0)) (cntC N (N 16 0).toNat)) (frI N (N 17 0).toNat))]) vw_X4_211 (m_X4_mostWorn (q := q) N sN oN U sU oU A hB (by omega)) ([]) ([]) rfl rfl (q0 := 0) rfl rfl rfl ⟨rfl, rfl, Nat.le_of_ble_eq_true rfl, Nat.le_of_ble_eq_true rfl⟩ ⟨Nat.le_of_ble_eq_true rfl, Nat.le_of_ble_eq_true rfl⟩ (Nat.le_of_ble_eq_true rfl) dX4_digest_76 (fun v w1 hp => ?_)
  obtain ⟨rfl, rfl⟩ := hp
  refine Teq (ws' := wD cy q N sN oN U sU oU A) (lv' := [(1, .long (wv (wv (wv (wv (wv (wv (wv ((2153 : Int64)) (N 20 0)) (N 19 0)) (N 16 0)) (N 17 0)) (N 18 0)) (cntC N (N 16 0).toNat)) (frI N (N 17 0).toNat))), (0, .ref (q 0))]) (st' := [.int (enc ((mostW N (N 16 0).toNat).1)), .long (wv (wv (wv (wv (wv (wv (wv ((2153 : Int64)) (N 20 0)) (N 19 0)) (N 16 0)) (N 17 0)) (N 18 0)) (cntC N (N 16 0).toNat)) (frI N (N 17 0).toNat))]) rfl rfl rfl ?_
  have r3 := mostW_rng N (N 16 0).toNat
  refine tw_i2l X (In_of (by omega) (by omega)) dX4_digest_79 ?_
  refine tw_callS X (As := [.long (wv (wv (wv (wv (wv (wv (wv ((2153 : Int64)) (N 20 0)) (N 19 0)) (N 16 0)) (N 17 0)) (N 18 0)) (cntC N (N 16 0).toNat)) (frI N (N 17 0).toNat)), .long (Int64.ofInt ((mostW N (N 16 0).toNat).1))]) (st := []) sw_X4_192 (m_X4_woven (wv (wv (wv (wv (wv (wv (wv ((2153 : Int64)) (N 20 0)) (N 19 0)) (N 16 0)) (N 17 0)) (N 18 0)) (cntC N (N 16 0).toNat)) (frI N (N 17 0).toNat)) (Int64.ofInt ((mostW N (N 16 0).toNat).1))) ([]) (wD cy q N sN oN U sU oU A) rfl rfl rfl ⟨rfl, rfl, Nat.le_of_ble_eq_true rfl, Nat.le_of_ble_eq_true rfl⟩ ⟨Nat.le_of_ble_eq_true rfl, Nat.le_of_ble_eq_true rfl⟩ (Nat.le_of_ble_eq_true rfl) dX4_digest_80 (fun v w1 hp => ?_)
  obtain ⟨rfl, rfl⟩ := hp
  refine Teq (ws' := wD cy q N sN oN U sU oU A) (lv' := [(1, .long (wv (wv (wv (wv (wv (wv (wv ((2153 : Int64)) (N 20 0)) (N 19 0)) (N 16 0)) (N 17 0)) (N 18 0)) (cntC N (N 16 0).toNat)) (frI N (N 17 0).toNat))), (0, .ref (q 0))]) (st' := [.long (wv (wv (wv (wv (wv (wv (wv (wv ((2153 : Int64)) (N 20 0)) (N 19 0)) (N 16 0)) (N 17 0)) (N 18 0)) (cntC N (N 16 0).toNat)) (frI N (N 17 0).toNat)) ((mostW N (N 16 0).toNat).1))]) rfl rfl rfl ?_
  refine tw_lstore_n (lv' := [(1, .long (wv (wv (wv (wv (wv (wv (wv (wv ((2153 : Int64)) (N 20 0)) (N 19 0)) (N 16 0)) (N 17 0)) (N 18 0)) (cntC N (N 16 0).toNat)) (frI N (N 17 0).toNat)) ((mostW N (N 16 0).toNat).1))), (0, .ref (q 0))]) X dX4_digest_83 rfl (by decide) rfl ?_
  refine tw_lload_n X dX4_digest_84 0 rfl rfl ?_
  refine tw_aload_n X dX4_digest_85 1 rfl rfl ?_
  refine tw_callV X (As := []) (st := [.long (wv (wv (wv (wv (wv (wv (wv (wv ((2153 : Int64)) (N 20 0)) (N 19 0)) (N 16 0)) (N 17 0)) (N 18 0)) (cntC N (N 16 0).toNat)) (frI N (N 17 0).toNat)) ((mostW N (N 16 0).toNat).1))]) vw_X4_214 (m_X4_partedPairs (q := q) N sN oN U sU oU A B hF hB2 hV) ([]) ([]) rfl rfl (q0 := 0) rfl rfl rfl ⟨rfl, rfl, Nat.le_of_ble_eq_true rfl, Nat.le_of_ble_eq_true rfl⟩ ⟨Nat.le_of_ble_eq_true rfl, Nat.le_of_ble_eq_true rfl⟩ (Nat.le_of_ble_eq_true rfl) dX4_digest_86 (fun v w1 hp => ?_)
  obtain ⟨rfl, sf, hVf, rfl⟩ := hp
  refine Teq (ws' := wD cy q N sf 0 U sU oU A) (lv' := [(1, .long (wv (wv (wv (wv (wv (wv (wv (wv ((2153 : Int64)) (N 20 0)) (N 19 0)) (N 16 0)) (N 17 0)) (N 18 0)) (cntC N (N 16 0).toNat)) (frI N (N 17 0).toNat)) ((mostW N (N 16 0).toNat).1))), (0, .ref (q 0))]) (st' := [.int (enc (pdP N (N 19 0).toNat)), .long (wv (wv (wv (wv (wv (wv (wv (wv ((2153 : Int64)) (N 20 0)) (N 19 0)) (N 16 0)) (N 17 0)) (N 18 0)) (cntC N (N 16 0).toNat)) (frI N (N 17 0).toNat)) ((mostW N (N 16 0).toNat).1))]) rfl rfl rfl ?_
  have r4 := pdP_rng N (N 19 0).toNat (by omega)
  have hV0 : WVo N sf 0 := ⟨Or.inl rfl, fun _ => hVf⟩
  refine tw_i2l X (In_of (by omega) (by omega)) dX4_digest_89 ?_
  refine tw_callS X (As := [.long (wv (wv (wv (wv (wv (wv (wv (wv ((2153 : Int64)) (N 20 0)) (N 19 0)) (N 16 0)) (N 17 0)) (N 18 0)) (cntC N (N 16 0).toNat)) (frI N (N 17 0).toNat)) ((mostW N (N 16 0).toNat).1)), .long (Int64.ofInt (pdP N (N 19 0).toNat))]) (st := []) sw_X4_192 (m_X4_woven (wv (wv (wv (wv (wv (wv (wv (wv ((2153 : Int64)) (N 20 0)) (N 19 0)) (N 16 0)) (N 17 0)) (N 18 0)) (cntC N (N 16 0).toNat)) (frI N (N 17 0).toNat)) ((mostW N (N 16 0).toNat).1)) (Int64.ofInt (pdP N (N 19 0).toNat))) ([]) (wD cy q N sf 0 U sU oU A) rfl rfl rfl ⟨rfl, rfl, Nat.le_of_ble_eq_true rfl, Nat.le_of_ble_eq_true rfl⟩ ⟨Nat.le_of_ble_eq_true rfl, Nat.le_of_ble_eq_true rfl⟩ (Nat.le_of_ble_eq_true rfl) dX4_digest_90 (fun v w1 hp => ?_)
  obtain ⟨rfl, rfl⟩ := hp
  refine Teq (ws' := wD cy q N sf 0 U sU oU A) (lv' := [(1, .long (wv (wv (wv (wv (wv (wv (wv (wv ((2153 : Int64)) (N 20 0)) (N 19 0)) (N 16 0)) (N 17 0)) (N 18 0)) (cntC N (N 16 0).toNat)) (frI N (N 17 0).toNat)) ((mostW N (N 16 0).toNat).1))), (0, .ref (q 0))]) (st' := [.long (wv (wv (wv (wv (wv (wv (wv (wv (wv ((2153 : Int64)) (N 20 0)) (N 19 0)) (N 16 0)) (N 17 0)) (N 18 0)) (cntC N (N 16 0).toNat)) (frI N (N 17 0).toNat)) ((mostW N (N 16 0).toNat).1)) (pdP N (N 19 0).toNat))]) rfl rfl rfl ?_
  refine tw_lstore_n (lv' := [(1, .long (wv (wv (wv (wv (wv (wv (wv (wv (wv ((2153 : Int64)) (N 20 0)) (N 19 0)) (N 16 0)) (N 17 0)) (N 18 0)) (cntC N (N 16 0).toNat)) (frI N (N 17 0).toNat)) ((mostW N (N 16 0).toNat).1)) (pdP N (N 19 0).toNat))), (0, .ref (q 0))]) X dX4_digest_93 rfl (by decide) rfl ?_
  refine tw_lload_n X dX4_digest_94 0 rfl rfl ?_
  refine tw_aload_n X dX4_digest_95 1 rfl rfl ?_
  refine tw_callV X (As := []) (st := [.long (wv (wv (wv (wv (wv (wv (wv (wv (wv ((2153 : Int64)) (N 20 0)) (N 19 0)) (N 16 0)) (N 17 0)) (N 18 0)) (cntC N (N 16 0).toNat)) (frI N (N 17 0).toNat)) ((mostW N (N 16 0).toNat).1)) (pdP N (N 19 0).toNat))]) vw_X4_217 (m_X4_bestToMend (q := q) N sf 0 U sU oU A B hF hB2 hV0) ([]) ([]) rfl rfl (q0 := 0) rfl rfl rfl ⟨rfl, rfl, Nat.le_of_ble_eq_true rfl, Nat.le_of_ble_eq_true rfl⟩ ⟨Nat.le_of_ble_eq_true rfl, Nat.le_of_ble_eq_true rfl⟩ (Nat.le_of_ble_eq_true rfl) dX4_digest_96 (fun v w1 hp => ?_)
  obtain ⟨rfl, U1, su, ou, rfl⟩ := hp
  refine Teq (ws' := wD cy q N sf 0 U1 su ou A) (lv' := [(1, .long (wv (wv (wv (wv (wv (wv (wv (wv (wv ((2153 : Int64)) (N 20 0)) (N 19 0)) (N 16 0)) (N 17 0)) (N 18 0)) (cntC N (N 16 0).toNat)) (frI N (N 17 0).toNat)) ((mostW N (N 16 0).toNat).1)) (pdP N (N 19 0).toNat))), (0, .ref (q 0))]) (st' := [.int (enc (bestM N)), .long (wv (wv (wv (wv (wv (wv (wv (wv (wv ((2153 : Int64)) (N 20 0)) (N 19 0)) (N 16 0)) (N 17 0)) (N 18 0)) (cntC N (N 16 0).toNat)) (frI N (N 17 0).toNat)) ((mostW N (N 16 0).toNat).1)) (pdP N (N 19 0).toNat))]) rfl rfl rfl ?_
  have r5 : -1 ≤ bestM N ∧ bestM N < (N 16 0).toNat := bestM_rng N (N 16 0).toNat
  refine tw_i2l X (In_of (by omega) (by omega)) dX4_digest_99 ?_
  refine tw_callS X (As := [.long (wv (wv (wv (wv (wv (wv (wv (wv (wv ((2153 : Int64)) (N 20 0)) (N 19 0)) (N 16 0)) (N 17 0)) (N 18 0)) (cntC N (N 16 0).toNat)) (frI N (N 17 0).toNat)) ((mostW N (N 16 0).toNat).1)) (pdP N (N 19 0).toNat)), .long (Int64.ofInt (bestM N))]) (st := []) sw_X4_192 (m_X4_woven (wv (wv (wv (wv (wv (wv (wv (wv (wv ((2153 : Int64)) (N 20 0)) (N 19 0)) (N 16 0)) (N 17 0)) (N 18 0)) (cntC N (N 16 0).toNat)) (frI N (N 17 0).toNat)) ((mostW N (N 16 0).toNat).1)) (pdP N (N 19 0).toNat)) (Int64.ofInt (bestM N))) ([]) (wD cy q N sf 0 U1 su ou A) rfl rfl rfl ⟨rfl, rfl, Nat.le_of_ble_eq_true rfl, Nat.le_of_ble_eq_true rfl⟩ ⟨Nat.le_of_ble_eq_true rfl, Nat.le_of_ble_eq_true rfl⟩ (Nat.le_of_ble_eq_true rfl) dX4_digest_100 (fun v w1 hp => ?_)
  obtain ⟨rfl, rfl⟩ := hp
  refine Teq (ws' := wD cy q N sf 0 U1 su ou A) (lv' := [(1, .long (wv (wv (wv (wv (wv (wv (wv (wv (wv ((2153 : Int64)) (N 20 0)) (N 19 0)) (N 16 0)) (N 17 0)) (N 18 0)) (cntC N (N 16 0).toNat)) (frI N (N 17 0).toNat)) ((mostW N (N 16 0).toNat).1)) (pdP N (N 19 0).toNat))), (0, .ref (q 0))]) (st' := [.long (wv (wv (wv (wv (wv (wv (wv (wv (wv (wv ((2153 : Int64)) (N 20 0)) (N 19 0)) (N 16 0)) (N 17 0)) (N 18 0)) (cntC N (N 16 0).toNat)) (frI N (N 17 0).toNat)) ((mostW N (N 16 0).toNat).1)) (pdP N (N 19 0).toNat)) (bestM N))]) rfl rfl rfl ?_
  refine tw_lstore_n (lv' := [(1, .long (wv (wv (wv (wv (wv (wv (wv (wv (wv (wv ((2153 : Int64)) (N 20 0)) (N 19 0)) (N 16 0)) (N 17 0)) (N 18 0)) (cntC N (N 16 0).toNat)) (frI N (N 17 0).toNat)) ((mostW N (N 16 0).toNat).1)) (pdP N (N 19 0).toNat)) (bestM N))), (0, .ref (q 0))]) X dX4_digest_103 rfl (by decide) rfl ?_
  refine tw_aload_n X dX4_digest_104 1 rfl rfl ?_
  refine tw_lload_n X dX4_digest_105 0 rfl rfl ?_
  refine tw_callV X (As := [.long (wv (wv (wv (wv (wv (wv (wv (wv (wv (wv ((2153 : Int64)) (N 20 0)) (N 19 0)) (N 16 0)) (N 17 0)) (N 18 0)) (cntC N (N 16 0).toNat)) (frI N (N 17 0).toNat)) ((mostW N (N 16 0).toNat).1)) (pdP N (N 19 0).toNat)) (bestM N))]) (st := []) vw_X4_220 (m_X4_digestOfRoads (q := q) N sf 0 U1 su ou A (wv (wv (wv (wv (wv (wv (wv (wv (wv (wv ((2153 : Int64)) (N 20 0)) (N 19 0)) (N 16 0)) (N 17 0)) (N 18 0)) (cntC N (N 16 0).toNat)) (frI N (N 17 0).toNat)) ((mostW N (N 16 0).toNat).1)) (pdP N (N 19 0).toNat)) (bestM N)) B hF hB2) ([]) ([]) rfl rfl (q0 := 0) rfl rfl rfl ⟨rfl, rfl, Nat.le_of_ble_eq_true rfl, Nat.le_of_ble_eq_true rfl⟩ ⟨Nat.le_of_ble_eq_true rfl, Nat.le_of_ble_eq_true rfl⟩ (Nat.le_of_ble_eq_true rfl) dX4_digest_106 (fun v w1 hp => ?_)
  obtain ⟨rfl, rfl⟩ := hp
  refine Teq (ws' := wD cy q N sf 0 U1 su ou A) (lv' := [(1, .long (wv (wv (wv (wv (wv (wv (wv (wv (wv (wv ((2153 : Int64)) (N 20 0)) (N 19 0)) (N 16 0)) (N 17 0)) (N 18 0)) (cntC N (N 16 0).toNat)) (frI N (N 17 0).toNat)) ((mostW N (N 16 0).toNat).1)) (pdP N (N 19 0).toNat)) (bestM N))), (0, .ref (q 0))]) (st' := [.long (dgR N (wv (wv (wv (wv (wv (wv (wv (wv (wv (wv ((2153 : Int64)) (N 20 0)) (N 19 0)) (N 16 0)) (N 17 0)) (N 18 0)) (cntC N (N 16 0).toNat)) (frI N (N 17 0).toNat)) ((mostW N (N 16 0).toNat).1)) (pdP N (N 19 0).toNat)) (bestM N)) (N 16 0).toNat)]) rfl rfl rfl ?_
  refine tw_lstore_n (lv' := [(1, .long (dgR N (wv (wv (wv (wv (wv (wv (wv (wv (wv (wv ((2153 : Int64)) (N 20 0)) (N 19 0)) (N 16 0)) (N 17 0)) (N 18 0)) (cntC N (N 16 0).toNat)) (frI N (N 17 0).toNat)) ((mostW N (N 16 0).toNat).1)) (pdP N (N 19 0).toNat)) (bestM N)) (N 16 0).toNat)), (0, .ref (q 0))]) X dX4_digest_109 rfl (by decide) rfl ?_
  refine tw_aload_n X dX4_digest_110 1 rfl rfl ?_
  refine tw_lload_n X dX4_digest_111 0 rfl rfl ?_
  refine tw_callV X (As := [.long (dgR N (wv (wv (wv (wv (wv (wv (wv (wv (wv (wv ((2153 : Int64)) (N 20 0)) (N 19 0)) (N 16 0)) (N 17 0)) (N 18 0)) (cntC N (N 16 0).toNat)) (frI N (N 17 0).toNat)) ((mostW N (N 16 0).toNat).1)) (pdP N (N 19 0).toNat)) (bestM N)) (N 16 0).toNat)]) (st := []) vw_X4_224 (m_X4_digestOfTourists (q := q) N sf 0 U1 su ou A (dgR N (wv (wv (wv (wv (wv (wv (wv (wv (wv (wv ((2153 : Int64)) (N 20 0)) (N 19 0)) (N 16 0)) (N 17 0)) (N 18 0)) (cntC N (N 16 0).toNat)) (frI N (N 17 0).toNat)) ((mostW N (N 16 0).toNat).1)) (pdP N (N 19 0).toNat)) (bestM N)) (N 16 0).toNat) B hF hB2 hV0) ([]) ([]) rfl rfl (q0 := 0) rfl rfl rfl ⟨rfl, rfl, Nat.le_of_ble_eq_true rfl, Nat.le_of_ble_eq_true rfl⟩ ⟨Nat.le_of_ble_eq_true rfl, Nat.le_of_ble_eq_true rfl⟩ (Nat.le_of_ble_eq_true rfl) dX4_digest_112 (fun v w1 hp => ?_)
  obtain ⟨rfl, U2, su2, ou2, rfl⟩ := hp
  refine Teq (ws' := wD cy q N sf 0 U2 su2 ou2 A) (lv' := [(1, .long (dgR N (wv (wv (wv (wv (wv (wv (wv (wv (wv (wv ((2153 : Int64)) (N 20 0)) (N 19 0)) (N 16 0)) (N 17 0)) (N 18 0)) (cntC N (N 16 0).toNat)) (frI N (N 17 0).toNat)) ((mostW N (N 16 0).toNat).1)) (pdP N (N 19 0).toNat)) (bestM N)) (N 16 0).toNat)), (0, .ref (q 0))]) (st' := [.long (dgT N (dgR N (wv (wv (wv (wv (wv (wv (wv (wv (wv (wv ((2153 : Int64)) (N 20 0)) (N 19 0)) (N 16 0)) (N 17 0)) (N 18 0)) (cntC N (N 16 0).toNat)) (frI N (N 17 0).toNat)) ((mostW N (N 16 0).toNat).1)) (pdP N (N 19 0).toNat)) (bestM N)) (N 16 0).toNat) (N 17 0).toNat)]) rfl rfl rfl ?_
  exact ret _ _ _ _ dX4_digest_115 ⟨rfl, sf, _, _, _, hVf, rfl⟩
