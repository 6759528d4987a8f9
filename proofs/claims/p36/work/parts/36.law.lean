/-! THE LAW: the hour that goes by -/
set_option maxRecDepth 100000 in
set_option maxHeartbeats 4000000 in
theorem law_s5 {G : va_G} {cy : ClassId} {c : Cx} (X : Ok G cy c cL_law RL 31 room_1) {q qs rr tt : Nat → Nat} (N : MT) (sN : Int → Int) (oN : Int) (U : MT) (sU : Int → Int) (oU : Int) (A : Int → Int) (g : Int → Int) (bs : Nat) (ti B : Int) (hI : INV N g B) (hB2 : B ≤ 500000) (hV : WVo N sN oN) (k n : Nat) (a1 a2 a3 a4 : Nat) (fw fk fs : Int → Int) (a5 a6 a7 a8 : Nat) (fr ff fd fb fo : Int → Int) (hk : k + 24 ≤ 600104) (hn : n + 240 ≤ 7301314) (hfr : (∀ r : Int, 0 ≤ r → r < N 17 0 → fr r = N 8 r)) (hff : (∀ r : Int, 0 ≤ r → r < N 17 0 → ff r = frN N r)) (hfd : (∀ r : Int, 0 ≤ r → r < N 17 0 → fd r = N 12 r)) (hfb : (∀ r : Int, 0 ≤ r → r < N 17 0 → fb r = inN N r)) (kk : ∀ (s9 : Int → Int) (o9 : Int) (U9 : MT) (sU9 : Int → Int) (oU9 : Int) (A9 : Int → Int) (g2 : Int → Int), WVo (hourM N) s9 o9 → GE (hourM N) g2 → T G c room_1 31 (k + 24) (n + 240) ([(a1, arI cy ((N 16 0).toNat) fw)] ++ [(a2, arI cy ((N 16 0).toNat) fk)] ++ [(a3, arI cy ((N 16 0).toNat) fs)] ++ [(a4, arI cy ((N 16 0).toNat) fo)] ++ [(a5, arI cy ((N 17 0).toNat) fr)] ++ [(a6, arI cy ((N 17 0).toNat) ff)] ++ [(a7, arI cy ((N 17 0).toNat) fd)] ++ [(a8, arZ G ((N 17 0).toNat) fb)] ++ wD cy q (hourM N) s9 o9 U9 sU9 oU9 A9 ++ wS G cy qs rr tt (hourM N) g2) 1121 [(12, .ref (a1)), (13, .ref (a2)), (14, .ref (a3)), (7, .int (enc (N 17 0))), (6, .int (enc (N 16 0))), (3, .int (enc (ti))), (2, .ref (qs 0)), (1, .ref (q 0)), (0, .ref (bs))] []) : T G c room_1 31 k n ([(a1, arI cy ((N 16 0).toNat) fw)] ++ [(a2, arI cy ((N 16 0).toNat) fk)] ++ [(a3, arI cy ((N 16 0).toNat) fs)] ++ [(a4, arI cy ((N 16 0).toNat) fo)] ++ [(a5, arI cy ((N 17 0).toNat) fr)] ++ [(a6, arI cy ((N 17 0).toNat) ff)] ++ [(a7, arI cy ((N 17 0).toNat) fd)] ++ [(a8, arZ G ((N 17 0).toNat) fb)] ++ wD cy q N sN oN U sU oU A ++ wS G cy qs rr tt N g) 930 [(17, .ref (a5)), (18, .ref (a6)), (19, .ref (a7)), (20, .ref (a8)), (12, .ref (a1)), (13, .ref (a2)), (14, .ref (a3)), (15, .ref (a4)), (7, .int (enc (N 17 0))), (6, .int (enc (N 16 0))), (3, .int (enc (ti))), (2, .ref (qs 0)), (1, .ref (q 0)), (0, .ref (bs))] [] := by
  have hF := hI.1
  have hB := hF.bd (by omega)
  obtain ⟨w0, w1, w2, w3, w4⟩ := hF.r
  have h17 := hF.2.2.2.2.2.1
  have h172 := hF.2.2.2.2.2.2.1
  have h20 := hF.2.2.2.2.2.2.2.1
  have hH := hF.hour
  have hBh := hH.bd (by omega)
  have h17h : hourM N 17 0 = N 17 0 := by rw [hour_fix' (by omega)]
  have h16h : hourM N 16 0 = N 16 0 := by rw [hour_fix' (by omega)]
  have h20h := hourM_20 N
  have b18 := hB 18 0
  have bh18 := hBh 18 0
  have b20 := hB 20 0
  have bh20 := hBh 20 0
  refine tw_aload_n X dL_law_930 12 rfl rfl ?_
  refine tw_callV X (As := []) (st := []) vw_L_137 (m_X4_hour (q := q) N sN oN U sU oU A) ([(a1, arI cy ((N 16 0).toNat) fw)] ++ [(a2, arI cy ((N 16 0).toNat) fk)] ++ [(a3, arI cy ((N 16 0).toNat) fs)] ++ [(a4, arI cy ((N 16 0).toNat) fo)] ++ [(a5, arI cy ((N 17 0).toNat) fr)] ++ [(a6, arI cy ((N 17 0).toNat) ff)] ++ [(a7, arI cy ((N 17 0).toNat) fd)] ++ [(a8, arZ G ((N 17 0).toNat) fb)]) (wS G cy qs rr tt N g) (List.append_assoc _ _ _) rfl (q0 := 0) rfl rfl rfl ⟨rfl, rfl, Nat.le_of_ble_eq_true rfl, Nat.le_of_ble_eq_true rfl⟩ ⟨(show k + 0 ≤ 600104 by omega), (show n + 0 ≤ 7301314 by omega)⟩ (Nat.le_of_ble_eq_true rfl) dL_law_931 (fun v w1 hp => ?_)
  obtain ⟨rfl, rfl⟩ := hp
  refine Teq (ws' := [(a1, arI cy ((N 16 0).toNat) fw)] ++ [(a2, arI cy ((N 16 0).toNat) fk)] ++ [(a3, arI cy ((N 16 0).toNat) fs)] ++ [(a4, arI cy ((N 16 0).toNat) fo)] ++ [(a5, arI cy ((N 17 0).toNat) fr)] ++ [(a6, arI cy ((N 17 0).toNat) ff)] ++ [(a7, arI cy ((N 17 0).toNat) fd)] ++ [(a8, arZ G ((N 17 0).toNat) fb)] ++ wD cy q N sN oN U sU oU A ++ wS G cy qs rr tt N g) (lv' := [(17, .ref (a5)), (18, .ref (a6)), (19, .ref (a7)), (20, .ref (a8)), (12, .ref (a1)), (13, .ref (a2)), (14, .ref (a3)), (15, .ref (a4)), (7, .int (enc (N 17 0))), (6, .int (enc (N 16 0))), (3, .int (enc (ti))), (2, .ref (qs 0)), (1, .ref (q 0)), (0, .ref (bs))]) (st' := [.int (enc (N 20 0))]) (List.append_assoc _ _ _).symm rfl rfl ?_
  have b1 := hB 20 0
  refine tw_istore (lv' := [(23, .int (enc (N 20 0))), (17, .ref (a5)), (18, .ref (a6)), (19, .ref (a7)), (20, .ref (a8)), (12, .ref (a1)), (13, .ref (a2)), (14, .ref (a3)), (15, .ref (a4)), (7, .int (enc (N 17 0))), (6, .int (enc (N 16 0))), (3, .int (enc (ti))), (2, .ref (qs 0)), (1, .ref (q 0)), (0, .ref (bs))]) X dL_law_934 (by decide) rfl ?_
  refine tw_aload_n X dL_law_936 13 rfl rfl ?_
  refine tw_iconst X dL_law_937 ?_
  refine tw_callV X (As := [.int (enc (1))]) (st := []) vw_L_59 (m_X4_pass (q := q) N sN oN U sU oU A (1) (by omega) B hF (by omega) hV) ([(a1, arI cy ((N 16 0).toNat) fw)] ++ [(a2, arI cy ((N 16 0).toNat) fk)] ++ [(a3, arI cy ((N 16 0).toNat) fs)] ++ [(a4, arI cy ((N 16 0).toNat) fo)] ++ [(a5, arI cy ((N 17 0).toNat) fr)] ++ [(a6, arI cy ((N 17 0).toNat) ff)] ++ [(a7, arI cy ((N 17 0).toNat) fd)] ++ [(a8, arZ G ((N 17 0).toNat) fb)]) (wS G cy qs rr tt N g) (List.append_assoc _ _ _) rfl (q0 := 0) rfl rfl rfl ⟨rfl, rfl, Nat.le_of_ble_eq_true rfl, Nat.le_of_ble_eq_true rfl⟩ ⟨(show k + 0 ≤ 600104 by omega), (show n + 0 ≤ 7301314 by omega)⟩ (Nat.le_of_ble_eq_true rfl) dL_law_938 (fun v w1 hp => ?_)
  obtain ⟨rfl, s2, o2, U2, sU2, oU2, A2, hV2, rfl⟩ := hp
  refine Teq (ws' := [(a1, arI cy ((N 16 0).toNat) fw)] ++ [(a2, arI cy ((N 16 0).toNat) fk)] ++ [(a3, arI cy ((N 16 0).toNat) fs)] ++ [(a4, arI cy ((N 16 0).toNat) fo)] ++ [(a5, arI cy ((N 17 0).toNat) fr)] ++ [(a6, arI cy ((N 17 0).toNat) ff)] ++ [(a7, arI cy ((N 17 0).toNat) fd)] ++ [(a8, arZ G ((N 17 0).toNat) fb)] ++ wD cy q (hoursM N (1 : Int).toNat) s2 o2 U2 sU2 oU2 A2 ++ wS G cy qs rr tt N g) (lv' := [(23, .int (enc (N 20 0))), (17, .ref (a5)), (18, .ref (a6)), (19, .ref (a7)), (20, .ref (a8)), (12, .ref (a1)), (13, .ref (a2)), (14, .ref (a3)), (15, .ref (a4)), (7, .int (enc (N 17 0))), (6, .int (enc (N 16 0))), (3, .int (enc (ti))), (2, .ref (qs 0)), (1, .ref (q 0)), (0, .ref (bs))]) (st' := [.int (enc (hoursM N (1 : Int).toNat 18 0 - N 18 0))]) (List.append_assoc _ _ _).symm rfl rfl ?_
  refine Teq (ws' := [(a1, arI cy ((N 16 0).toNat) fw)] ++ [(a2, arI cy ((N 16 0).toNat) fk)] ++ [(a3, arI cy ((N 16 0).toNat) fs)] ++ [(a4, arI cy ((N 16 0).toNat) fo)] ++ [(a5, arI cy ((N 17 0).toNat) fr)] ++ [(a6, arI cy ((N 17 0).toNat) ff)] ++ [(a7, arI cy ((N 17 0).toNat) fd)] ++ [(a8, arZ G ((N 17 0).toNat) fb)] ++ wD cy q (hourM N) s2 o2 U2 sU2 oU2 A2 ++ wS G cy qs rr tt N g) (lv' := [(23, .int (enc (N 20 0))), (17, .ref (a5)), (18, .ref (a6)), (19, .ref (a7)), (20, .ref (a8)), (12, .ref (a1)), (13, .ref (a2)), (14, .ref (a3)), (15, .ref (a4)), (7, .int (enc (N 17 0))), (6, .int (enc (N 16 0))), (3, .int (enc (ti))), (2, .ref (qs 0)), (1, .ref (q 0)), (0, .ref (bs))]) (st' := [.int (enc (hourM N 18 0 - N 18 0))]) rfl rfl rfl ?_
  refine tw_istore (lv' := [(24, .int (enc (hourM N 18 0 - N 18 0))), (23, .int (enc (N 20 0))), (17, .ref (a5)), (18, .ref (a6)), (19, .ref (a7)), (20, .ref (a8)), (12, .ref (a1)), (13, .ref (a2)), (14, .ref (a3)), (15, .ref (a4)), (7, .int (enc (N 17 0))), (6, .int (enc (N 16 0))), (3, .int (enc (ti))), (2, .ref (qs 0)), (1, .ref (q 0)), (0, .ref (bs))]) X dL_law_941 (by decide) rfl ?_
  refine tw_aload_n X dL_law_943 13 rfl rfl ?_
  refine tw_callV X (As := []) (st := []) vw_L_140 (m_X5_pass (q := qs) (rr := rr) (tt := tt) N g B hF (by omega) hI.2.2.2) ([(a1, arI cy ((N 16 0).toNat) fw)] ++ [(a2, arI cy ((N 16 0).toNat) fk)] ++ [(a3, arI cy ((N 16 0).toNat) fs)] ++ [(a4, arI cy ((N 16 0).toNat) fo)] ++ [(a5, arI cy ((N 17 0).toNat) fr)] ++ [(a6, arI cy ((N 17 0).toNat) ff)] ++ [(a7, arI cy ((N 17 0).toNat) fd)] ++ [(a8, arZ G ((N 17 0).toNat) fb)] ++ wD cy q (hourM N) s2 o2 U2 sU2 oU2 A2) ([]) (sY _ _) rfl (q0 := 0) rfl rfl rfl ⟨rfl, rfl, Nat.le_of_ble_eq_true rfl, Nat.le_of_ble_eq_true rfl⟩ ⟨(show k + 24 ≤ 600104 by omega), (show n + 240 ≤ 7301314 by omega)⟩ (Nat.le_of_ble_eq_true rfl) dL_law_944 (fun v w1 hp => ?_)
  obtain ⟨rfl, g2, hGg2, rfl⟩ := hp
  refine Teq (ws' := [(a1, arI cy ((N 16 0).toNat) fw)] ++ [(a2, arI cy ((N 16 0).toNat) fk)] ++ [(a3, arI cy ((N 16 0).toNat) fs)] ++ [(a4, arI cy ((N 16 0).toNat) fo)] ++ [(a5, arI cy ((N 17 0).toNat) fr)] ++ [(a6, arI cy ((N 17 0).toNat) ff)] ++ [(a7, arI cy ((N 17 0).toNat) fd)] ++ [(a8, arZ G ((N 17 0).toNat) fb)] ++ wD cy q (hourM N) s2 o2 U2 sU2 oU2 A2 ++ wS G cy qs rr tt (hourM N) g2) (lv' := [(24, .int (enc (hourM N 18 0 - N 18 0))), (23, .int (enc (N 20 0))), (17, .ref (a5)), (18, .ref (a6)), (19, .ref (a7)), (20, .ref (a8)), (12, .ref (a1)), (13, .ref (a2)), (14, .ref (a3)), (15, .ref (a4)), (7, .int (enc (N 17 0))), (6, .int (enc (N 16 0))), (3, .int (enc (ti))), (2, .ref (qs 0)), (1, .ref (q 0)), (0, .ref (bs))]) (st' := []) (sY _ _).symm rfl rfl ?_
  refine tw_iconst X dL_law_947 ?_
  refine tw_istore (lv' := [(25, .int (enc (0))), (24, .int (enc (hourM N 18 0 - N 18 0))), (23, .int (enc (N 20 0))), (17, .ref (a5)), (18, .ref (a6)), (19, .ref (a7)), (20, .ref (a8)), (12, .ref (a1)), (13, .ref (a2)), (14, .ref (a3)), (15, .ref (a4)), (7, .int (enc (N 17 0))), (6, .int (enc (N 16 0))), (3, .int (enc (ti))), (2, .ref (qs 0)), (1, .ref (q 0)), (0, .ref (bs))]) X dL_law_948 (by decide) rfl ?_
  refine tw_iconst X dL_law_950 ?_
  refine tw_istore (lv' := [(26, .int (enc (0))), (25, .int (enc (0))), (24, .int (enc (hourM N 18 0 - N 18 0))), (23, .int (enc (N 20 0))), (17, .ref (a5)), (18, .ref (a6)), (19, .ref (a7)), (20, .ref (a8)), (12, .ref (a1)), (13, .ref (a2)), (14, .ref (a3)), (15, .ref (a4)), (7, .int (enc (N 17 0))), (6, .int (enc (N 16 0))), (3, .int (enc (ti))), (2, .ref (qs 0)), (1, .ref (q 0)), (0, .ref (bs))]) X dL_law_951 (by decide) rfl ?_
  have L953 : ∀ (fu i : Nat), (i : Int) ≤ N 17 0 → N 17 0 + 1 ≤ (i : Int) + fu → T G c room_1 31 (k + 24) (n + 240) ([(a1, arI cy ((N 16 0).toNat) fw)] ++ [(a2, arI cy ((N 16 0).toNat) fk)] ++ [(a3, arI cy ((N 16 0).toNat) fs)] ++ [(a4, arI cy ((N 16 0).toNat) fo)] ++ [(a5, arI cy ((N 17 0).toNat) fr)] ++ [(a6, arI cy ((N 17 0).toNat) ff)] ++ [(a7, arI cy ((N 17 0).toNat) fd)] ++ [(a8, arZ G ((N 17 0).toNat) fb)] ++ wD cy q (hourM N) s2 o2 U2 sU2 oU2 A2 ++ wS G cy qs rr tt (hourM N) g2) 953 [(26, .int (enc ((i : Int)))), (25, .int (enc (nwc N (hourM N) i))), (24, .int (enc (hourM N 18 0 - N 18 0))), (23, .int (enc (N 20 0))), (17, .ref (a5)), (18, .ref (a6)), (19, .ref (a7)), (20, .ref (a8)), (12, .ref (a1)), (13, .ref (a2)), (14, .ref (a3)), (15, .ref (a4)), (7, .int (enc (N 17 0))), (6, .int (enc (N 16 0))), (3, .int (enc (ti))), (2, .ref (qs 0)), (1, .ref (q 0)), (0, .ref (bs))] [] := by
    intro fu
    induction fu with
    | zero =>
      intro i  hi0 hi1
      exact absurd hi1 (by omega)
    | succ fu ih953 =>
      intro i  hi0_953 hi1_953 
      have hnw := nwc_rng N (hourM N) i
      refine tw_iload X dL_law_953 0 rfl ?_
      refine tw_iload X dL_law_955 12 rfl ?_
      refine tw_icmp_ge (tgt := 1101) X (In_of (by omega) (by omega)) (In_of (by omega) (by omega)) dL_law_957 (by decide) (fun c957 => ?_) (fun c957 => ?_)
      · skip
        have ei : (N 17 0).toNat = i := by omega
        have hcm := came_ok hF
        rw [ei] at hcm
        refine tw_iload X dL_law_1101 1 rfl ?_
        refine tw_iload X dL_law_1103 2 rfl ?_
        refine tw_icmp_ne (tgt := 1119) X (In_of (by omega) (by omega)) (In_of (by omega) (by omega)) dL_law_1105 (by decide) (fun c1105 => ?_) (fun c1105 => ?_)
        · skip
          exact (show False by omega).elim
        · skip
          refine tw_aload_n X dL_law_1108 16 rfl rfl ?_
          refine tw_callV X (As := []) (st := []) vw_L_137 (m_X4_hour (q := q) (hourM N) s2 o2 U2 sU2 oU2 A2) ([(a1, arI cy ((N 16 0).toNat) fw)] ++ [(a2, arI cy ((N 16 0).toNat) fk)] ++ [(a3, arI cy ((N 16 0).toNat) fs)] ++ [(a4, arI cy ((N 16 0).toNat) fo)] ++ [(a5, arI cy ((N 17 0).toNat) fr)] ++ [(a6, arI cy ((N 17 0).toNat) ff)] ++ [(a7, arI cy ((N 17 0).toNat) fd)] ++ [(a8, arZ G ((N 17 0).toNat) fb)]) (wS G cy qs rr tt (hourM N) g2) (List.append_assoc _ _ _) rfl (q0 := 0) rfl rfl rfl ⟨rfl, rfl, Nat.le_of_ble_eq_true rfl, Nat.le_of_ble_eq_true rfl⟩ ⟨(show k + 24 + 0 ≤ 600104 by omega), (show n + 240 + 0 ≤ 7301314 by omega)⟩ (Nat.le_of_ble_eq_true rfl) dL_law_1109 (fun v w1 hp => ?_)
          obtain ⟨rfl, rfl⟩ := hp
          refine Teq (ws' := [(a1, arI cy ((N 16 0).toNat) fw)] ++ [(a2, arI cy ((N 16 0).toNat) fk)] ++ [(a3, arI cy ((N 16 0).toNat) fs)] ++ [(a4, arI cy ((N 16 0).toNat) fo)] ++ [(a5, arI cy ((N 17 0).toNat) fr)] ++ [(a6, arI cy ((N 17 0).toNat) ff)] ++ [(a7, arI cy ((N 17 0).toNat) fd)] ++ [(a8, arZ G ((N 17 0).toNat) fb)] ++ wD cy q (hourM N) s2 o2 U2 sU2 oU2 A2 ++ wS G cy qs rr tt (hourM N) g2) (lv' := [(26, .int (enc ((i : Int)))), (25, .int (enc (nwc N (hourM N) i))), (24, .int (enc (hourM N 18 0 - N 18 0))), (23, .int (enc (N 20 0))), (17, .ref (a5)), (18, .ref (a6)), (19, .ref (a7)), (20, .ref (a8)), (12, .ref (a1)), (13, .ref (a2)), (14, .ref (a3)), (15, .ref (a4)), (7, .int (enc (N 17 0))), (6, .int (enc (N 16 0))), (3, .int (enc (ti))), (2, .ref (qs 0)), (1, .ref (q 0)), (0, .ref (bs))]) (st' := [.int (enc ((hourM N) 20 0))]) (List.append_assoc _ _ _).symm rfl rfl ?_
          have b3 := hBh 20 0
          refine tw_iload X dL_law_1112 3 rfl ?_
          refine tw_iconst X dL_law_1114 ?_
          refine tw_iadd (z := (N 20 0) + 1) X dL_law_1115 rfl ?_
          refine tw_icmp_eq (tgt := 1121) X (In_of (by omega) (by omega)) (In_of (by omega) (by omega)) dL_law_1116 (by decide) (fun c1116 => ?_) (fun c1116 => ?_)
          · skip
            refine Tsub (lv' := [(12, .ref (a1)), (13, .ref (a2)), (14, .ref (a3)), (7, .int (enc (N 17 0))), (6, .int (enc (N 16 0))), (3, .int (enc (ti))), (2, .ref (qs 0)), (1, .ref (q 0)), (0, .ref (bs))]) [8, 9, 10, 12, 13, 14, 15, 16, 17] rfl ?_
            exact kk s2 o2 U2 sU2 oU2 A2 g2 hV2 hGg2
          · skip
            exact (show False by omega).elim
      · skip
        have hb8 : fb (i : Int) = if 0 ≤ N 15 (i : Int) then 1 else 0 := hfb (i : Int) (by omega) c957
        have hbt := bit01 (0 ≤ N 15 (i : Int))
        rw [← hb8] at hbt
        have hf8 : ff (i : Int) = frayAt N (i : Int) (N 20 0) := hff (i : Int) (by omega) c957
        have hd8 := hfd (i : Int) (by omega) c957
        have hr8 := hfr (i : Int) (by omega) c957
        have fh := fray_hour hF (t := (i : Int)) ⟨by omega, c957⟩
        rw [← h20h] at fh
        have hr1 := frayAt_rng (M := N) (t := (i : Int)) (h := N 20 0) hB (by omega)
        have hr2 := frayAt_rng (M := hourM N) (t := (i : Int)) (h := hourM N 20 0) hBh (by omega)
        have bd12 := hB 12 (i : Int)
        have bd8 := hB 8 (i : Int)
        refine tw_aload X dL_law_960 7 rfl ?_
        refine tw_iload X dL_law_962 0 rfl ?_
        refine tw_zald X (N := (N 17 0).toNat) (f := fb) 7 rfl (by omega) (by omega) dL_law_964 ?_
        refine tw_if_eq (tgt := 1005) X (In_of (by omega) (by omega)) dL_law_965 (by decide) (fun c965 => ?_) (fun c965 => ?_)
        · skip
          have h15 : ¬ 0 ≤ N 15 (i : Int) := b01.mp (hb8.symm.trans c965)
          refine tw_aload_n X dL_law_1005 16 rfl rfl ?_
          refine tw_iload X dL_law_1006 0 rfl ?_
          refine tw_callV X (As := [.int (enc ((i : Int)))]) (st := []) vw_L_112 (m_X4_frayOf (q := q) (hourM N) s2 o2 U2 sU2 oU2 A2 ((i : Int)) (by omega) (B + 26) hH (by omega)) ([(a1, arI cy ((N 16 0).toNat) fw)] ++ [(a2, arI cy ((N 16 0).toNat) fk)] ++ [(a3, arI cy ((N 16 0).toNat) fs)] ++ [(a4, arI cy ((N 16 0).toNat) fo)] ++ [(a5, arI cy ((N 17 0).toNat) fr)] ++ [(a6, arI cy ((N 17 0).toNat) ff)] ++ [(a7, arI cy ((N 17 0).toNat) fd)] ++ [(a8, arZ G ((N 17 0).toNat) fb)]) (wS G cy qs rr tt (hourM N) g2) (List.append_assoc _ _ _) rfl (q0 := 0) rfl rfl rfl ⟨rfl, rfl, Nat.le_of_ble_eq_true rfl, Nat.le_of_ble_eq_true rfl⟩ ⟨(show k + 24 + 0 ≤ 600104 by omega), (show n + 240 + 0 ≤ 7301314 by omega)⟩ (Nat.le_of_ble_eq_true rfl) dL_law_1008 (fun v w1 hp => ?_)
          obtain ⟨rfl, rfl⟩ := hp
          refine Teq (ws' := [(a1, arI cy ((N 16 0).toNat) fw)] ++ [(a2, arI cy ((N 16 0).toNat) fk)] ++ [(a3, arI cy ((N 16 0).toNat) fs)] ++ [(a4, arI cy ((N 16 0).toNat) fo)] ++ [(a5, arI cy ((N 17 0).toNat) fr)] ++ [(a6, arI cy ((N 17 0).toNat) ff)] ++ [(a7, arI cy ((N 17 0).toNat) fd)] ++ [(a8, arZ G ((N 17 0).toNat) fb)] ++ wD cy q (hourM N) s2 o2 U2 sU2 oU2 A2 ++ wS G cy qs rr tt (hourM N) g2) (lv' := [(26, .int (enc ((i : Int)))), (25, .int (enc (nwc N (hourM N) i))), (24, .int (enc (hourM N 18 0 - N 18 0))), (23, .int (enc (N 20 0))), (17, .ref (a5)), (18, .ref (a6)), (19, .ref (a7)), (20, .ref (a8)), (12, .ref (a1)), (13, .ref (a2)), (14, .ref (a3)), (15, .ref (a4)), (7, .int (enc (N 17 0))), (6, .int (enc (N 16 0))), (3, .int (enc (ti))), (2, .ref (qs 0)), (1, .ref (q 0)), (0, .ref (bs))]) (st' := [.int (enc (frayAt (hourM N) (i : Int) ((hourM N) 20 0)))]) (List.append_assoc _ _ _).symm rfl rfl ?_
          refine tw_aload X dL_law_1011 5 rfl ?_
          refine tw_iload X dL_law_1013 0 rfl ?_
          refine tw_iald X (N := (N 17 0).toNat) (f := ff) 5 rfl (by omega) (by omega) dL_law_1015 ?_
          refine tw_icmp_lt (tgt := 1066) X (In_of (by omega) (by omega)) (In_of (by omega) (by omega)) dL_law_1016 (by decide) (fun c1016 => ?_) (fun c1016 => ?_)
          · skip
            exact (show False by omega).elim
          · skip
            refine tw_aload_n X dL_law_1019 16 rfl rfl ?_
            refine tw_iload X dL_law_1020 0 rfl ?_
            refine tw_callV X (As := [.int (enc ((i : Int)))]) (st := []) vw_L_112 (m_X4_frayOf (q := q) (hourM N) s2 o2 U2 sU2 oU2 A2 ((i : Int)) (by omega) (B + 26) hH (by omega)) ([(a1, arI cy ((N 16 0).toNat) fw)] ++ [(a2, arI cy ((N 16 0).toNat) fk)] ++ [(a3, arI cy ((N 16 0).toNat) fs)] ++ [(a4, arI cy ((N 16 0).toNat) fo)] ++ [(a5, arI cy ((N 17 0).toNat) fr)] ++ [(a6, arI cy ((N 17 0).toNat) ff)] ++ [(a7, arI cy ((N 17 0).toNat) fd)] ++ [(a8, arZ G ((N 17 0).toNat) fb)]) (wS G cy qs rr tt (hourM N) g2) (List.append_assoc _ _ _) rfl (q0 := 0) rfl rfl rfl ⟨rfl, rfl, Nat.le_of_ble_eq_true rfl, Nat.le_of_ble_eq_true rfl⟩ ⟨(show k + 24 + 0 ≤ 600104 by omega), (show n + 240 + 0 ≤ 7301314 by omega)⟩ (Nat.le_of_ble_eq_true rfl) dL_law_1022 (fun v w1 hp => ?_)
            obtain ⟨rfl, rfl⟩ := hp
            refine Teq (ws' := [(a1, arI cy ((N 16 0).toNat) fw)] ++ [(a2, arI cy ((N 16 0).toNat) fk)] ++ [(a3, arI cy ((N 16 0).toNat) fs)] ++ [(a4, arI cy ((N 16 0).toNat) fo)] ++ [(a5, arI cy ((N 17 0).toNat) fr)] ++ [(a6, arI cy ((N 17 0).toNat) ff)] ++ [(a7, arI cy ((N 17 0).toNat) fd)] ++ [(a8, arZ G ((N 17 0).toNat) fb)] ++ wD cy q (hourM N) s2 o2 U2 sU2 oU2 A2 ++ wS G cy qs rr tt (hourM N) g2) (lv' := [(26, .int (enc ((i : Int)))), (25, .int (enc (nwc N (hourM N) i))), (24, .int (enc (hourM N 18 0 - N 18 0))), (23, .int (enc (N 20 0))), (17, .ref (a5)), (18, .ref (a6)), (19, .ref (a7)), (20, .ref (a8)), (12, .ref (a1)), (13, .ref (a2)), (14, .ref (a3)), (15, .ref (a4)), (7, .int (enc (N 17 0))), (6, .int (enc (N 16 0))), (3, .int (enc (ti))), (2, .ref (qs 0)), (1, .ref (q 0)), (0, .ref (bs))]) (st' := [.int (enc (frayAt (hourM N) (i : Int) ((hourM N) 20 0)))]) (List.append_assoc _ _ _).symm rfl rfl ?_
            refine tw_aload X dL_law_1025 5 rfl ?_
            refine tw_iload X dL_law_1027 0 rfl ?_
            refine tw_iald X (N := (N 17 0).toNat) (f := ff) 5 rfl (by omega) (by omega) dL_law_1029 ?_
            refine tw_iconst X dL_law_1030 ?_
            refine tw_iadd (z := (ff (i : Int)) + 1) X dL_law_1031 rfl ?_
            refine tw_icmp_gt (tgt := 1066) X (In_of (by omega) (by omega)) (In_of (by omega) (by omega)) dL_law_1032 (by decide) (fun c1032 => ?_) (fun c1032 => ?_)
            · skip
              exact (show False by omega).elim
            · skip
              refine tw_aload X dL_law_1035 4 rfl ?_
              refine tw_iload X dL_law_1037 0 rfl ?_
              refine tw_iald X (N := (N 17 0).toNat) (f := fr) 4 rfl (by omega) (by omega) dL_law_1039 ?_
              refine tw_if_lt (tgt := 1068) X (In_of (by omega) (by omega)) dL_law_1040 (by decide) (fun c1040 => ?_) (fun c1040 => ?_)
              · skip
                refine tw_iload X dL_law_1068 1 rfl ?_
                refine tw_aload X dL_law_1070 7 rfl ?_
                refine tw_iload X dL_law_1072 0 rfl ?_
                refine tw_zald X (N := (N 17 0).toNat) (f := fb) 7 rfl (by omega) (by omega) dL_law_1074 ?_
                refine tw_if_ne (tgt := 1091) X (In_of (by omega) (by omega)) dL_law_1075 (by decide) (fun c1075 => ?_) (fun c1075 => ?_)
                · exact (show False by omega).elim
                · skip
                  refine tw_aload_n X dL_law_1078 16 rfl rfl ?_
                  refine tw_iload X dL_law_1079 0 rfl ?_
                  refine tw_callV X (As := [.int (enc ((i : Int)))]) (st := [.int (enc (nwc N (hourM N) i))]) vw_L_118 (m_X4_hasArrived (q := q) (hourM N) s2 o2 U2 sU2 oU2 A2 ((i : Int)) (by omega) (B + 26) hH (by omega)) ([(a1, arI cy ((N 16 0).toNat) fw)] ++ [(a2, arI cy ((N 16 0).toNat) fk)] ++ [(a3, arI cy ((N 16 0).toNat) fs)] ++ [(a4, arI cy ((N 16 0).toNat) fo)] ++ [(a5, arI cy ((N 17 0).toNat) fr)] ++ [(a6, arI cy ((N 17 0).toNat) ff)] ++ [(a7, arI cy ((N 17 0).toNat) fd)] ++ [(a8, arZ G ((N 17 0).toNat) fb)]) (wS G cy qs rr tt (hourM N) g2) (List.append_assoc _ _ _) rfl (q0 := 0) rfl rfl rfl ⟨rfl, rfl, Nat.le_of_ble_eq_true rfl, Nat.le_of_ble_eq_true rfl⟩ ⟨(show k + 24 + 0 ≤ 600104 by omega), (show n + 240 + 0 ≤ 7301314 by omega)⟩ (Nat.le_of_ble_eq_true rfl) dL_law_1081 (fun v w1 hp => ?_)
                  obtain ⟨rfl, rfl⟩ := hp
                  refine Teq (ws' := [(a1, arI cy ((N 16 0).toNat) fw)] ++ [(a2, arI cy ((N 16 0).toNat) fk)] ++ [(a3, arI cy ((N 16 0).toNat) fs)] ++ [(a4, arI cy ((N 16 0).toNat) fo)] ++ [(a5, arI cy ((N 17 0).toNat) fr)] ++ [(a6, arI cy ((N 17 0).toNat) ff)] ++ [(a7, arI cy ((N 17 0).toNat) fd)] ++ [(a8, arZ G ((N 17 0).toNat) fb)] ++ wD cy q (hourM N) s2 o2 U2 sU2 oU2 A2 ++ wS G cy qs rr tt (hourM N) g2) (lv' := [(26, .int (enc ((i : Int)))), (25, .int (enc (nwc N (hourM N) i))), (24, .int (enc (hourM N 18 0 - N 18 0))), (23, .int (enc (N 20 0))), (17, .ref (a5)), (18, .ref (a6)), (19, .ref (a7)), (20, .ref (a8)), (12, .ref (a1)), (13, .ref (a2)), (14, .ref (a3)), (15, .ref (a4)), (7, .int (enc (N 17 0))), (6, .int (enc (N 16 0))), (3, .int (enc (ti))), (2, .ref (qs 0)), (1, .ref (q 0)), (0, .ref (bs))]) (st' := [.int (enc (if 0 ≤ (hourM N) 15 (i : Int) then 1 else 0)), .int (enc (nwc N (hourM N) i))]) (List.append_assoc _ _ _).symm rfl rfl ?_
                  refine tw_if_eq (tgt := 1091) X In_b dL_law_1084 (by decide) (fun c1084 => ?_) (fun c1084 => ?_)
                  · skip
                    have c1084 := b01.mp c1084
                    refine tw_iconst X dL_law_1091 ?_
                    refine tw_iadd (z := (nwc N (hourM N) i) + 0) X dL_law_1092 rfl ?_
                    refine tw_istore (lv' := [(25, .int (enc ((nwc N (hourM N) i) + 0))), (26, .int (enc ((i : Int)))), (24, .int (enc (hourM N 18 0 - N 18 0))), (23, .int (enc (N 20 0))), (17, .ref (a5)), (18, .ref (a6)), (19, .ref (a7)), (20, .ref (a8)), (12, .ref (a1)), (13, .ref (a2)), (14, .ref (a3)), (15, .ref (a4)), (7, .int (enc (N 17 0))), (6, .int (enc (N 16 0))), (3, .int (enc (ti))), (2, .ref (qs 0)), (1, .ref (q 0)), (0, .ref (bs))]) X dL_law_1093 (by decide) rfl ?_
                    refine tw_iinc (q := 1) (x := (i : Int)) (y := (i : Int) + 1) (lv' := [(26, .int (enc ((i : Int) + 1))), (25, .int (enc ((nwc N (hourM N) i) + 0))), (24, .int (enc (hourM N 18 0 - N 18 0))), (23, .int (enc (N 20 0))), (17, .ref (a5)), (18, .ref (a6)), (19, .ref (a7)), (20, .ref (a8)), (12, .ref (a1)), (13, .ref (a2)), (14, .ref (a3)), (15, .ref (a4)), (7, .int (enc (N 17 0))), (6, .int (enc (N 16 0))), (3, .int (enc (ti))), (2, .ref (qs 0)), (1, .ref (q 0)), (0, .ref (bs))]) X dL_law_1095 rfl rfl (by decide) rfl ?_
                    refine tw_goto (tgt := 953) X dL_law_1098 (by decide) ?_
                    refine Tsub (lv' := [(26, .int (enc ((i : Int) + 1))), (25, .int (enc ((nwc N (hourM N) i) + 0))), (24, .int (enc (hourM N 18 0 - N 18 0))), (23, .int (enc (N 20 0))), (17, .ref (a5)), (18, .ref (a6)), (19, .ref (a7)), (20, .ref (a8)), (12, .ref (a1)), (13, .ref (a2)), (14, .ref (a3)), (15, .ref (a4)), (7, .int (enc (N 17 0))), (6, .int (enc (N 16 0))), (3, .int (enc (ti))), (2, .ref (qs 0)), (1, .ref (q 0)), (0, .ref (bs))]) [0, 1, 2, 3, 4, 5, 6, 7, 8, 9, 10, 11, 12, 13, 14, 15, 16, 17] rfl ?_
                    refine Teq (ws' := [(a1, arI cy ((N 16 0).toNat) fw)] ++ [(a2, arI cy ((N 16 0).toNat) fk)] ++ [(a3, arI cy ((N 16 0).toNat) fs)] ++ [(a4, arI cy ((N 16 0).toNat) fo)] ++ [(a5, arI cy ((N 17 0).toNat) fr)] ++ [(a6, arI cy ((N 17 0).toNat) ff)] ++ [(a7, arI cy ((N 17 0).toNat) fd)] ++ [(a8, arZ G ((N 17 0).toNat) fb)] ++ wD cy q (hourM N) s2 o2 U2 sU2 oU2 A2 ++ wS G cy qs rr tt (hourM N) g2) (lv' := [(26, .int (enc (((i + 1 : Nat) : Int)))), (25, .int (enc (nwc N (hourM N) (i + 1)))), (24, .int (enc (hourM N 18 0 - N 18 0))), (23, .int (enc (N 20 0))), (17, .ref (a5)), (18, .ref (a6)), (19, .ref (a7)), (20, .ref (a8)), (12, .ref (a1)), (13, .ref (a2)), (14, .ref (a3)), (15, .ref (a4)), (7, .int (enc (N 17 0))), (6, .int (enc (N 16 0))), (3, .int (enc (ti))), (2, .ref (qs 0)), (1, .ref (q 0)), (0, .ref (bs))]) (st' := []) (rfl) (lvc (i_succ i) (lvc (by rw [nwc_s]; split <;> omega) rfl)) rfl (ih953 (i + 1) (by omega) (by omega))
                  · skip
                    have c1084 := b01n.mp c1084
                    refine tw_iconst X dL_law_1087 ?_
                    refine tw_goto (tgt := 1092) X dL_law_1088 (by decide) ?_
                    refine tw_iadd (z := (nwc N (hourM N) i) + 1) X dL_law_1092 rfl ?_
                    refine tw_istore (lv' := [(25, .int (enc ((nwc N (hourM N) i) + 1))), (26, .int (enc ((i : Int)))), (24, .int (enc (hourM N 18 0 - N 18 0))), (23, .int (enc (N 20 0))), (17, .ref (a5)), (18, .ref (a6)), (19, .ref (a7)), (20, .ref (a8)), (12, .ref (a1)), (13, .ref (a2)), (14, .ref (a3)), (15, .ref (a4)), (7, .int (enc (N 17 0))), (6, .int (enc (N 16 0))), (3, .int (enc (ti))), (2, .ref (qs 0)), (1, .ref (q 0)), (0, .ref (bs))]) X dL_law_1093 (by decide) rfl ?_
                    refine tw_iinc (q := 1) (x := (i : Int)) (y := (i : Int) + 1) (lv' := [(26, .int (enc ((i : Int) + 1))), (25, .int (enc ((nwc N (hourM N) i) + 1))), (24, .int (enc (hourM N 18 0 - N 18 0))), (23, .int (enc (N 20 0))), (17, .ref (a5)), (18, .ref (a6)), (19, .ref (a7)), (20, .ref (a8)), (12, .ref (a1)), (13, .ref (a2)), (14, .ref (a3)), (15, .ref (a4)), (7, .int (enc (N 17 0))), (6, .int (enc (N 16 0))), (3, .int (enc (ti))), (2, .ref (qs 0)), (1, .ref (q 0)), (0, .ref (bs))]) X dL_law_1095 rfl rfl (by decide) rfl ?_
                    refine tw_goto (tgt := 953) X dL_law_1098 (by decide) ?_
                    refine Tsub (lv' := [(26, .int (enc ((i : Int) + 1))), (25, .int (enc ((nwc N (hourM N) i) + 1))), (24, .int (enc (hourM N 18 0 - N 18 0))), (23, .int (enc (N 20 0))), (17, .ref (a5)), (18, .ref (a6)), (19, .ref (a7)), (20, .ref (a8)), (12, .ref (a1)), (13, .ref (a2)), (14, .ref (a3)), (15, .ref (a4)), (7, .int (enc (N 17 0))), (6, .int (enc (N 16 0))), (3, .int (enc (ti))), (2, .ref (qs 0)), (1, .ref (q 0)), (0, .ref (bs))]) [0, 1, 2, 3, 4, 5, 6, 7, 8, 9, 10, 11, 12, 13, 14, 15, 16, 17] rfl ?_
                    refine Teq (ws' := [(a1, arI cy ((N 16 0).toNat) fw)] ++ [(a2, arI cy ((N 16 0).toNat) fk)] ++ [(a3, arI cy ((N 16 0).toNat) fs)] ++ [(a4, arI cy ((N 16 0).toNat) fo)] ++ [(a5, arI cy ((N 17 0).toNat) fr)] ++ [(a6, arI cy ((N 17 0).toNat) ff)] ++ [(a7, arI cy ((N 17 0).toNat) fd)] ++ [(a8, arZ G ((N 17 0).toNat) fb)] ++ wD cy q (hourM N) s2 o2 U2 sU2 oU2 A2 ++ wS G cy qs rr tt (hourM N) g2) (lv' := [(26, .int (enc (((i + 1 : Nat) : Int)))), (25, .int (enc (nwc N (hourM N) (i + 1)))), (24, .int (enc (hourM N 18 0 - N 18 0))), (23, .int (enc (N 20 0))), (17, .ref (a5)), (18, .ref (a6)), (19, .ref (a7)), (20, .ref (a8)), (12, .ref (a1)), (13, .ref (a2)), (14, .ref (a3)), (15, .ref (a4)), (7, .int (enc (N 17 0))), (6, .int (enc (N 16 0))), (3, .int (enc (ti))), (2, .ref (qs 0)), (1, .ref (q 0)), (0, .ref (bs))]) (st' := []) (rfl) (lvc (i_succ i) (lvc (by rw [nwc_s]; split <;> omega) rfl)) rfl (ih953 (i + 1) (by omega) (by omega))
              · skip
                have e8 := hour_8 hF (t := (i : Int)) ⟨by omega, c957⟩ (by omega)
                refine tw_aload_n X dL_law_1043 16 rfl rfl ?_
                refine tw_iload X dL_law_1044 0 rfl ?_
                refine tw_callV X (As := [.int (enc ((i : Int)))]) (st := []) vw_L_109 (m_X4_roadOf (q := q) (hourM N) s2 o2 U2 sU2 oU2 A2 ((i : Int)) (by omega) (B + 26) hH (by omega)) ([(a1, arI cy ((N 16 0).toNat) fw)] ++ [(a2, arI cy ((N 16 0).toNat) fk)] ++ [(a3, arI cy ((N 16 0).toNat) fs)] ++ [(a4, arI cy ((N 16 0).toNat) fo)] ++ [(a5, arI cy ((N 17 0).toNat) fr)] ++ [(a6, arI cy ((N 17 0).toNat) ff)] ++ [(a7, arI cy ((N 17 0).toNat) fd)] ++ [(a8, arZ G ((N 17 0).toNat) fb)]) (wS G cy qs rr tt (hourM N) g2) (List.append_assoc _ _ _) rfl (q0 := 0) rfl rfl rfl ⟨rfl, rfl, Nat.le_of_ble_eq_true rfl, Nat.le_of_ble_eq_true rfl⟩ ⟨(show k + 24 + 0 ≤ 600104 by omega), (show n + 240 + 0 ≤ 7301314 by omega)⟩ (Nat.le_of_ble_eq_true rfl) dL_law_1046 (fun v w1 hp => ?_)
                obtain ⟨rfl, rfl⟩ := hp
                refine Teq (ws' := [(a1, arI cy ((N 16 0).toNat) fw)] ++ [(a2, arI cy ((N 16 0).toNat) fk)] ++ [(a3, arI cy ((N 16 0).toNat) fs)] ++ [(a4, arI cy ((N 16 0).toNat) fo)] ++ [(a5, arI cy ((N 17 0).toNat) fr)] ++ [(a6, arI cy ((N 17 0).toNat) ff)] ++ [(a7, arI cy ((N 17 0).toNat) fd)] ++ [(a8, arZ G ((N 17 0).toNat) fb)] ++ wD cy q (hourM N) s2 o2 U2 sU2 oU2 A2 ++ wS G cy qs rr tt (hourM N) g2) (lv' := [(26, .int (enc ((i : Int)))), (25, .int (enc (nwc N (hourM N) i))), (24, .int (enc (hourM N 18 0 - N 18 0))), (23, .int (enc (N 20 0))), (17, .ref (a5)), (18, .ref (a6)), (19, .ref (a7)), (20, .ref (a8)), (12, .ref (a1)), (13, .ref (a2)), (14, .ref (a3)), (15, .ref (a4)), (7, .int (enc (N 17 0))), (6, .int (enc (N 16 0))), (3, .int (enc (ti))), (2, .ref (qs 0)), (1, .ref (q 0)), (0, .ref (bs))]) (st' := [.int (enc ((hourM N) 8 (i : Int)))]) (List.append_assoc _ _ _).symm rfl rfl ?_
                have b4 := hBh 8 (i : Int)
                refine tw_aload X dL_law_1049 4 rfl ?_
                refine tw_iload X dL_law_1051 0 rfl ?_
                refine tw_iald X (N := (N 17 0).toNat) (f := fr) 4 rfl (by omega) (by omega) dL_law_1053 ?_
                refine tw_icmp_eq (tgt := 1068) X (In_of (by omega) (by omega)) (In_of (by omega) (by omega)) dL_law_1054 (by decide) (fun c1054 => ?_) (fun c1054 => ?_)
                · skip
                  refine tw_iload X dL_law_1068 1 rfl ?_
                  refine tw_aload X dL_law_1070 7 rfl ?_
                  refine tw_iload X dL_law_1072 0 rfl ?_
                  refine tw_zald X (N := (N 17 0).toNat) (f := fb) 7 rfl (by omega) (by omega) dL_law_1074 ?_
                  refine tw_if_ne (tgt := 1091) X (In_of (by omega) (by omega)) dL_law_1075 (by decide) (fun c1075 => ?_) (fun c1075 => ?_)
                  · exact (show False by omega).elim
                  · skip
                    refine tw_aload_n X dL_law_1078 16 rfl rfl ?_
                    refine tw_iload X dL_law_1079 0 rfl ?_
                    refine tw_callV X (As := [.int (enc ((i : Int)))]) (st := [.int (enc (nwc N (hourM N) i))]) vw_L_118 (m_X4_hasArrived (q := q) (hourM N) s2 o2 U2 sU2 oU2 A2 ((i : Int)) (by omega) (B + 26) hH (by omega)) ([(a1, arI cy ((N 16 0).toNat) fw)] ++ [(a2, arI cy ((N 16 0).toNat) fk)] ++ [(a3, arI cy ((N 16 0).toNat) fs)] ++ [(a4, arI cy ((N 16 0).toNat) fo)] ++ [(a5, arI cy ((N 17 0).toNat) fr)] ++ [(a6, arI cy ((N 17 0).toNat) ff)] ++ [(a7, arI cy ((N 17 0).toNat) fd)] ++ [(a8, arZ G ((N 17 0).toNat) fb)]) (wS G cy qs rr tt (hourM N) g2) (List.append_assoc _ _ _) rfl (q0 := 0) rfl rfl rfl ⟨rfl, rfl, Nat.le_of_ble_eq_true rfl, Nat.le_of_ble_eq_true rfl⟩ ⟨(show k + 24 + 0 ≤ 600104 by omega), (show n + 240 + 0 ≤ 7301314 by omega)⟩ (Nat.le_of_ble_eq_true rfl) dL_law_1081 (fun v w1 hp => ?_)
                    obtain ⟨rfl, rfl⟩ := hp
                    refine Teq (ws' := [(a1, arI cy ((N 16 0).toNat) fw)] ++ [(a2, arI cy ((N 16 0).toNat) fk)] ++ [(a3, arI cy ((N 16 0).toNat) fs)] ++ [(a4, arI cy ((N 16 0).toNat) fo)] ++ [(a5, arI cy ((N 17 0).toNat) fr)] ++ [(a6, arI cy ((N 17 0).toNat) ff)] ++ [(a7, arI cy ((N 17 0).toNat) fd)] ++ [(a8, arZ G ((N 17 0).toNat) fb)] ++ wD cy q (hourM N) s2 o2 U2 sU2 oU2 A2 ++ wS G cy qs rr tt (hourM N) g2) (lv' := [(26, .int (enc ((i : Int)))), (25, .int (enc (nwc N (hourM N) i))), (24, .int (enc (hourM N 18 0 - N 18 0))), (23, .int (enc (N 20 0))), (17, .ref (a5)), (18, .ref (a6)), (19, .ref (a7)), (20, .ref (a8)), (12, .ref (a1)), (13, .ref (a2)), (14, .ref (a3)), (15, .ref (a4)), (7, .int (enc (N 17 0))), (6, .int (enc (N 16 0))), (3, .int (enc (ti))), (2, .ref (qs 0)), (1, .ref (q 0)), (0, .ref (bs))]) (st' := [.int (enc (if 0 ≤ (hourM N) 15 (i : Int) then 1 else 0)), .int (enc (nwc N (hourM N) i))]) (List.append_assoc _ _ _).symm rfl rfl ?_
                    refine tw_if_eq (tgt := 1091) X In_b dL_law_1084 (by decide) (fun c1084 => ?_) (fun c1084 => ?_)
                    · skip
                      have c1084 := b01.mp c1084
                      refine tw_iconst X dL_law_1091 ?_
                      refine tw_iadd (z := (nwc N (hourM N) i) + 0) X dL_law_1092 rfl ?_
                      refine tw_istore (lv' := [(25, .int (enc ((nwc N (hourM N) i) + 0))), (26, .int (enc ((i : Int)))), (24, .int (enc (hourM N 18 0 - N 18 0))), (23, .int (enc (N 20 0))), (17, .ref (a5)), (18, .ref (a6)), (19, .ref (a7)), (20, .ref (a8)), (12, .ref (a1)), (13, .ref (a2)), (14, .ref (a3)), (15, .ref (a4)), (7, .int (enc (N 17 0))), (6, .int (enc (N 16 0))), (3, .int (enc (ti))), (2, .ref (qs 0)), (1, .ref (q 0)), (0, .ref (bs))]) X dL_law_1093 (by decide) rfl ?_
                      refine tw_iinc (q := 1) (x := (i : Int)) (y := (i : Int) + 1) (lv' := [(26, .int (enc ((i : Int) + 1))), (25, .int (enc ((nwc N (hourM N) i) + 0))), (24, .int (enc (hourM N 18 0 - N 18 0))), (23, .int (enc (N 20 0))), (17, .ref (a5)), (18, .ref (a6)), (19, .ref (a7)), (20, .ref (a8)), (12, .ref (a1)), (13, .ref (a2)), (14, .ref (a3)), (15, .ref (a4)), (7, .int (enc (N 17 0))), (6, .int (enc (N 16 0))), (3, .int (enc (ti))), (2, .ref (qs 0)), (1, .ref (q 0)), (0, .ref (bs))]) X dL_law_1095 rfl rfl (by decide) rfl ?_
                      refine tw_goto (tgt := 953) X dL_law_1098 (by decide) ?_
                      refine Tsub (lv' := [(26, .int (enc ((i : Int) + 1))), (25, .int (enc ((nwc N (hourM N) i) + 0))), (24, .int (enc (hourM N 18 0 - N 18 0))), (23, .int (enc (N 20 0))), (17, .ref (a5)), (18, .ref (a6)), (19, .ref (a7)), (20, .ref (a8)), (12, .ref (a1)), (13, .ref (a2)), (14, .ref (a3)), (15, .ref (a4)), (7, .int (enc (N 17 0))), (6, .int (enc (N 16 0))), (3, .int (enc (ti))), (2, .ref (qs 0)), (1, .ref (q 0)), (0, .ref (bs))]) [0, 1, 2, 3, 4, 5, 6, 7, 8, 9, 10, 11, 12, 13, 14, 15, 16, 17] rfl ?_
                      refine Teq (ws' := [(a1, arI cy ((N 16 0).toNat) fw)] ++ [(a2, arI cy ((N 16 0).toNat) fk)] ++ [(a3, arI cy ((N 16 0).toNat) fs)] ++ [(a4, arI cy ((N 16 0).toNat) fo)] ++ [(a5, arI cy ((N 17 0).toNat) fr)] ++ [(a6, arI cy ((N 17 0).toNat) ff)] ++ [(a7, arI cy ((N 17 0).toNat) fd)] ++ [(a8, arZ G ((N 17 0).toNat) fb)] ++ wD cy q (hourM N) s2 o2 U2 sU2 oU2 A2 ++ wS G cy qs rr tt (hourM N) g2) (lv' := [(26, .int (enc (((i + 1 : Nat) : Int)))), (25, .int (enc (nwc N (hourM N) (i + 1)))), (24, .int (enc (hourM N 18 0 - N 18 0))), (23, .int (enc (N 20 0))), (17, .ref (a5)), (18, .ref (a6)), (19, .ref (a7)), (20, .ref (a8)), (12, .ref (a1)), (13, .ref (a2)), (14, .ref (a3)), (15, .ref (a4)), (7, .int (enc (N 17 0))), (6, .int (enc (N 16 0))), (3, .int (enc (ti))), (2, .ref (qs 0)), (1, .ref (q 0)), (0, .ref (bs))]) (st' := []) (rfl) (lvc (i_succ i) (lvc (by rw [nwc_s]; split <;> omega) rfl)) rfl (ih953 (i + 1) (by omega) (by omega))
                    · skip
                      have c1084 := b01n.mp c1084
                      refine tw_iconst X dL_law_1087 ?_
                      refine tw_goto (tgt := 1092) X dL_law_1088 (by decide) ?_
                      refine tw_iadd (z := (nwc N (hourM N) i) + 1) X dL_law_1092 rfl ?_
                      refine tw_istore (lv' := [(25, .int (enc ((nwc N (hourM N) i) + 1))), (26, .int (enc ((i : Int)))), (24, .int (enc (hourM N 18 0 - N 18 0))), (23, .int (enc (N 20 0))), (17, .ref (a5)), (18, .ref (a6)), (19, .ref (a7)), (20, .ref (a8)), (12, .ref (a1)), (13, .ref (a2)), (14, .ref (a3)), (15, .ref (a4)), (7, .int (enc (N 17 0))), (6, .int (enc (N 16 0))), (3, .int (enc (ti))), (2, .ref (qs 0)), (1, .ref (q 0)), (0, .ref (bs))]) X dL_law_1093 (by decide) rfl ?_
                      refine tw_iinc (q := 1) (x := (i : Int)) (y := (i : Int) + 1) (lv' := [(26, .int (enc ((i : Int) + 1))), (25, .int (enc ((nwc N (hourM N) i) + 1))), (24, .int (enc (hourM N 18 0 - N 18 0))), (23, .int (enc (N 20 0))), (17, .ref (a5)), (18, .ref (a6)), (19, .ref (a7)), (20, .ref (a8)), (12, .ref (a1)), (13, .ref (a2)), (14, .ref (a3)), (15, .ref (a4)), (7, .int (enc (N 17 0))), (6, .int (enc (N 16 0))), (3, .int (enc (ti))), (2, .ref (qs 0)), (1, .ref (q 0)), (0, .ref (bs))]) X dL_law_1095 rfl rfl (by decide) rfl ?_
                      refine tw_goto (tgt := 953) X dL_law_1098 (by decide) ?_
                      refine Tsub (lv' := [(26, .int (enc ((i : Int) + 1))), (25, .int (enc ((nwc N (hourM N) i) + 1))), (24, .int (enc (hourM N 18 0 - N 18 0))), (23, .int (enc (N 20 0))), (17, .ref (a5)), (18, .ref (a6)), (19, .ref (a7)), (20, .ref (a8)), (12, .ref (a1)), (13, .ref (a2)), (14, .ref (a3)), (15, .ref (a4)), (7, .int (enc (N 17 0))), (6, .int (enc (N 16 0))), (3, .int (enc (ti))), (2, .ref (qs 0)), (1, .ref (q 0)), (0, .ref (bs))]) [0, 1, 2, 3, 4, 5, 6, 7, 8, 9, 10, 11, 12, 13, 14, 15, 16, 17] rfl ?_
                      refine Teq (ws' := [(a1, arI cy ((N 16 0).toNat) fw)] ++ [(a2, arI cy ((N 16 0).toNat) fk)] ++ [(a3, arI cy ((N 16 0).toNat) fs)] ++ [(a4, arI cy ((N 16 0).toNat) fo)] ++ [(a5, arI cy ((N 17 0).toNat) fr)] ++ [(a6, arI cy ((N 17 0).toNat) ff)] ++ [(a7, arI cy ((N 17 0).toNat) fd)] ++ [(a8, arZ G ((N 17 0).toNat) fb)] ++ wD cy q (hourM N) s2 o2 U2 sU2 oU2 A2 ++ wS G cy qs rr tt (hourM N) g2) (lv' := [(26, .int (enc (((i + 1 : Nat) : Int)))), (25, .int (enc (nwc N (hourM N) (i + 1)))), (24, .int (enc (hourM N 18 0 - N 18 0))), (23, .int (enc (N 20 0))), (17, .ref (a5)), (18, .ref (a6)), (19, .ref (a7)), (20, .ref (a8)), (12, .ref (a1)), (13, .ref (a2)), (14, .ref (a3)), (15, .ref (a4)), (7, .int (enc (N 17 0))), (6, .int (enc (N 16 0))), (3, .int (enc (ti))), (2, .ref (qs 0)), (1, .ref (q 0)), (0, .ref (bs))]) (st' := []) (rfl) (lvc (i_succ i) (lvc (by rw [nwc_s]; split <;> omega) rfl)) rfl (ih953 (i + 1) (by omega) (by omega))
                · skip
                  refine tw_aload_n X dL_law_1057 16 rfl rfl ?_
                  refine tw_iload X dL_law_1058 0 rfl ?_
                  refine tw_callV X (As := [.int (enc ((i : Int)))]) (st := []) vw_L_109 (m_X4_roadOf (q := q) (hourM N) s2 o2 U2 sU2 oU2 A2 ((i : Int)) (by omega) (B + 26) hH (by omega)) ([(a1, arI cy ((N 16 0).toNat) fw)] ++ [(a2, arI cy ((N 16 0).toNat) fk)] ++ [(a3, arI cy ((N 16 0).toNat) fs)] ++ [(a4, arI cy ((N 16 0).toNat) fo)] ++ [(a5, arI cy ((N 17 0).toNat) fr)] ++ [(a6, arI cy ((N 17 0).toNat) ff)] ++ [(a7, arI cy ((N 17 0).toNat) fd)] ++ [(a8, arZ G ((N 17 0).toNat) fb)]) (wS G cy qs rr tt (hourM N) g2) (List.append_assoc _ _ _) rfl (q0 := 0) rfl rfl rfl ⟨rfl, rfl, Nat.le_of_ble_eq_true rfl, Nat.le_of_ble_eq_true rfl⟩ ⟨(show k + 24 + 0 ≤ 600104 by omega), (show n + 240 + 0 ≤ 7301314 by omega)⟩ (Nat.le_of_ble_eq_true rfl) dL_law_1060 (fun v w1 hp => ?_)
                  obtain ⟨rfl, rfl⟩ := hp
                  refine Teq (ws' := [(a1, arI cy ((N 16 0).toNat) fw)] ++ [(a2, arI cy ((N 16 0).toNat) fk)] ++ [(a3, arI cy ((N 16 0).toNat) fs)] ++ [(a4, arI cy ((N 16 0).toNat) fo)] ++ [(a5, arI cy ((N 17 0).toNat) fr)] ++ [(a6, arI cy ((N 17 0).toNat) ff)] ++ [(a7, arI cy ((N 17 0).toNat) fd)] ++ [(a8, arZ G ((N 17 0).toNat) fb)] ++ wD cy q (hourM N) s2 o2 U2 sU2 oU2 A2 ++ wS G cy qs rr tt (hourM N) g2) (lv' := [(26, .int (enc ((i : Int)))), (25, .int (enc (nwc N (hourM N) i))), (24, .int (enc (hourM N 18 0 - N 18 0))), (23, .int (enc (N 20 0))), (17, .ref (a5)), (18, .ref (a6)), (19, .ref (a7)), (20, .ref (a8)), (12, .ref (a1)), (13, .ref (a2)), (14, .ref (a3)), (15, .ref (a4)), (7, .int (enc (N 17 0))), (6, .int (enc (N 16 0))), (3, .int (enc (ti))), (2, .ref (qs 0)), (1, .ref (q 0)), (0, .ref (bs))]) (st' := [.int (enc ((hourM N) 8 (i : Int)))]) (List.append_assoc _ _ _).symm rfl rfl ?_
                  have b5 := hBh 8 (i : Int)
                  refine tw_if_lt (tgt := 1068) X (In_of (by omega) (by omega)) dL_law_1063 (by decide) (fun c1063 => ?_) (fun c1063 => ?_)
                  · skip
                    refine tw_iload X dL_law_1068 1 rfl ?_
                    refine tw_aload X dL_law_1070 7 rfl ?_
                    refine tw_iload X dL_law_1072 0 rfl ?_
                    refine tw_zald X (N := (N 17 0).toNat) (f := fb) 7 rfl (by omega) (by omega) dL_law_1074 ?_
                    refine tw_if_ne (tgt := 1091) X (In_of (by omega) (by omega)) dL_law_1075 (by decide) (fun c1075 => ?_) (fun c1075 => ?_)
                    · exact (show False by omega).elim
                    · skip
                      refine tw_aload_n X dL_law_1078 16 rfl rfl ?_
                      refine tw_iload X dL_law_1079 0 rfl ?_
                      refine tw_callV X (As := [.int (enc ((i : Int)))]) (st := [.int (enc (nwc N (hourM N) i))]) vw_L_118 (m_X4_hasArrived (q := q) (hourM N) s2 o2 U2 sU2 oU2 A2 ((i : Int)) (by omega) (B + 26) hH (by omega)) ([(a1, arI cy ((N 16 0).toNat) fw)] ++ [(a2, arI cy ((N 16 0).toNat) fk)] ++ [(a3, arI cy ((N 16 0).toNat) fs)] ++ [(a4, arI cy ((N 16 0).toNat) fo)] ++ [(a5, arI cy ((N 17 0).toNat) fr)] ++ [(a6, arI cy ((N 17 0).toNat) ff)] ++ [(a7, arI cy ((N 17 0).toNat) fd)] ++ [(a8, arZ G ((N 17 0).toNat) fb)]) (wS G cy qs rr tt (hourM N) g2) (List.append_assoc _ _ _) rfl (q0 := 0) rfl rfl rfl ⟨rfl, rfl, Nat.le_of_ble_eq_true rfl, Nat.le_of_ble_eq_true rfl⟩ ⟨(show k + 24 + 0 ≤ 600104 by omega), (show n + 240 + 0 ≤ 7301314 by omega)⟩ (Nat.le_of_ble_eq_true rfl) dL_law_1081 (fun v w1 hp => ?_)
                      obtain ⟨rfl, rfl⟩ := hp
                      refine Teq (ws' := [(a1, arI cy ((N 16 0).toNat) fw)] ++ [(a2, arI cy ((N 16 0).toNat) fk)] ++ [(a3, arI cy ((N 16 0).toNat) fs)] ++ [(a4, arI cy ((N 16 0).toNat) fo)] ++ [(a5, arI cy ((N 17 0).toNat) fr)] ++ [(a6, arI cy ((N 17 0).toNat) ff)] ++ [(a7, arI cy ((N 17 0).toNat) fd)] ++ [(a8, arZ G ((N 17 0).toNat) fb)] ++ wD cy q (hourM N) s2 o2 U2 sU2 oU2 A2 ++ wS G cy qs rr tt (hourM N) g2) (lv' := [(26, .int (enc ((i : Int)))), (25, .int (enc (nwc N (hourM N) i))), (24, .int (enc (hourM N 18 0 - N 18 0))), (23, .int (enc (N 20 0))), (17, .ref (a5)), (18, .ref (a6)), (19, .ref (a7)), (20, .ref (a8)), (12, .ref (a1)), (13, .ref (a2)), (14, .ref (a3)), (15, .ref (a4)), (7, .int (enc (N 17 0))), (6, .int (enc (N 16 0))), (3, .int (enc (ti))), (2, .ref (qs 0)), (1, .ref (q 0)), (0, .ref (bs))]) (st' := [.int (enc (if 0 ≤ (hourM N) 15 (i : Int) then 1 else 0)), .int (enc (nwc N (hourM N) i))]) (List.append_assoc _ _ _).symm rfl rfl ?_
                      refine tw_if_eq (tgt := 1091) X In_b dL_law_1084 (by decide) (fun c1084 => ?_) (fun c1084 => ?_)
                      · skip
                        have c1084 := b01.mp c1084
                        refine tw_iconst X dL_law_1091 ?_
                        refine tw_iadd (z := (nwc N (hourM N) i) + 0) X dL_law_1092 rfl ?_
                        refine tw_istore (lv' := [(25, .int (enc ((nwc N (hourM N) i) + 0))), (26, .int (enc ((i : Int)))), (24, .int (enc (hourM N 18 0 - N 18 0))), (23, .int (enc (N 20 0))), (17, .ref (a5)), (18, .ref (a6)), (19, .ref (a7)), (20, .ref (a8)), (12, .ref (a1)), (13, .ref (a2)), (14, .ref (a3)), (15, .ref (a4)), (7, .int (enc (N 17 0))), (6, .int (enc (N 16 0))), (3, .int (enc (ti))), (2, .ref (qs 0)), (1, .ref (q 0)), (0, .ref (bs))]) X dL_law_1093 (by decide) rfl ?_
                        refine tw_iinc (q := 1) (x := (i : Int)) (y := (i : Int) + 1) (lv' := [(26, .int (enc ((i : Int) + 1))), (25, .int (enc ((nwc N (hourM N) i) + 0))), (24, .int (enc (hourM N 18 0 - N 18 0))), (23, .int (enc (N 20 0))), (17, .ref (a5)), (18, .ref (a6)), (19, .ref (a7)), (20, .ref (a8)), (12, .ref (a1)), (13, .ref (a2)), (14, .ref (a3)), (15, .ref (a4)), (7, .int (enc (N 17 0))), (6, .int (enc (N 16 0))), (3, .int (enc (ti))), (2, .ref (qs 0)), (1, .ref (q 0)), (0, .ref (bs))]) X dL_law_1095 rfl rfl (by decide) rfl ?_
                        refine tw_goto (tgt := 953) X dL_law_1098 (by decide) ?_
                        refine Tsub (lv' := [(26, .int (enc ((i : Int) + 1))), (25, .int (enc ((nwc N (hourM N) i) + 0))), (24, .int (enc (hourM N 18 0 - N 18 0))), (23, .int (enc (N 20 0))), (17, .ref (a5)), (18, .ref (a6)), (19, .ref (a7)), (20, .ref (a8)), (12, .ref (a1)), (13, .ref (a2)), (14, .ref (a3)), (15, .ref (a4)), (7, .int (enc (N 17 0))), (6, .int (enc (N 16 0))), (3, .int (enc (ti))), (2, .ref (qs 0)), (1, .ref (q 0)), (0, .ref (bs))]) [0, 1, 2, 3, 4, 5, 6, 7, 8, 9, 10, 11, 12, 13, 14, 15, 16, 17] rfl ?_
                        refine Teq (ws' := [(a1, arI cy ((N 16 0).toNat) fw)] ++ [(a2, arI cy ((N 16 0).toNat) fk)] ++ [(a3, arI cy ((N 16 0).toNat) fs)] ++ [(a4, arI cy ((N 16 0).toNat) fo)] ++ [(a5, arI cy ((N 17 0).toNat) fr)] ++ [(a6, arI cy ((N 17 0).toNat) ff)] ++ [(a7, arI cy ((N 17 0).toNat) fd)] ++ [(a8, arZ G ((N 17 0).toNat) fb)] ++ wD cy q (hourM N) s2 o2 U2 sU2 oU2 A2 ++ wS G cy qs rr tt (hourM N) g2) (lv' := [(26, .int (enc (((i + 1 : Nat) : Int)))), (25, .int (enc (nwc N (hourM N) (i + 1)))), (24, .int (enc (hourM N 18 0 - N 18 0))), (23, .int (enc (N 20 0))), (17, .ref (a5)), (18, .ref (a6)), (19, .ref (a7)), (20, .ref (a8)), (12, .ref (a1)), (13, .ref (a2)), (14, .ref (a3)), (15, .ref (a4)), (7, .int (enc (N 17 0))), (6, .int (enc (N 16 0))), (3, .int (enc (ti))), (2, .ref (qs 0)), (1, .ref (q 0)), (0, .ref (bs))]) (st' := []) (rfl) (lvc (i_succ i) (lvc (by rw [nwc_s]; split <;> omega) rfl)) rfl (ih953 (i + 1) (by omega) (by omega))
                      · skip
                        have c1084 := b01n.mp c1084
                        refine tw_iconst X dL_law_1087 ?_
                        refine tw_goto (tgt := 1092) X dL_law_1088 (by decide) ?_
                        refine tw_iadd (z := (nwc N (hourM N) i) + 1) X dL_law_1092 rfl ?_
                        refine tw_istore (lv' := [(25, .int (enc ((nwc N (hourM N) i) + 1))), (26, .int (enc ((i : Int)))), (24, .int (enc (hourM N 18 0 - N 18 0))), (23, .int (enc (N 20 0))), (17, .ref (a5)), (18, .ref (a6)), (19, .ref (a7)), (20, .ref (a8)), (12, .ref (a1)), (13, .ref (a2)), (14, .ref (a3)), (15, .ref (a4)), (7, .int (enc (N 17 0))), (6, .int (enc (N 16 0))), (3, .int (enc (ti))), (2, .ref (qs 0)), (1, .ref (q 0)), (0, .ref (bs))]) X dL_law_1093 (by decide) rfl ?_
                        refine tw_iinc (q := 1) (x := (i : Int)) (y := (i : Int) + 1) (lv' := [(26, .int (enc ((i : Int) + 1))), (25, .int (enc ((nwc N (hourM N) i) + 1))), (24, .int (enc (hourM N 18 0 - N 18 0))), (23, .int (enc (N 20 0))), (17, .ref (a5)), (18, .ref (a6)), (19, .ref (a7)), (20, .ref (a8)), (12, .ref (a1)), (13, .ref (a2)), (14, .ref (a3)), (15, .ref (a4)), (7, .int (enc (N 17 0))), (6, .int (enc (N 16 0))), (3, .int (enc (ti))), (2, .ref (qs 0)), (1, .ref (q 0)), (0, .ref (bs))]) X dL_law_1095 rfl rfl (by decide) rfl ?_
                        refine tw_goto (tgt := 953) X dL_law_1098 (by decide) ?_
                        refine Tsub (lv' := [(26, .int (enc ((i : Int) + 1))), (25, .int (enc ((nwc N (hourM N) i) + 1))), (24, .int (enc (hourM N 18 0 - N 18 0))), (23, .int (enc (N 20 0))), (17, .ref (a5)), (18, .ref (a6)), (19, .ref (a7)), (20, .ref (a8)), (12, .ref (a1)), (13, .ref (a2)), (14, .ref (a3)), (15, .ref (a4)), (7, .int (enc (N 17 0))), (6, .int (enc (N 16 0))), (3, .int (enc (ti))), (2, .ref (qs 0)), (1, .ref (q 0)), (0, .ref (bs))]) [0, 1, 2, 3, 4, 5, 6, 7, 8, 9, 10, 11, 12, 13, 14, 15, 16, 17] rfl ?_
                        refine Teq (ws' := [(a1, arI cy ((N 16 0).toNat) fw)] ++ [(a2, arI cy ((N 16 0).toNat) fk)] ++ [(a3, arI cy ((N 16 0).toNat) fs)] ++ [(a4, arI cy ((N 16 0).toNat) fo)] ++ [(a5, arI cy ((N 17 0).toNat) fr)] ++ [(a6, arI cy ((N 17 0).toNat) ff)] ++ [(a7, arI cy ((N 17 0).toNat) fd)] ++ [(a8, arZ G ((N 17 0).toNat) fb)] ++ wD cy q (hourM N) s2 o2 U2 sU2 oU2 A2 ++ wS G cy qs rr tt (hourM N) g2) (lv' := [(26, .int (enc (((i + 1 : Nat) : Int)))), (25, .int (enc (nwc N (hourM N) (i + 1)))), (24, .int (enc (hourM N 18 0 - N 18 0))), (23, .int (enc (N 20 0))), (17, .ref (a5)), (18, .ref (a6)), (19, .ref (a7)), (20, .ref (a8)), (12, .ref (a1)), (13, .ref (a2)), (14, .ref (a3)), (15, .ref (a4)), (7, .int (enc (N 17 0))), (6, .int (enc (N 16 0))), (3, .int (enc (ti))), (2, .ref (qs 0)), (1, .ref (q 0)), (0, .ref (bs))]) (st' := []) (rfl) (lvc (i_succ i) (lvc (by rw [nwc_s]; split <;> omega) rfl)) rfl (ih953 (i + 1) (by omega) (by omega))
                  · skip
                    exact (show False by omega).elim
        · skip
          have h15 : 0 ≤ N 15 (i : Int) := b01n.mp (fun z => c965 (hb8.trans z))
          have e15 := hour_in hF (t := (i : Int)) ⟨by omega, c957⟩ h15 (k := 15) (by decide) (by decide)
          have e12 := hour_in hF (t := (i : Int)) ⟨by omega, c957⟩ h15 (k := 12) (by decide) (by decide)
          have efr := fray_in hF (t := (i : Int)) (h := N 20 0) (h' := hourM N 20 0) ⟨by omega, c957⟩ h15
          refine tw_aload_n X dL_law_968 16 rfl rfl ?_
          refine tw_iload X dL_law_969 0 rfl ?_
          refine tw_callV X (As := [.int (enc ((i : Int)))]) (st := []) vw_L_118 (m_X4_hasArrived (q := q) (hourM N) s2 o2 U2 sU2 oU2 A2 ((i : Int)) (by omega) (B + 26) hH (by omega)) ([(a1, arI cy ((N 16 0).toNat) fw)] ++ [(a2, arI cy ((N 16 0).toNat) fk)] ++ [(a3, arI cy ((N 16 0).toNat) fs)] ++ [(a4, arI cy ((N 16 0).toNat) fo)] ++ [(a5, arI cy ((N 17 0).toNat) fr)] ++ [(a6, arI cy ((N 17 0).toNat) ff)] ++ [(a7, arI cy ((N 17 0).toNat) fd)] ++ [(a8, arZ G ((N 17 0).toNat) fb)]) (wS G cy qs rr tt (hourM N) g2) (List.append_assoc _ _ _) rfl (q0 := 0) rfl rfl rfl ⟨rfl, rfl, Nat.le_of_ble_eq_true rfl, Nat.le_of_ble_eq_true rfl⟩ ⟨(show k + 24 + 0 ≤ 600104 by omega), (show n + 240 + 0 ≤ 7301314 by omega)⟩ (Nat.le_of_ble_eq_true rfl) dL_law_971 (fun v w1 hp => ?_)
          obtain ⟨rfl, rfl⟩ := hp
          refine Teq (ws' := [(a1, arI cy ((N 16 0).toNat) fw)] ++ [(a2, arI cy ((N 16 0).toNat) fk)] ++ [(a3, arI cy ((N 16 0).toNat) fs)] ++ [(a4, arI cy ((N 16 0).toNat) fo)] ++ [(a5, arI cy ((N 17 0).toNat) fr)] ++ [(a6, arI cy ((N 17 0).toNat) ff)] ++ [(a7, arI cy ((N 17 0).toNat) fd)] ++ [(a8, arZ G ((N 17 0).toNat) fb)] ++ wD cy q (hourM N) s2 o2 U2 sU2 oU2 A2 ++ wS G cy qs rr tt (hourM N) g2) (lv' := [(26, .int (enc ((i : Int)))), (25, .int (enc (nwc N (hourM N) i))), (24, .int (enc (hourM N 18 0 - N 18 0))), (23, .int (enc (N 20 0))), (17, .ref (a5)), (18, .ref (a6)), (19, .ref (a7)), (20, .ref (a8)), (12, .ref (a1)), (13, .ref (a2)), (14, .ref (a3)), (15, .ref (a4)), (7, .int (enc (N 17 0))), (6, .int (enc (N 16 0))), (3, .int (enc (ti))), (2, .ref (qs 0)), (1, .ref (q 0)), (0, .ref (bs))]) (st' := [.int (enc (if 0 ≤ (hourM N) 15 (i : Int) then 1 else 0))]) (List.append_assoc _ _ _).symm rfl rfl ?_
          refine tw_if_eq (tgt := 1066) X In_b dL_law_974 (by decide) (fun c974 => ?_) (fun c974 => ?_)
          · skip
            have c974 := b01.mp c974
            exact (show False by omega).elim
          · skip
            have c974 := b01n.mp c974
            refine tw_aload_n X dL_law_977 16 rfl rfl ?_
            refine tw_iload X dL_law_978 0 rfl ?_
            refine tw_callV X (As := [.int (enc ((i : Int)))]) (st := []) vw_L_112 (m_X4_frayOf (q := q) (hourM N) s2 o2 U2 sU2 oU2 A2 ((i : Int)) (by omega) (B + 26) hH (by omega)) ([(a1, arI cy ((N 16 0).toNat) fw)] ++ [(a2, arI cy ((N 16 0).toNat) fk)] ++ [(a3, arI cy ((N 16 0).toNat) fs)] ++ [(a4, arI cy ((N 16 0).toNat) fo)] ++ [(a5, arI cy ((N 17 0).toNat) fr)] ++ [(a6, arI cy ((N 17 0).toNat) ff)] ++ [(a7, arI cy ((N 17 0).toNat) fd)] ++ [(a8, arZ G ((N 17 0).toNat) fb)]) (wS G cy qs rr tt (hourM N) g2) (List.append_assoc _ _ _) rfl (q0 := 0) rfl rfl rfl ⟨rfl, rfl, Nat.le_of_ble_eq_true rfl, Nat.le_of_ble_eq_true rfl⟩ ⟨(show k + 24 + 0 ≤ 600104 by omega), (show n + 240 + 0 ≤ 7301314 by omega)⟩ (Nat.le_of_ble_eq_true rfl) dL_law_980 (fun v w1 hp => ?_)
            obtain ⟨rfl, rfl⟩ := hp
            refine Teq (ws' := [(a1, arI cy ((N 16 0).toNat) fw)] ++ [(a2, arI cy ((N 16 0).toNat) fk)] ++ [(a3, arI cy ((N 16 0).toNat) fs)] ++ [(a4, arI cy ((N 16 0).toNat) fo)] ++ [(a5, arI cy ((N 17 0).toNat) fr)] ++ [(a6, arI cy ((N 17 0).toNat) ff)] ++ [(a7, arI cy ((N 17 0).toNat) fd)] ++ [(a8, arZ G ((N 17 0).toNat) fb)] ++ wD cy q (hourM N) s2 o2 U2 sU2 oU2 A2 ++ wS G cy qs rr tt (hourM N) g2) (lv' := [(26, .int (enc ((i : Int)))), (25, .int (enc (nwc N (hourM N) i))), (24, .int (enc (hourM N 18 0 - N 18 0))), (23, .int (enc (N 20 0))), (17, .ref (a5)), (18, .ref (a6)), (19, .ref (a7)), (20, .ref (a8)), (12, .ref (a1)), (13, .ref (a2)), (14, .ref (a3)), (15, .ref (a4)), (7, .int (enc (N 17 0))), (6, .int (enc (N 16 0))), (3, .int (enc (ti))), (2, .ref (qs 0)), (1, .ref (q 0)), (0, .ref (bs))]) (st' := [.int (enc (frayAt (hourM N) (i : Int) ((hourM N) 20 0)))]) (List.append_assoc _ _ _).symm rfl rfl ?_
            refine tw_aload X dL_law_983 5 rfl ?_
            refine tw_iload X dL_law_985 0 rfl ?_
            refine tw_iald X (N := (N 17 0).toNat) (f := ff) 5 rfl (by omega) (by omega) dL_law_987 ?_
            refine tw_icmp_ne (tgt := 1066) X (In_of (by omega) (by omega)) (In_of (by omega) (by omega)) dL_law_988 (by decide) (fun c988 => ?_) (fun c988 => ?_)
            · skip
              exact (show False by omega).elim
            · skip
              refine tw_aload_n X dL_law_991 16 rfl rfl ?_
              refine tw_iload X dL_law_992 0 rfl ?_
              refine tw_callV X (As := [.int (enc ((i : Int)))]) (st := []) vw_L_115 (m_X4_dyeOf (q := q) (hourM N) s2 o2 U2 sU2 oU2 A2 ((i : Int)) (by omega) (B + 26) hH (by omega)) ([(a1, arI cy ((N 16 0).toNat) fw)] ++ [(a2, arI cy ((N 16 0).toNat) fk)] ++ [(a3, arI cy ((N 16 0).toNat) fs)] ++ [(a4, arI cy ((N 16 0).toNat) fo)] ++ [(a5, arI cy ((N 17 0).toNat) fr)] ++ [(a6, arI cy ((N 17 0).toNat) ff)] ++ [(a7, arI cy ((N 17 0).toNat) fd)] ++ [(a8, arZ G ((N 17 0).toNat) fb)]) (wS G cy qs rr tt (hourM N) g2) (List.append_assoc _ _ _) rfl (q0 := 0) rfl rfl rfl ⟨rfl, rfl, Nat.le_of_ble_eq_true rfl, Nat.le_of_ble_eq_true rfl⟩ ⟨(show k + 24 + 0 ≤ 600104 by omega), (show n + 240 + 0 ≤ 7301314 by omega)⟩ (Nat.le_of_ble_eq_true rfl) dL_law_994 (fun v w1 hp => ?_)
              obtain ⟨rfl, rfl⟩ := hp
              refine Teq (ws' := [(a1, arI cy ((N 16 0).toNat) fw)] ++ [(a2, arI cy ((N 16 0).toNat) fk)] ++ [(a3, arI cy ((N 16 0).toNat) fs)] ++ [(a4, arI cy ((N 16 0).toNat) fo)] ++ [(a5, arI cy ((N 17 0).toNat) fr)] ++ [(a6, arI cy ((N 17 0).toNat) ff)] ++ [(a7, arI cy ((N 17 0).toNat) fd)] ++ [(a8, arZ G ((N 17 0).toNat) fb)] ++ wD cy q (hourM N) s2 o2 U2 sU2 oU2 A2 ++ wS G cy qs rr tt (hourM N) g2) (lv' := [(26, .int (enc ((i : Int)))), (25, .int (enc (nwc N (hourM N) i))), (24, .int (enc (hourM N 18 0 - N 18 0))), (23, .int (enc (N 20 0))), (17, .ref (a5)), (18, .ref (a6)), (19, .ref (a7)), (20, .ref (a8)), (12, .ref (a1)), (13, .ref (a2)), (14, .ref (a3)), (15, .ref (a4)), (7, .int (enc (N 17 0))), (6, .int (enc (N 16 0))), (3, .int (enc (ti))), (2, .ref (qs 0)), (1, .ref (q 0)), (0, .ref (bs))]) (st' := [.int (enc ((hourM N) 12 (i : Int)))]) (List.append_assoc _ _ _).symm rfl rfl ?_
              have b6 := hBh 12 (i : Int)
              refine tw_aload X dL_law_997 6 rfl ?_
              refine tw_iload X dL_law_999 0 rfl ?_
              refine tw_iald X (N := (N 17 0).toNat) (f := fd) 6 rfl (by omega) (by omega) dL_law_1001 ?_
              refine tw_icmp_ne (tgt := 1066) X (In_of (by omega) (by omega)) (In_of (by omega) (by omega)) dL_law_1002 (by decide) (fun c1002 => ?_) (fun c1002 => ?_)
              · skip
                exact (show False by omega).elim
              · skip
                refine tw_aload_n X dL_law_1005 16 rfl rfl ?_
                refine tw_iload X dL_law_1006 0 rfl ?_
                refine tw_callV X (As := [.int (enc ((i : Int)))]) (st := []) vw_L_112 (m_X4_frayOf (q := q) (hourM N) s2 o2 U2 sU2 oU2 A2 ((i : Int)) (by omega) (B + 26) hH (by omega)) ([(a1, arI cy ((N 16 0).toNat) fw)] ++ [(a2, arI cy ((N 16 0).toNat) fk)] ++ [(a3, arI cy ((N 16 0).toNat) fs)] ++ [(a4, arI cy ((N 16 0).toNat) fo)] ++ [(a5, arI cy ((N 17 0).toNat) fr)] ++ [(a6, arI cy ((N 17 0).toNat) ff)] ++ [(a7, arI cy ((N 17 0).toNat) fd)] ++ [(a8, arZ G ((N 17 0).toNat) fb)]) (wS G cy qs rr tt (hourM N) g2) (List.append_assoc _ _ _) rfl (q0 := 0) rfl rfl rfl ⟨rfl, rfl, Nat.le_of_ble_eq_true rfl, Nat.le_of_ble_eq_true rfl⟩ ⟨(show k + 24 + 0 ≤ 600104 by omega), (show n + 240 + 0 ≤ 7301314 by omega)⟩ (Nat.le_of_ble_eq_true rfl) dL_law_1008 (fun v w1 hp => ?_)
                obtain ⟨rfl, rfl⟩ := hp
                refine Teq (ws' := [(a1, arI cy ((N 16 0).toNat) fw)] ++ [(a2, arI cy ((N 16 0).toNat) fk)] ++ [(a3, arI cy ((N 16 0).toNat) fs)] ++ [(a4, arI cy ((N 16 0).toNat) fo)] ++ [(a5, arI cy ((N 17 0).toNat) fr)] ++ [(a6, arI cy ((N 17 0).toNat) ff)] ++ [(a7, arI cy ((N 17 0).toNat) fd)] ++ [(a8, arZ G ((N 17 0).toNat) fb)] ++ wD cy q (hourM N) s2 o2 U2 sU2 oU2 A2 ++ wS G cy qs rr tt (hourM N) g2) (lv' := [(26, .int (enc ((i : Int)))), (25, .int (enc (nwc N (hourM N) i))), (24, .int (enc (hourM N 18 0 - N 18 0))), (23, .int (enc (N 20 0))), (17, .ref (a5)), (18, .ref (a6)), (19, .ref (a7)), (20, .ref (a8)), (12, .ref (a1)), (13, .ref (a2)), (14, .ref (a3)), (15, .ref (a4)), (7, .int (enc (N 17 0))), (6, .int (enc (N 16 0))), (3, .int (enc (ti))), (2, .ref (qs 0)), (1, .ref (q 0)), (0, .ref (bs))]) (st' := [.int (enc (frayAt (hourM N) (i : Int) ((hourM N) 20 0)))]) (List.append_assoc _ _ _).symm rfl rfl ?_
                refine tw_aload X dL_law_1011 5 rfl ?_
                refine tw_iload X dL_law_1013 0 rfl ?_
                refine tw_iald X (N := (N 17 0).toNat) (f := ff) 5 rfl (by omega) (by omega) dL_law_1015 ?_
                refine tw_icmp_lt (tgt := 1066) X (In_of (by omega) (by omega)) (In_of (by omega) (by omega)) dL_law_1016 (by decide) (fun c1016 => ?_) (fun c1016 => ?_)
                · skip
                  exact (show False by omega).elim
                · skip
                  refine tw_aload_n X dL_law_1019 16 rfl rfl ?_
                  refine tw_iload X dL_law_1020 0 rfl ?_
                  refine tw_callV X (As := [.int (enc ((i : Int)))]) (st := []) vw_L_112 (m_X4_frayOf (q := q) (hourM N) s2 o2 U2 sU2 oU2 A2 ((i : Int)) (by omega) (B + 26) hH (by omega)) ([(a1, arI cy ((N 16 0).toNat) fw)] ++ [(a2, arI cy ((N 16 0).toNat) fk)] ++ [(a3, arI cy ((N 16 0).toNat) fs)] ++ [(a4, arI cy ((N 16 0).toNat) fo)] ++ [(a5, arI cy ((N 17 0).toNat) fr)] ++ [(a6, arI cy ((N 17 0).toNat) ff)] ++ [(a7, arI cy ((N 17 0).toNat) fd)] ++ [(a8, arZ G ((N 17 0).toNat) fb)]) (wS G cy qs rr tt (hourM N) g2) (List.append_assoc _ _ _) rfl (q0 := 0) rfl rfl rfl ⟨rfl, rfl, Nat.le_of_ble_eq_true rfl, Nat.le_of_ble_eq_true rfl⟩ ⟨(show k + 24 + 0 ≤ 600104 by omega), (show n + 240 + 0 ≤ 7301314 by omega)⟩ (Nat.le_of_ble_eq_true rfl) dL_law_1022 (fun v w1 hp => ?_)
                  obtain ⟨rfl, rfl⟩ := hp
                  refine Teq (ws' := [(a1, arI cy ((N 16 0).toNat) fw)] ++ [(a2, arI cy ((N 16 0).toNat) fk)] ++ [(a3, arI cy ((N 16 0).toNat) fs)] ++ [(a4, arI cy ((N 16 0).toNat) fo)] ++ [(a5, arI cy ((N 17 0).toNat) fr)] ++ [(a6, arI cy ((N 17 0).toNat) ff)] ++ [(a7, arI cy ((N 17 0).toNat) fd)] ++ [(a8, arZ G ((N 17 0).toNat) fb)] ++ wD cy q (hourM N) s2 o2 U2 sU2 oU2 A2 ++ wS G cy qs rr tt (hourM N) g2) (lv' := [(26, .int (enc ((i : Int)))), (25, .int (enc (nwc N (hourM N) i))), (24, .int (enc (hourM N 18 0 - N 18 0))), (23, .int (enc (N 20 0))), (17, .ref (a5)), (18, .ref (a6)), (19, .ref (a7)), (20, .ref (a8)), (12, .ref (a1)), (13, .ref (a2)), (14, .ref (a3)), (15, .ref (a4)), (7, .int (enc (N 17 0))), (6, .int (enc (N 16 0))), (3, .int (enc (ti))), (2, .ref (qs 0)), (1, .ref (q 0)), (0, .ref (bs))]) (st' := [.int (enc (frayAt (hourM N) (i : Int) ((hourM N) 20 0)))]) (List.append_assoc _ _ _).symm rfl rfl ?_
                  refine tw_aload X dL_law_1025 5 rfl ?_
                  refine tw_iload X dL_law_1027 0 rfl ?_
                  refine tw_iald X (N := (N 17 0).toNat) (f := ff) 5 rfl (by omega) (by omega) dL_law_1029 ?_
                  refine tw_iconst X dL_law_1030 ?_
                  refine tw_iadd (z := (ff (i : Int)) + 1) X dL_law_1031 rfl ?_
                  refine tw_icmp_gt (tgt := 1066) X (In_of (by omega) (by omega)) (In_of (by omega) (by omega)) dL_law_1032 (by decide) (fun c1032 => ?_) (fun c1032 => ?_)
                  · skip
                    exact (show False by omega).elim
                  · skip
                    refine tw_aload X dL_law_1035 4 rfl ?_
                    refine tw_iload X dL_law_1037 0 rfl ?_
                    refine tw_iald X (N := (N 17 0).toNat) (f := fr) 4 rfl (by omega) (by omega) dL_law_1039 ?_
                    refine tw_if_lt (tgt := 1068) X (In_of (by omega) (by omega)) dL_law_1040 (by decide) (fun c1040 => ?_) (fun c1040 => ?_)
                    · skip
                      refine tw_iload X dL_law_1068 1 rfl ?_
                      refine tw_aload X dL_law_1070 7 rfl ?_
                      refine tw_iload X dL_law_1072 0 rfl ?_
                      refine tw_zald X (N := (N 17 0).toNat) (f := fb) 7 rfl (by omega) (by omega) dL_law_1074 ?_
                      refine tw_if_ne (tgt := 1091) X (In_of (by omega) (by omega)) dL_law_1075 (by decide) (fun c1075 => ?_) (fun c1075 => ?_)
                      · skip
                        refine tw_iconst X dL_law_1091 ?_
                        refine tw_iadd (z := (nwc N (hourM N) i) + 0) X dL_law_1092 rfl ?_
                        refine tw_istore (lv' := [(25, .int (enc ((nwc N (hourM N) i) + 0))), (26, .int (enc ((i : Int)))), (24, .int (enc (hourM N 18 0 - N 18 0))), (23, .int (enc (N 20 0))), (17, .ref (a5)), (18, .ref (a6)), (19, .ref (a7)), (20, .ref (a8)), (12, .ref (a1)), (13, .ref (a2)), (14, .ref (a3)), (15, .ref (a4)), (7, .int (enc (N 17 0))), (6, .int (enc (N 16 0))), (3, .int (enc (ti))), (2, .ref (qs 0)), (1, .ref (q 0)), (0, .ref (bs))]) X dL_law_1093 (by decide) rfl ?_
                        refine tw_iinc (q := 1) (x := (i : Int)) (y := (i : Int) + 1) (lv' := [(26, .int (enc ((i : Int) + 1))), (25, .int (enc ((nwc N (hourM N) i) + 0))), (24, .int (enc (hourM N 18 0 - N 18 0))), (23, .int (enc (N 20 0))), (17, .ref (a5)), (18, .ref (a6)), (19, .ref (a7)), (20, .ref (a8)), (12, .ref (a1)), (13, .ref (a2)), (14, .ref (a3)), (15, .ref (a4)), (7, .int (enc (N 17 0))), (6, .int (enc (N 16 0))), (3, .int (enc (ti))), (2, .ref (qs 0)), (1, .ref (q 0)), (0, .ref (bs))]) X dL_law_1095 rfl rfl (by decide) rfl ?_
                        refine tw_goto (tgt := 953) X dL_law_1098 (by decide) ?_
                        refine Tsub (lv' := [(26, .int (enc ((i : Int) + 1))), (25, .int (enc ((nwc N (hourM N) i) + 0))), (24, .int (enc (hourM N 18 0 - N 18 0))), (23, .int (enc (N 20 0))), (17, .ref (a5)), (18, .ref (a6)), (19, .ref (a7)), (20, .ref (a8)), (12, .ref (a1)), (13, .ref (a2)), (14, .ref (a3)), (15, .ref (a4)), (7, .int (enc (N 17 0))), (6, .int (enc (N 16 0))), (3, .int (enc (ti))), (2, .ref (qs 0)), (1, .ref (q 0)), (0, .ref (bs))]) [0, 1, 2, 3, 4, 5, 6, 7, 8, 9, 10, 11, 12, 13, 14, 15, 16, 17] rfl ?_
                        refine Teq (ws' := [(a1, arI cy ((N 16 0).toNat) fw)] ++ [(a2, arI cy ((N 16 0).toNat) fk)] ++ [(a3, arI cy ((N 16 0).toNat) fs)] ++ [(a4, arI cy ((N 16 0).toNat) fo)] ++ [(a5, arI cy ((N 17 0).toNat) fr)] ++ [(a6, arI cy ((N 17 0).toNat) ff)] ++ [(a7, arI cy ((N 17 0).toNat) fd)] ++ [(a8, arZ G ((N 17 0).toNat) fb)] ++ wD cy q (hourM N) s2 o2 U2 sU2 oU2 A2 ++ wS G cy qs rr tt (hourM N) g2) (lv' := [(26, .int (enc (((i + 1 : Nat) : Int)))), (25, .int (enc (nwc N (hourM N) (i + 1)))), (24, .int (enc (hourM N 18 0 - N 18 0))), (23, .int (enc (N 20 0))), (17, .ref (a5)), (18, .ref (a6)), (19, .ref (a7)), (20, .ref (a8)), (12, .ref (a1)), (13, .ref (a2)), (14, .ref (a3)), (15, .ref (a4)), (7, .int (enc (N 17 0))), (6, .int (enc (N 16 0))), (3, .int (enc (ti))), (2, .ref (qs 0)), (1, .ref (q 0)), (0, .ref (bs))]) (st' := []) (rfl) (lvc (i_succ i) (lvc (by rw [nwc_s]; split <;> omega) rfl)) rfl (ih953 (i + 1) (by omega) (by omega))
                      · exact (show False by omega).elim
                    · skip
                      have e8 := hour_8 hF (t := (i : Int)) ⟨by omega, c957⟩ (by omega)
                      refine tw_aload_n X dL_law_1043 16 rfl rfl ?_
                      refine tw_iload X dL_law_1044 0 rfl ?_
                      refine tw_callV X (As := [.int (enc ((i : Int)))]) (st := []) vw_L_109 (m_X4_roadOf (q := q) (hourM N) s2 o2 U2 sU2 oU2 A2 ((i : Int)) (by omega) (B + 26) hH (by omega)) ([(a1, arI cy ((N 16 0).toNat) fw)] ++ [(a2, arI cy ((N 16 0).toNat) fk)] ++ [(a3, arI cy ((N 16 0).toNat) fs)] ++ [(a4, arI cy ((N 16 0).toNat) fo)] ++ [(a5, arI cy ((N 17 0).toNat) fr)] ++ [(a6, arI cy ((N 17 0).toNat) ff)] ++ [(a7, arI cy ((N 17 0).toNat) fd)] ++ [(a8, arZ G ((N 17 0).toNat) fb)]) (wS G cy qs rr tt (hourM N) g2) (List.append_assoc _ _ _) rfl (q0 := 0) rfl rfl rfl ⟨rfl, rfl, Nat.le_of_ble_eq_true rfl, Nat.le_of_ble_eq_true rfl⟩ ⟨(show k + 24 + 0 ≤ 600104 by omega), (show n + 240 + 0 ≤ 7301314 by omega)⟩ (Nat.le_of_ble_eq_true rfl) dL_law_1046 (fun v w1 hp => ?_)
                      obtain ⟨rfl, rfl⟩ := hp
                      refine Teq (ws' := [(a1, arI cy ((N 16 0).toNat) fw)] ++ [(a2, arI cy ((N 16 0).toNat) fk)] ++ [(a3, arI cy ((N 16 0).toNat) fs)] ++ [(a4, arI cy ((N 16 0).toNat) fo)] ++ [(a5, arI cy ((N 17 0).toNat) fr)] ++ [(a6, arI cy ((N 17 0).toNat) ff)] ++ [(a7, arI cy ((N 17 0).toNat) fd)] ++ [(a8, arZ G ((N 17 0).toNat) fb)] ++ wD cy q (hourM N) s2 o2 U2 sU2 oU2 A2 ++ wS G cy qs rr tt (hourM N) g2) (lv' := [(26, .int (enc ((i : Int)))), (25, .int (enc (nwc N (hourM N) i))), (24, .int (enc (hourM N 18 0 - N 18 0))), (23, .int (enc (N 20 0))), (17, .ref (a5)), (18, .ref (a6)), (19, .ref (a7)), (20, .ref (a8)), (12, .ref (a1)), (13, .ref (a2)), (14, .ref (a3)), (15, .ref (a4)), (7, .int (enc (N 17 0))), (6, .int (enc (N 16 0))), (3, .int (enc (ti))), (2, .ref (qs 0)), (1, .ref (q 0)), (0, .ref (bs))]) (st' := [.int (enc ((hourM N) 8 (i : Int)))]) (List.append_assoc _ _ _).symm rfl rfl ?_
                      have b7 := hBh 8 (i : Int)
                      refine tw_aload X dL_law_1049 4 rfl ?_
                      refine tw_iload X dL_law_1051 0 rfl ?_
                      refine tw_iald X (N := (N 17 0).toNat) (f := fr) 4 rfl (by omega) (by omega) dL_law_1053 ?_
                      refine tw_icmp_eq (tgt := 1068) X (In_of (by omega) (by omega)) (In_of (by omega) (by omega)) dL_law_1054 (by decide) (fun c1054 => ?_) (fun c1054 => ?_)
                      · skip
                        refine tw_iload X dL_law_1068 1 rfl ?_
                        refine tw_aload X dL_law_1070 7 rfl ?_
                        refine tw_iload X dL_law_1072 0 rfl ?_
                        refine tw_zald X (N := (N 17 0).toNat) (f := fb) 7 rfl (by omega) (by omega) dL_law_1074 ?_
                        refine tw_if_ne (tgt := 1091) X (In_of (by omega) (by omega)) dL_law_1075 (by decide) (fun c1075 => ?_) (fun c1075 => ?_)
                        · skip
                          refine tw_iconst X dL_law_1091 ?_
                          refine tw_iadd (z := (nwc N (hourM N) i) + 0) X dL_law_1092 rfl ?_
                          refine tw_istore (lv' := [(25, .int (enc ((nwc N (hourM N) i) + 0))), (26, .int (enc ((i : Int)))), (24, .int (enc (hourM N 18 0 - N 18 0))), (23, .int (enc (N 20 0))), (17, .ref (a5)), (18, .ref (a6)), (19, .ref (a7)), (20, .ref (a8)), (12, .ref (a1)), (13, .ref (a2)), (14, .ref (a3)), (15, .ref (a4)), (7, .int (enc (N 17 0))), (6, .int (enc (N 16 0))), (3, .int (enc (ti))), (2, .ref (qs 0)), (1, .ref (q 0)), (0, .ref (bs))]) X dL_law_1093 (by decide) rfl ?_
                          refine tw_iinc (q := 1) (x := (i : Int)) (y := (i : Int) + 1) (lv' := [(26, .int (enc ((i : Int) + 1))), (25, .int (enc ((nwc N (hourM N) i) + 0))), (24, .int (enc (hourM N 18 0 - N 18 0))), (23, .int (enc (N 20 0))), (17, .ref (a5)), (18, .ref (a6)), (19, .ref (a7)), (20, .ref (a8)), (12, .ref (a1)), (13, .ref (a2)), (14, .ref (a3)), (15, .ref (a4)), (7, .int (enc (N 17 0))), (6, .int (enc (N 16 0))), (3, .int (enc (ti))), (2, .ref (qs 0)), (1, .ref (q 0)), (0, .ref (bs))]) X dL_law_1095 rfl rfl (by decide) rfl ?_
                          refine tw_goto (tgt := 953) X dL_law_1098 (by decide) ?_
                          refine Tsub (lv' := [(26, .int (enc ((i : Int) + 1))), (25, .int (enc ((nwc N (hourM N) i) + 0))), (24, .int (enc (hourM N 18 0 - N 18 0))), (23, .int (enc (N 20 0))), (17, .ref (a5)), (18, .ref (a6)), (19, .ref (a7)), (20, .ref (a8)), (12, .ref (a1)), (13, .ref (a2)), (14, .ref (a3)), (15, .ref (a4)), (7, .int (enc (N 17 0))), (6, .int (enc (N 16 0))), (3, .int (enc (ti))), (2, .ref (qs 0)), (1, .ref (q 0)), (0, .ref (bs))]) [0, 1, 2, 3, 4, 5, 6, 7, 8, 9, 10, 11, 12, 13, 14, 15, 16, 17] rfl ?_
                          refine Teq (ws' := [(a1, arI cy ((N 16 0).toNat) fw)] ++ [(a2, arI cy ((N 16 0).toNat) fk)] ++ [(a3, arI cy ((N 16 0).toNat) fs)] ++ [(a4, arI cy ((N 16 0).toNat) fo)] ++ [(a5, arI cy ((N 17 0).toNat) fr)] ++ [(a6, arI cy ((N 17 0).toNat) ff)] ++ [(a7, arI cy ((N 17 0).toNat) fd)] ++ [(a8, arZ G ((N 17 0).toNat) fb)] ++ wD cy q (hourM N) s2 o2 U2 sU2 oU2 A2 ++ wS G cy qs rr tt (hourM N) g2) (lv' := [(26, .int (enc (((i + 1 : Nat) : Int)))), (25, .int (enc (nwc N (hourM N) (i + 1)))), (24, .int (enc (hourM N 18 0 - N 18 0))), (23, .int (enc (N 20 0))), (17, .ref (a5)), (18, .ref (a6)), (19, .ref (a7)), (20, .ref (a8)), (12, .ref (a1)), (13, .ref (a2)), (14, .ref (a3)), (15, .ref (a4)), (7, .int (enc (N 17 0))), (6, .int (enc (N 16 0))), (3, .int (enc (ti))), (2, .ref (qs 0)), (1, .ref (q 0)), (0, .ref (bs))]) (st' := []) (rfl) (lvc (i_succ i) (lvc (by rw [nwc_s]; split <;> omega) rfl)) rfl (ih953 (i + 1) (by omega) (by omega))
                        · exact (show False by omega).elim
                      · skip
                        refine tw_aload_n X dL_law_1057 16 rfl rfl ?_
                        refine tw_iload X dL_law_1058 0 rfl ?_
                        refine tw_callV X (As := [.int (enc ((i : Int)))]) (st := []) vw_L_109 (m_X4_roadOf (q := q) (hourM N) s2 o2 U2 sU2 oU2 A2 ((i : Int)) (by omega) (B + 26) hH (by omega)) ([(a1, arI cy ((N 16 0).toNat) fw)] ++ [(a2, arI cy ((N 16 0).toNat) fk)] ++ [(a3, arI cy ((N 16 0).toNat) fs)] ++ [(a4, arI cy ((N 16 0).toNat) fo)] ++ [(a5, arI cy ((N 17 0).toNat) fr)] ++ [(a6, arI cy ((N 17 0).toNat) ff)] ++ [(a7, arI cy ((N 17 0).toNat) fd)] ++ [(a8, arZ G ((N 17 0).toNat) fb)]) (wS G cy qs rr tt (hourM N) g2) (List.append_assoc _ _ _) rfl (q0 := 0) rfl rfl rfl ⟨rfl, rfl, Nat.le_of_ble_eq_true rfl, Nat.le_of_ble_eq_true rfl⟩ ⟨(show k + 24 + 0 ≤ 600104 by omega), (show n + 240 + 0 ≤ 7301314 by omega)⟩ (Nat.le_of_ble_eq_true rfl) dL_law_1060 (fun v w1 hp => ?_)
                        obtain ⟨rfl, rfl⟩ := hp
                        refine Teq (ws' := [(a1, arI cy ((N 16 0).toNat) fw)] ++ [(a2, arI cy ((N 16 0).toNat) fk)] ++ [(a3, arI cy ((N 16 0).toNat) fs)] ++ [(a4, arI cy ((N 16 0).toNat) fo)] ++ [(a5, arI cy ((N 17 0).toNat) fr)] ++ [(a6, arI cy ((N 17 0).toNat) ff)] ++ [(a7, arI cy ((N 17 0).toNat) fd)] ++ [(a8, arZ G ((N 17 0).toNat) fb)] ++ wD cy q (hourM N) s2 o2 U2 sU2 oU2 A2 ++ wS G cy qs rr tt (hourM N) g2) (lv' := [(26, .int (enc ((i : Int)))), (25, .int (enc (nwc N (hourM N) i))), (24, .int (enc (hourM N 18 0 - N 18 0))), (23, .int (enc (N 20 0))), (17, .ref (a5)), (18, .ref (a6)), (19, .ref (a7)), (20, .ref (a8)), (12, .ref (a1)), (13, .ref (a2)), (14, .ref (a3)), (15, .ref (a4)), (7, .int (enc (N 17 0))), (6, .int (enc (N 16 0))), (3, .int (enc (ti))), (2, .ref (qs 0)), (1, .ref (q 0)), (0, .ref (bs))]) (st' := [.int (enc ((hourM N) 8 (i : Int)))]) (List.append_assoc _ _ _).symm rfl rfl ?_
                        have b8 := hBh 8 (i : Int)
                        refine tw_if_lt (tgt := 1068) X (In_of (by omega) (by omega)) dL_law_1063 (by decide) (fun c1063 => ?_) (fun c1063 => ?_)
                        · skip
                          refine tw_iload X dL_law_1068 1 rfl ?_
                          refine tw_aload X dL_law_1070 7 rfl ?_
                          refine tw_iload X dL_law_1072 0 rfl ?_
                          refine tw_zald X (N := (N 17 0).toNat) (f := fb) 7 rfl (by omega) (by omega) dL_law_1074 ?_
                          refine tw_if_ne (tgt := 1091) X (In_of (by omega) (by omega)) dL_law_1075 (by decide) (fun c1075 => ?_) (fun c1075 => ?_)
                          · skip
                            refine tw_iconst X dL_law_1091 ?_
                            refine tw_iadd (z := (nwc N (hourM N) i) + 0) X dL_law_1092 rfl ?_
                            refine tw_istore (lv' := [(25, .int (enc ((nwc N (hourM N) i) + 0))), (26, .int (enc ((i : Int)))), (24, .int (enc (hourM N 18 0 - N 18 0))), (23, .int (enc (N 20 0))), (17, .ref (a5)), (18, .ref (a6)), (19, .ref (a7)), (20, .ref (a8)), (12, .ref (a1)), (13, .ref (a2)), (14, .ref (a3)), (15, .ref (a4)), (7, .int (enc (N 17 0))), (6, .int (enc (N 16 0))), (3, .int (enc (ti))), (2, .ref (qs 0)), (1, .ref (q 0)), (0, .ref (bs))]) X dL_law_1093 (by decide) rfl ?_
                            refine tw_iinc (q := 1) (x := (i : Int)) (y := (i : Int) + 1) (lv' := [(26, .int (enc ((i : Int) + 1))), (25, .int (enc ((nwc N (hourM N) i) + 0))), (24, .int (enc (hourM N 18 0 - N 18 0))), (23, .int (enc (N 20 0))), (17, .ref (a5)), (18, .ref (a6)), (19, .ref (a7)), (20, .ref (a8)), (12, .ref (a1)), (13, .ref (a2)), (14, .ref (a3)), (15, .ref (a4)), (7, .int (enc (N 17 0))), (6, .int (enc (N 16 0))), (3, .int (enc (ti))), (2, .ref (qs 0)), (1, .ref (q 0)), (0, .ref (bs))]) X dL_law_1095 rfl rfl (by decide) rfl ?_
                            refine tw_goto (tgt := 953) X dL_law_1098 (by decide) ?_
                            refine Tsub (lv' := [(26, .int (enc ((i : Int) + 1))), (25, .int (enc ((nwc N (hourM N) i) + 0))), (24, .int (enc (hourM N 18 0 - N 18 0))), (23, .int (enc (N 20 0))), (17, .ref (a5)), (18, .ref (a6)), (19, .ref (a7)), (20, .ref (a8)), (12, .ref (a1)), (13, .ref (a2)), (14, .ref (a3)), (15, .ref (a4)), (7, .int (enc (N 17 0))), (6, .int (enc (N 16 0))), (3, .int (enc (ti))), (2, .ref (qs 0)), (1, .ref (q 0)), (0, .ref (bs))]) [0, 1, 2, 3, 4, 5, 6, 7, 8, 9, 10, 11, 12, 13, 14, 15, 16, 17] rfl ?_
                            refine Teq (ws' := [(a1, arI cy ((N 16 0).toNat) fw)] ++ [(a2, arI cy ((N 16 0).toNat) fk)] ++ [(a3, arI cy ((N 16 0).toNat) fs)] ++ [(a4, arI cy ((N 16 0).toNat) fo)] ++ [(a5, arI cy ((N 17 0).toNat) fr)] ++ [(a6, arI cy ((N 17 0).toNat) ff)] ++ [(a7, arI cy ((N 17 0).toNat) fd)] ++ [(a8, arZ G ((N 17 0).toNat) fb)] ++ wD cy q (hourM N) s2 o2 U2 sU2 oU2 A2 ++ wS G cy qs rr tt (hourM N) g2) (lv' := [(26, .int (enc (((i + 1 : Nat) : Int)))), (25, .int (enc (nwc N (hourM N) (i + 1)))), (24, .int (enc (hourM N 18 0 - N 18 0))), (23, .int (enc (N 20 0))), (17, .ref (a5)), (18, .ref (a6)), (19, .ref (a7)), (20, .ref (a8)), (12, .ref (a1)), (13, .ref (a2)), (14, .ref (a3)), (15, .ref (a4)), (7, .int (enc (N 17 0))), (6, .int (enc (N 16 0))), (3, .int (enc (ti))), (2, .ref (qs 0)), (1, .ref (q 0)), (0, .ref (bs))]) (st' := []) (rfl) (lvc (i_succ i) (lvc (by rw [nwc_s]; split <;> omega) rfl)) rfl (ih953 (i + 1) (by omega) (by omega))
                          · exact (show False by omega).elim
                        · skip
                          exact (show False by omega).elim
  refine Teq (ws' := [(a1, arI cy ((N 16 0).toNat) fw)] ++ [(a2, arI cy ((N 16 0).toNat) fk)] ++ [(a3, arI cy ((N 16 0).toNat) fs)] ++ [(a4, arI cy ((N 16 0).toNat) fo)] ++ [(a5, arI cy ((N 17 0).toNat) fr)] ++ [(a6, arI cy ((N 17 0).toNat) ff)] ++ [(a7, arI cy ((N 17 0).toNat) fd)] ++ [(a8, arZ G ((N 17 0).toNat) fb)] ++ wD cy q (hourM N) s2 o2 U2 sU2 oU2 A2 ++ wS G cy qs rr tt (hourM N) g2) (lv' := [(26, .int (enc (((0 : Nat) : Int)))), (25, .int (enc (nwc N (hourM N) 0))), (24, .int (enc (hourM N 18 0 - N 18 0))), (23, .int (enc (N 20 0))), (17, .ref (a5)), (18, .ref (a6)), (19, .ref (a7)), (20, .ref (a8)), (12, .ref (a1)), (13, .ref (a2)), (14, .ref (a3)), (15, .ref (a4)), (7, .int (enc (N 17 0))), (6, .int (enc (N 16 0))), (3, .int (enc (ti))), (2, .ref (qs 0)), (1, .ref (q 0)), (0, .ref (bs))]) (st' := []) (rfl) (rfl) rfl (L953 (N 17 0 + 1).toNat 0 (by omega) (by omega))
set_option maxRecDepth 100000 in
set_option maxHeartbeats 4000000 in
theorem law_s6 {G : va_G} {cy : ClassId} {c : Cx} (X : Ok G cy c cL_law RL 31 room_1) {q qs rr tt : Nat → Nat} (N : MT) (sN : Int → Int) (oN : Int) (U : MT) (sU : Int → Int) (oU : Int) (A : Int → Int) (g : Int → Int) (bs : Nat) (ti B : Int) (hI : INV N g B) (hB2 : B ≤ 500000) (k n : Nat) (a1 a2 a3 a4 : Nat) (fw fk fs : Int → Int) (a5 a6 a7 a8 : Nat) (fr ff fd fb fo : Int → Int)  (gw : Int → Int) (hk : k ≤ 600104) (hn : n ≤ 7301314) (hfw : (∀ r : Int, 0 ≤ r → r < N 16 0 → fw r = N 4 r)) (hfk : (∀ r : Int, 0 ≤ r → r < N 16 0 → fk r = N 5 r)) (hfs : (∀ r : Int, 0 ≤ r → r < N 16 0 → fs r = N 6 r)) (kk : T G c room_1 31 k n (wD cy q (hourM N) sN oN U sU oU A ++ wS G cy qs rr tt (hourM N) gw) 1309 [(3, .int (enc (ti))), (2, .ref (qs 0)), (1, .ref (q 0)), (0, .ref (bs))] []) : T G c room_1 31 k n ([(a1, arI cy ((N 16 0).toNat) fw)] ++ [(a2, arI cy ((N 16 0).toNat) fk)] ++ [(a3, arI cy ((N 16 0).toNat) fs)] ++ [(a4, arI cy ((N 16 0).toNat) fo)] ++ [(a5, arI cy ((N 17 0).toNat) fr)] ++ [(a6, arI cy ((N 17 0).toNat) ff)] ++ [(a7, arI cy ((N 17 0).toNat) fd)] ++ [(a8, arZ G ((N 17 0).toNat) fb)] ++ wD cy q (hourM N) sN oN U sU oU A ++ wS G cy qs rr tt (hourM N) gw) 1121 [(12, .ref (a1)), (13, .ref (a2)), (14, .ref (a3)), (7, .int (enc (N 17 0))), (6, .int (enc (N 16 0))), (3, .int (enc (ti))), (2, .ref (qs 0)), (1, .ref (q 0)), (0, .ref (bs))] [] := by
  have hF := hI.1
  have hB := hF.bd (by omega)
  obtain ⟨w0, w1, w2, w3, w4⟩ := hF.r
  have h17 := hF.2.2.2.2.2.1
  have h172 := hF.2.2.2.2.2.2.1
  have h20 := hF.2.2.2.2.2.2.2.1
  have hH := hF.hour
  have hBh := hH.bd (by omega)
  have h17h : hourM N 17 0 = N 17 0 := by rw [hour_fix' (by omega)]
  have h16h : hourM N 16 0 = N 16 0 := by rw [hour_fix' (by omega)]
  have h20h := hourM_20 N
  have b18 := hB 18 0
  have bh18 := hBh 18 0
  have b20 := hB 20 0
  have bh20 := hBh 20 0
  refine tw_iconst X dL_law_1121 ?_
  refine tw_istore (lv' := [(26, .int (enc (0))), (12, .ref (a1)), (13, .ref (a2)), (14, .ref (a3)), (7, .int (enc (N 17 0))), (6, .int (enc (N 16 0))), (3, .int (enc (ti))), (2, .ref (qs 0)), (1, .ref (q 0)), (0, .ref (bs))]) X dL_law_1122 (by decide) rfl ?_
  have L1124 : ∀ (fu i : Nat), (i : Int) ≤ N 16 0 → N 16 0 + 1 ≤ (i : Int) + fu → T G c room_1 31 k n ([(a1, arI cy ((N 16 0).toNat) fw)] ++ [(a2, arI cy ((N 16 0).toNat) fk)] ++ [(a3, arI cy ((N 16 0).toNat) fs)] ++ [(a4, arI cy ((N 16 0).toNat) fo)] ++ [(a5, arI cy ((N 17 0).toNat) fr)] ++ [(a6, arI cy ((N 17 0).toNat) ff)] ++ [(a7, arI cy ((N 17 0).toNat) fd)] ++ [(a8, arZ G ((N 17 0).toNat) fb)] ++ wD cy q (hourM N) sN oN U sU oU A ++ wS G cy qs rr tt (hourM N) gw) 1124 [(26, .int (enc ((i : Int)))), (12, .ref (a1)), (13, .ref (a2)), (14, .ref (a3)), (7, .int (enc (N 17 0))), (6, .int (enc (N 16 0))), (3, .int (enc (ti))), (2, .ref (qs 0)), (1, .ref (q 0)), (0, .ref (bs))] [] := by
    intro fu
    induction fu with
    | zero =>
      intro i  hi0 hi1
      exact absurd hi1 (by omega)
    | succ fu ih1124 =>
      intro i  hi0_1124 hi1_1124 
      refine tw_iload X dL_law_1124 0 rfl ?_
      refine tw_iload X dL_law_1126 5 rfl ?_
      refine tw_icmp_ge (tgt := 1309) X (In_of (by omega) (by omega)) (In_of (by omega) (by omega)) dL_law_1128 (by decide) (fun c1128 => ?_) (fun c1128 => ?_)
      · skip
        refine Tgone2 ([]) (wD cy q (hourM N) sN oN U sU oU A) (wS G cy qs rr tt (hourM N) gw) ([(a1, arI cy ((N 16 0).toNat) fw)] ++ [(a2, arI cy ((N 16 0).toNat) fk)] ++ [(a3, arI cy ((N 16 0).toNat) fs)] ++ [(a4, arI cy ((N 16 0).toNat) fo)] ++ [(a5, arI cy ((N 17 0).toNat) fr)] ++ [(a6, arI cy ((N 17 0).toNat) ff)] ++ [(a7, arI cy ((N 17 0).toNat) fd)] ++ [(a8, arZ G ((N 17 0).toNat) fb)]) (ws' := wD cy q (hourM N) sN oN U sU oU A ++ wS G cy qs rr tt (hourM N) gw) rfl rfl ?_
        refine Tsub (lv' := [(3, .int (enc (ti))), (2, .ref (qs 0)), (1, .ref (q 0)), (0, .ref (bs))]) [6, 7, 8, 9] rfl ?_
        exact kk
      · skip
        have e14 := hfs (i : Int) (by omega) c1128
        have e13 := hfk (i : Int) (by omega) c1128
        have e12 := hfw (i : Int) (by omega) c1128
        have h5 := hour_5x (N := N) (r := (i : Int)) ⟨by omega, c1128⟩
        have h4 := hour_4x hF (r := (i : Int)) ⟨by omega, c1128⟩
        have h6 := hour_6x hF (r := (i : Int)) ⟨by omega, c1128⟩
        rw [← h17h] at h6
        have d6 := hF.2.2.2.1 (i : Int)
        have bb4 := hB 4 (i : Int)
        have hmn := mn_le 3 (fk (i : Int) + 1)
        have hon := onR_rng (hourM N) (i : Int) (hourM N 17 0).toNat
        have bh4 := hBh 4 (i : Int)
        have bh5 := hBh 5 (i : Int)
        have bh6 := hBh 6 (i : Int)
        refine tw_aload X dL_law_1131 3 rfl ?_
        refine tw_iload X dL_law_1133 0 rfl ?_
        refine tw_iald X (N := (N 16 0).toNat) (f := fs) 2 rfl (by omega) (by omega) dL_law_1135 ?_
        refine tw_iconst X dL_law_1136 ?_
        refine tw_icmp_ne (tgt := 1144) X (In_of (by omega) (by omega)) (In_of (by omega) (by omega)) dL_law_1137 (by decide) (fun c1137 => ?_) (fun c1137 => ?_)
        · skip
          refine tw_iconst X dL_law_1144 ?_
          refine tw_istore (lv' := [(27, .int (enc (0))), (26, .int (enc ((i : Int)))), (12, .ref (a1)), (13, .ref (a2)), (14, .ref (a3)), (7, .int (enc (N 17 0))), (6, .int (enc (N 16 0))), (3, .int (enc (ti))), (2, .ref (qs 0)), (1, .ref (q 0)), (0, .ref (bs))]) X dL_law_1145 (by decide) rfl ?_
          refine tw_aload X dL_law_1147 4 rfl ?_
          refine tw_iload X dL_law_1149 1 rfl ?_
          refine tw_iald X (N := (N 16 0).toNat) (f := fs) 2 rfl (by omega) (by omega) dL_law_1151 ?_
          refine tw_iconst X dL_law_1152 ?_
          refine tw_icmp_ge (tgt := 1160) X (In_of (by omega) (by omega)) (In_of (by omega) (by omega)) dL_law_1153 (by decide) (fun c1153 => ?_) (fun c1153 => ?_)
          · skip
            refine tw_iconst X dL_law_1160 ?_
            refine tw_istore (lv' := [(28, .int (enc (0))), (27, .int (enc (0))), (26, .int (enc ((i : Int)))), (12, .ref (a1)), (13, .ref (a2)), (14, .ref (a3)), (7, .int (enc (N 17 0))), (6, .int (enc (N 16 0))), (3, .int (enc (ti))), (2, .ref (qs 0)), (1, .ref (q 0)), (0, .ref (bs))]) X dL_law_1161 (by decide) rfl ?_
            refine tw_aload_n X dL_law_1163 10 rfl rfl ?_
            refine tw_iload X dL_law_1164 2 rfl ?_
            refine tw_callV X (As := [.int (enc ((i : Int)))]) (st := []) vw_L_100 (m_X4_wearOf (q := q) (hourM N) sN oN U sU oU A ((i : Int)) (by omega) (B + 26) hH (by omega)) ([(a1, arI cy ((N 16 0).toNat) fw)] ++ [(a2, arI cy ((N 16 0).toNat) fk)] ++ [(a3, arI cy ((N 16 0).toNat) fs)] ++ [(a4, arI cy ((N 16 0).toNat) fo)] ++ [(a5, arI cy ((N 17 0).toNat) fr)] ++ [(a6, arI cy ((N 17 0).toNat) ff)] ++ [(a7, arI cy ((N 17 0).toNat) fd)] ++ [(a8, arZ G ((N 17 0).toNat) fb)]) (wS G cy qs rr tt (hourM N) gw) (List.append_assoc _ _ _) rfl (q0 := 0) rfl rfl rfl ⟨rfl, rfl, Nat.le_of_ble_eq_true rfl, Nat.le_of_ble_eq_true rfl⟩ ⟨(show k + 0 ≤ 600104 by omega), (show n + 0 ≤ 7301314 by omega)⟩ (Nat.le_of_ble_eq_true rfl) dL_law_1166 (fun v w1 hp => ?_)
            obtain ⟨rfl, rfl⟩ := hp
            refine Teq (ws' := [(a1, arI cy ((N 16 0).toNat) fw)] ++ [(a2, arI cy ((N 16 0).toNat) fk)] ++ [(a3, arI cy ((N 16 0).toNat) fs)] ++ [(a4, arI cy ((N 16 0).toNat) fo)] ++ [(a5, arI cy ((N 17 0).toNat) fr)] ++ [(a6, arI cy ((N 17 0).toNat) ff)] ++ [(a7, arI cy ((N 17 0).toNat) fd)] ++ [(a8, arZ G ((N 17 0).toNat) fb)] ++ wD cy q (hourM N) sN oN U sU oU A ++ wS G cy qs rr tt (hourM N) gw) (lv' := [(28, .int (enc (0))), (27, .int (enc (0))), (26, .int (enc ((i : Int)))), (12, .ref (a1)), (13, .ref (a2)), (14, .ref (a3)), (7, .int (enc (N 17 0))), (6, .int (enc (N 16 0))), (3, .int (enc (ti))), (2, .ref (qs 0)), (1, .ref (q 0)), (0, .ref (bs))]) (st' := [.int (enc ((hourM N) 4 (i : Int)))]) (List.append_assoc _ _ _).symm rfl rfl ?_
            have b1 := hBh 4 (i : Int)
            refine tw_istore (lv' := [(29, .int (enc ((hourM N) 4 (i : Int)))), (28, .int (enc (0))), (27, .int (enc (0))), (26, .int (enc ((i : Int)))), (12, .ref (a1)), (13, .ref (a2)), (14, .ref (a3)), (7, .int (enc (N 17 0))), (6, .int (enc (N 16 0))), (3, .int (enc (ti))), (2, .ref (qs 0)), (1, .ref (q 0)), (0, .ref (bs))]) X dL_law_1169 (by decide) rfl ?_
            refine tw_aload_n X dL_law_1171 11 rfl rfl ?_
            refine tw_iload X dL_law_1172 3 rfl ?_
            refine tw_callV X (As := [.int (enc ((i : Int)))]) (st := []) vw_L_103 (m_X4_knotsOf (q := q) (hourM N) sN oN U sU oU A ((i : Int)) (by omega) (B + 26) hH (by omega)) ([(a1, arI cy ((N 16 0).toNat) fw)] ++ [(a2, arI cy ((N 16 0).toNat) fk)] ++ [(a3, arI cy ((N 16 0).toNat) fs)] ++ [(a4, arI cy ((N 16 0).toNat) fo)] ++ [(a5, arI cy ((N 17 0).toNat) fr)] ++ [(a6, arI cy ((N 17 0).toNat) ff)] ++ [(a7, arI cy ((N 17 0).toNat) fd)] ++ [(a8, arZ G ((N 17 0).toNat) fb)]) (wS G cy qs rr tt (hourM N) gw) (List.append_assoc _ _ _) rfl (q0 := 0) rfl rfl rfl ⟨rfl, rfl, Nat.le_of_ble_eq_true rfl, Nat.le_of_ble_eq_true rfl⟩ ⟨(show k + 0 ≤ 600104 by omega), (show n + 0 ≤ 7301314 by omega)⟩ (Nat.le_of_ble_eq_true rfl) dL_law_1174 (fun v w1 hp => ?_)
            obtain ⟨rfl, rfl⟩ := hp
            refine Teq (ws' := [(a1, arI cy ((N 16 0).toNat) fw)] ++ [(a2, arI cy ((N 16 0).toNat) fk)] ++ [(a3, arI cy ((N 16 0).toNat) fs)] ++ [(a4, arI cy ((N 16 0).toNat) fo)] ++ [(a5, arI cy ((N 17 0).toNat) fr)] ++ [(a6, arI cy ((N 17 0).toNat) ff)] ++ [(a7, arI cy ((N 17 0).toNat) fd)] ++ [(a8, arZ G ((N 17 0).toNat) fb)] ++ wD cy q (hourM N) sN oN U sU oU A ++ wS G cy qs rr tt (hourM N) gw) (lv' := [(29, .int (enc ((hourM N) 4 (i : Int)))), (28, .int (enc (0))), (27, .int (enc (0))), (26, .int (enc ((i : Int)))), (12, .ref (a1)), (13, .ref (a2)), (14, .ref (a3)), (7, .int (enc (N 17 0))), (6, .int (enc (N 16 0))), (3, .int (enc (ti))), (2, .ref (qs 0)), (1, .ref (q 0)), (0, .ref (bs))]) (st' := [.int (enc ((hourM N) 5 (i : Int)))]) (List.append_assoc _ _ _).symm rfl rfl ?_
            have b2 := hBh 5 (i : Int)
            refine tw_iload X dL_law_1177 2 rfl ?_
            refine tw_if_eq (tgt := 1196) X (In_of (by omega) (by omega)) dL_law_1179 (by decide) (fun c1179 => ?_) (fun c1179 => ?_)
            · skip
              refine tw_aload X dL_law_1196 5 rfl ?_
              refine tw_iload X dL_law_1198 3 rfl ?_
              refine tw_iald X (N := (N 16 0).toNat) (f := fk) 1 rfl (by omega) (by omega) dL_law_1200 ?_
              refine tw_icmp_ne (tgt := 1238) X (In_of (by omega) (by omega)) (In_of (by omega) (by omega)) dL_law_1201 (by decide) (fun c1201 => ?_) (fun c1201 => ?_)
              · skip
                exact (show False by omega).elim
              · skip
                refine tw_iload X dL_law_1204 0 rfl ?_
                refine tw_iload X dL_law_1206 2 rfl ?_
                refine tw_if_eq (tgt := 1215) X (In_of (by omega) (by omega)) dL_law_1208 (by decide) (fun c1208 => ?_) (fun c1208 => ?_)
                · skip
                  refine tw_aload X dL_law_1215 4 rfl ?_
                  refine tw_iload X dL_law_1217 3 rfl ?_
                  refine tw_iald X (N := (N 16 0).toNat) (f := fw) 0 rfl (by omega) (by omega) dL_law_1219 ?_
                  refine tw_icmp_lt (tgt := 1238) X (In_of (by omega) (by omega)) (In_of (by omega) (by omega)) dL_law_1220 (by decide) (fun c1220 => ?_) (fun c1220 => ?_)
                  · skip
                    exact (show False by omega).elim
                  · skip
                    refine tw_iload X dL_law_1223 1 rfl ?_
                    refine tw_if_ne (tgt := 1240) X (In_of (by omega) (by omega)) dL_law_1225 (by decide) (fun c1225 => ?_) (fun c1225 => ?_)
                    · exact absurd c1225 (by decide)
                    · skip
                      refine tw_iload X dL_law_1228 0 rfl ?_
                      refine tw_aload X dL_law_1230 4 rfl ?_
                      refine tw_iload X dL_law_1232 3 rfl ?_
                      refine tw_iald X (N := (N 16 0).toNat) (f := fw) 0 rfl (by omega) (by omega) dL_law_1234 ?_
                      refine tw_icmp_eq (tgt := 1240) X (In_of (by omega) (by omega)) (In_of (by omega) (by omega)) dL_law_1235 (by decide) (fun c1235 => ?_) (fun c1235 => ?_)
                      · skip
                        refine tw_iload X dL_law_1240 1 rfl ?_
                        refine tw_if_eq (tgt := 1264) X (In_of (by omega) (by omega)) dL_law_1242 (by decide) (fun c1242 => ?_) (fun c1242 => ?_)
                        · skip
                          refine tw_iconst X dL_law_1264 ?_
                          refine tw_istore (lv' := [(30, .int (enc (0))), (29, .int (enc ((hourM N) 4 (i : Int)))), (28, .int (enc (0))), (27, .int (enc (0))), (26, .int (enc ((i : Int)))), (12, .ref (a1)), (13, .ref (a2)), (14, .ref (a3)), (7, .int (enc (N 17 0))), (6, .int (enc (N 16 0))), (3, .int (enc (ti))), (2, .ref (qs 0)), (1, .ref (q 0)), (0, .ref (bs))]) X dL_law_1265 (by decide) rfl ?_
                          refine tw_aload_n X dL_law_1267 12 rfl rfl ?_
                          refine tw_iload X dL_law_1268 4 rfl ?_
                          refine tw_callV X (As := [.int (enc ((i : Int)))]) (st := []) vw_L_94 (m_X4_closedFor (q := q) (hourM N) sN oN U sU oU A ((i : Int)) (by omega) (B + 26) hH (by omega)) ([(a1, arI cy ((N 16 0).toNat) fw)] ++ [(a2, arI cy ((N 16 0).toNat) fk)] ++ [(a3, arI cy ((N 16 0).toNat) fs)] ++ [(a4, arI cy ((N 16 0).toNat) fo)] ++ [(a5, arI cy ((N 17 0).toNat) fr)] ++ [(a6, arI cy ((N 17 0).toNat) ff)] ++ [(a7, arI cy ((N 17 0).toNat) fd)] ++ [(a8, arZ G ((N 17 0).toNat) fb)]) (wS G cy qs rr tt (hourM N) gw) (List.append_assoc _ _ _) rfl (q0 := 0) rfl rfl rfl ⟨rfl, rfl, Nat.le_of_ble_eq_true rfl, Nat.le_of_ble_eq_true rfl⟩ ⟨(show k + 0 ≤ 600104 by omega), (show n + 0 ≤ 7301314 by omega)⟩ (Nat.le_of_ble_eq_true rfl) dL_law_1270 (fun v w1 hp => ?_)
                          obtain ⟨rfl, rfl⟩ := hp
                          refine Teq (ws' := [(a1, arI cy ((N 16 0).toNat) fw)] ++ [(a2, arI cy ((N 16 0).toNat) fk)] ++ [(a3, arI cy ((N 16 0).toNat) fs)] ++ [(a4, arI cy ((N 16 0).toNat) fo)] ++ [(a5, arI cy ((N 17 0).toNat) fr)] ++ [(a6, arI cy ((N 17 0).toNat) ff)] ++ [(a7, arI cy ((N 17 0).toNat) fd)] ++ [(a8, arZ G ((N 17 0).toNat) fb)] ++ wD cy q (hourM N) sN oN U sU oU A ++ wS G cy qs rr tt (hourM N) gw) (lv' := [(30, .int (enc (0))), (29, .int (enc ((hourM N) 4 (i : Int)))), (28, .int (enc (0))), (27, .int (enc (0))), (26, .int (enc ((i : Int)))), (12, .ref (a1)), (13, .ref (a2)), (14, .ref (a3)), (7, .int (enc (N 17 0))), (6, .int (enc (N 16 0))), (3, .int (enc (ti))), (2, .ref (qs 0)), (1, .ref (q 0)), (0, .ref (bs))]) (st' := [.int (enc ((hourM N) 6 (i : Int)))]) (List.append_assoc _ _ _).symm rfl rfl ?_
                          have b3 := hBh 6 (i : Int)
                          refine tw_iload X dL_law_1273 0 rfl ?_
                          refine tw_if_eq (tgt := 1282) X (In_of (by omega) (by omega)) dL_law_1275 (by decide) (fun c1275 => ?_) (fun c1275 => ?_)
                          · skip
                            refine tw_iload X dL_law_1282 2 rfl ?_
                            refine tw_if_eq (tgt := 1291) X (In_of (by omega) (by omega)) dL_law_1284 (by decide) (fun c1284 => ?_) (fun c1284 => ?_)
                            · skip
                              refine tw_aload X dL_law_1291 7 rfl ?_
                              refine tw_iload X dL_law_1293 4 rfl ?_
                              refine tw_iald X (N := (N 16 0).toNat) (f := fs) 2 rfl (by omega) (by omega) dL_law_1295 ?_
                              refine tw_iconst X dL_law_1296 ?_
                              refine tw_isub (z := (fs (i : Int)) - 1) X dL_law_1297 rfl ?_
                              refine tw_icmp_eq (tgt := 1303) X (In_of (by omega) (by omega)) (In_of (by omega) (by omega)) dL_law_1298 (by decide) (fun c1298 => ?_) (fun c1298 => ?_)
                              · skip
                                refine tw_iinc (q := 4) (x := (i : Int)) (y := (i : Int) + 1) (lv' := [(26, .int (enc ((i : Int) + 1))), (30, .int (enc (0))), (29, .int (enc ((hourM N) 4 (i : Int)))), (28, .int (enc (0))), (27, .int (enc (0))), (12, .ref (a1)), (13, .ref (a2)), (14, .ref (a3)), (7, .int (enc (N 17 0))), (6, .int (enc (N 16 0))), (3, .int (enc (ti))), (2, .ref (qs 0)), (1, .ref (q 0)), (0, .ref (bs))]) X dL_law_1303 rfl rfl (by decide) rfl ?_
                                refine tw_goto (tgt := 1124) X dL_law_1306 (by decide) ?_
                                refine Tsub (lv' := [(26, .int (enc ((i : Int) + 1))), (12, .ref (a1)), (13, .ref (a2)), (14, .ref (a3)), (7, .int (enc (N 17 0))), (6, .int (enc (N 16 0))), (3, .int (enc (ti))), (2, .ref (qs 0)), (1, .ref (q 0)), (0, .ref (bs))]) [0, 5, 6, 7, 8, 9, 10, 11, 12, 13] rfl ?_
                                refine Teq (ws' := [(a1, arI cy ((N 16 0).toNat) fw)] ++ [(a2, arI cy ((N 16 0).toNat) fk)] ++ [(a3, arI cy ((N 16 0).toNat) fs)] ++ [(a4, arI cy ((N 16 0).toNat) fo)] ++ [(a5, arI cy ((N 17 0).toNat) fr)] ++ [(a6, arI cy ((N 17 0).toNat) ff)] ++ [(a7, arI cy ((N 17 0).toNat) fd)] ++ [(a8, arZ G ((N 17 0).toNat) fb)] ++ wD cy q (hourM N) sN oN U sU oU A ++ wS G cy qs rr tt (hourM N) gw) (lv' := [(26, .int (enc (((i + 1 : Nat) : Int)))), (12, .ref (a1)), (13, .ref (a2)), (14, .ref (a3)), (7, .int (enc (N 17 0))), (6, .int (enc (N 16 0))), (3, .int (enc (ti))), (2, .ref (qs 0)), (1, .ref (q 0)), (0, .ref (bs))]) (st' := []) (rfl) (lvc (i_succ i) (lvk (lvk (lvk (lvk (lvk (lvk (lvk (lvk (lvk (rfl))))))))))) rfl (ih1124 (i + 1) (by omega) (by omega))
                              · skip
                                exact (show False by omega).elim
                            · exact absurd c1284 (by decide)
                          · exact absurd c1275 (by decide)
                        · exact absurd c1242 (by decide)
                      · skip
                        exact (show False by omega).elim
                · exact absurd c1208 (by decide)
            · exact absurd c1179 (by decide)
          · skip
            refine tw_iconst X dL_law_1156 ?_
            refine tw_goto (tgt := 1161) X dL_law_1157 (by decide) ?_
            refine tw_istore (lv' := [(28, .int (enc (1))), (27, .int (enc (0))), (26, .int (enc ((i : Int)))), (12, .ref (a1)), (13, .ref (a2)), (14, .ref (a3)), (7, .int (enc (N 17 0))), (6, .int (enc (N 16 0))), (3, .int (enc (ti))), (2, .ref (qs 0)), (1, .ref (q 0)), (0, .ref (bs))]) X dL_law_1161 (by decide) rfl ?_
            refine tw_aload_n X dL_law_1163 10 rfl rfl ?_
            refine tw_iload X dL_law_1164 2 rfl ?_
            refine tw_callV X (As := [.int (enc ((i : Int)))]) (st := []) vw_L_100 (m_X4_wearOf (q := q) (hourM N) sN oN U sU oU A ((i : Int)) (by omega) (B + 26) hH (by omega)) ([(a1, arI cy ((N 16 0).toNat) fw)] ++ [(a2, arI cy ((N 16 0).toNat) fk)] ++ [(a3, arI cy ((N 16 0).toNat) fs)] ++ [(a4, arI cy ((N 16 0).toNat) fo)] ++ [(a5, arI cy ((N 17 0).toNat) fr)] ++ [(a6, arI cy ((N 17 0).toNat) ff)] ++ [(a7, arI cy ((N 17 0).toNat) fd)] ++ [(a8, arZ G ((N 17 0).toNat) fb)]) (wS G cy qs rr tt (hourM N) gw) (List.append_assoc _ _ _) rfl (q0 := 0) rfl rfl rfl ⟨rfl, rfl, Nat.le_of_ble_eq_true rfl, Nat.le_of_ble_eq_true rfl⟩ ⟨(show k + 0 ≤ 600104 by omega), (show n + 0 ≤ 7301314 by omega)⟩ (Nat.le_of_ble_eq_true rfl) dL_law_1166 (fun v w1 hp => ?_)
            obtain ⟨rfl, rfl⟩ := hp
            refine Teq (ws' := [(a1, arI cy ((N 16 0).toNat) fw)] ++ [(a2, arI cy ((N 16 0).toNat) fk)] ++ [(a3, arI cy ((N 16 0).toNat) fs)] ++ [(a4, arI cy ((N 16 0).toNat) fo)] ++ [(a5, arI cy ((N 17 0).toNat) fr)] ++ [(a6, arI cy ((N 17 0).toNat) ff)] ++ [(a7, arI cy ((N 17 0).toNat) fd)] ++ [(a8, arZ G ((N 17 0).toNat) fb)] ++ wD cy q (hourM N) sN oN U sU oU A ++ wS G cy qs rr tt (hourM N) gw) (lv' := [(28, .int (enc (1))), (27, .int (enc (0))), (26, .int (enc ((i : Int)))), (12, .ref (a1)), (13, .ref (a2)), (14, .ref (a3)), (7, .int (enc (N 17 0))), (6, .int (enc (N 16 0))), (3, .int (enc (ti))), (2, .ref (qs 0)), (1, .ref (q 0)), (0, .ref (bs))]) (st' := [.int (enc ((hourM N) 4 (i : Int)))]) (List.append_assoc _ _ _).symm rfl rfl ?_
            have b4 := hBh 4 (i : Int)
            refine tw_istore (lv' := [(29, .int (enc ((hourM N) 4 (i : Int)))), (28, .int (enc (1))), (27, .int (enc (0))), (26, .int (enc ((i : Int)))), (12, .ref (a1)), (13, .ref (a2)), (14, .ref (a3)), (7, .int (enc (N 17 0))), (6, .int (enc (N 16 0))), (3, .int (enc (ti))), (2, .ref (qs 0)), (1, .ref (q 0)), (0, .ref (bs))]) X dL_law_1169 (by decide) rfl ?_
            refine tw_aload_n X dL_law_1171 11 rfl rfl ?_
            refine tw_iload X dL_law_1172 3 rfl ?_
            refine tw_callV X (As := [.int (enc ((i : Int)))]) (st := []) vw_L_103 (m_X4_knotsOf (q := q) (hourM N) sN oN U sU oU A ((i : Int)) (by omega) (B + 26) hH (by omega)) ([(a1, arI cy ((N 16 0).toNat) fw)] ++ [(a2, arI cy ((N 16 0).toNat) fk)] ++ [(a3, arI cy ((N 16 0).toNat) fs)] ++ [(a4, arI cy ((N 16 0).toNat) fo)] ++ [(a5, arI cy ((N 17 0).toNat) fr)] ++ [(a6, arI cy ((N 17 0).toNat) ff)] ++ [(a7, arI cy ((N 17 0).toNat) fd)] ++ [(a8, arZ G ((N 17 0).toNat) fb)]) (wS G cy qs rr tt (hourM N) gw) (List.append_assoc _ _ _) rfl (q0 := 0) rfl rfl rfl ⟨rfl, rfl, Nat.le_of_ble_eq_true rfl, Nat.le_of_ble_eq_true rfl⟩ ⟨(show k + 0 ≤ 600104 by omega), (show n + 0 ≤ 7301314 by omega)⟩ (Nat.le_of_ble_eq_true rfl) dL_law_1174 (fun v w1 hp => ?_)
            obtain ⟨rfl, rfl⟩ := hp
            refine Teq (ws' := [(a1, arI cy ((N 16 0).toNat) fw)] ++ [(a2, arI cy ((N 16 0).toNat) fk)] ++ [(a3, arI cy ((N 16 0).toNat) fs)] ++ [(a4, arI cy ((N 16 0).toNat) fo)] ++ [(a5, arI cy ((N 17 0).toNat) fr)] ++ [(a6, arI cy ((N 17 0).toNat) ff)] ++ [(a7, arI cy ((N 17 0).toNat) fd)] ++ [(a8, arZ G ((N 17 0).toNat) fb)] ++ wD cy q (hourM N) sN oN U sU oU A ++ wS G cy qs rr tt (hourM N) gw) (lv' := [(29, .int (enc ((hourM N) 4 (i : Int)))), (28, .int (enc (1))), (27, .int (enc (0))), (26, .int (enc ((i : Int)))), (12, .ref (a1)), (13, .ref (a2)), (14, .ref (a3)), (7, .int (enc (N 17 0))), (6, .int (enc (N 16 0))), (3, .int (enc (ti))), (2, .ref (qs 0)), (1, .ref (q 0)), (0, .ref (bs))]) (st' := [.int (enc ((hourM N) 5 (i : Int)))]) (List.append_assoc _ _ _).symm rfl rfl ?_
            have b5 := hBh 5 (i : Int)
            refine tw_iload X dL_law_1177 2 rfl ?_
            refine tw_if_eq (tgt := 1196) X (In_of (by omega) (by omega)) dL_law_1179 (by decide) (fun c1179 => ?_) (fun c1179 => ?_)
            · skip
              refine tw_aload X dL_law_1196 5 rfl ?_
              refine tw_iload X dL_law_1198 3 rfl ?_
              refine tw_iald X (N := (N 16 0).toNat) (f := fk) 1 rfl (by omega) (by omega) dL_law_1200 ?_
              refine tw_icmp_ne (tgt := 1238) X (In_of (by omega) (by omega)) (In_of (by omega) (by omega)) dL_law_1201 (by decide) (fun c1201 => ?_) (fun c1201 => ?_)
              · skip
                exact (show False by omega).elim
              · skip
                refine tw_iload X dL_law_1204 0 rfl ?_
                refine tw_iload X dL_law_1206 2 rfl ?_
                refine tw_if_eq (tgt := 1215) X (In_of (by omega) (by omega)) dL_law_1208 (by decide) (fun c1208 => ?_) (fun c1208 => ?_)
                · skip
                  refine tw_aload X dL_law_1215 4 rfl ?_
                  refine tw_iload X dL_law_1217 3 rfl ?_
                  refine tw_iald X (N := (N 16 0).toNat) (f := fw) 0 rfl (by omega) (by omega) dL_law_1219 ?_
                  refine tw_icmp_lt (tgt := 1238) X (In_of (by omega) (by omega)) (In_of (by omega) (by omega)) dL_law_1220 (by decide) (fun c1220 => ?_) (fun c1220 => ?_)
                  · skip
                    exact (show False by omega).elim
                  · skip
                    refine tw_iload X dL_law_1223 1 rfl ?_
                    refine tw_if_ne (tgt := 1240) X (In_of (by omega) (by omega)) dL_law_1225 (by decide) (fun c1225 => ?_) (fun c1225 => ?_)
                    · skip
                      refine tw_iload X dL_law_1240 1 rfl ?_
                      refine tw_if_eq (tgt := 1264) X (In_of (by omega) (by omega)) dL_law_1242 (by decide) (fun c1242 => ?_) (fun c1242 => ?_)
                      · exact absurd c1242 (by decide)
                      · skip
                        refine tw_iload X dL_law_1245 0 rfl ?_
                        refine tw_iconst X dL_law_1247 ?_
                        refine tw_icmp_lt (tgt := 1264) X (In_of (by omega) (by omega)) (In_of (by omega) (by omega)) dL_law_1248 (by decide) (fun c1248 => ?_) (fun c1248 => ?_)
                        · skip
                          refine tw_iconst X dL_law_1264 ?_
                          refine tw_istore (lv' := [(30, .int (enc (0))), (29, .int (enc ((hourM N) 4 (i : Int)))), (28, .int (enc (1))), (27, .int (enc (0))), (26, .int (enc ((i : Int)))), (12, .ref (a1)), (13, .ref (a2)), (14, .ref (a3)), (7, .int (enc (N 17 0))), (6, .int (enc (N 16 0))), (3, .int (enc (ti))), (2, .ref (qs 0)), (1, .ref (q 0)), (0, .ref (bs))]) X dL_law_1265 (by decide) rfl ?_
                          refine tw_aload_n X dL_law_1267 12 rfl rfl ?_
                          refine tw_iload X dL_law_1268 4 rfl ?_
                          refine tw_callV X (As := [.int (enc ((i : Int)))]) (st := []) vw_L_94 (m_X4_closedFor (q := q) (hourM N) sN oN U sU oU A ((i : Int)) (by omega) (B + 26) hH (by omega)) ([(a1, arI cy ((N 16 0).toNat) fw)] ++ [(a2, arI cy ((N 16 0).toNat) fk)] ++ [(a3, arI cy ((N 16 0).toNat) fs)] ++ [(a4, arI cy ((N 16 0).toNat) fo)] ++ [(a5, arI cy ((N 17 0).toNat) fr)] ++ [(a6, arI cy ((N 17 0).toNat) ff)] ++ [(a7, arI cy ((N 17 0).toNat) fd)] ++ [(a8, arZ G ((N 17 0).toNat) fb)]) (wS G cy qs rr tt (hourM N) gw) (List.append_assoc _ _ _) rfl (q0 := 0) rfl rfl rfl ⟨rfl, rfl, Nat.le_of_ble_eq_true rfl, Nat.le_of_ble_eq_true rfl⟩ ⟨(show k + 0 ≤ 600104 by omega), (show n + 0 ≤ 7301314 by omega)⟩ (Nat.le_of_ble_eq_true rfl) dL_law_1270 (fun v w1 hp => ?_)
                          obtain ⟨rfl, rfl⟩ := hp
                          refine Teq (ws' := [(a1, arI cy ((N 16 0).toNat) fw)] ++ [(a2, arI cy ((N 16 0).toNat) fk)] ++ [(a3, arI cy ((N 16 0).toNat) fs)] ++ [(a4, arI cy ((N 16 0).toNat) fo)] ++ [(a5, arI cy ((N 17 0).toNat) fr)] ++ [(a6, arI cy ((N 17 0).toNat) ff)] ++ [(a7, arI cy ((N 17 0).toNat) fd)] ++ [(a8, arZ G ((N 17 0).toNat) fb)] ++ wD cy q (hourM N) sN oN U sU oU A ++ wS G cy qs rr tt (hourM N) gw) (lv' := [(30, .int (enc (0))), (29, .int (enc ((hourM N) 4 (i : Int)))), (28, .int (enc (1))), (27, .int (enc (0))), (26, .int (enc ((i : Int)))), (12, .ref (a1)), (13, .ref (a2)), (14, .ref (a3)), (7, .int (enc (N 17 0))), (6, .int (enc (N 16 0))), (3, .int (enc (ti))), (2, .ref (qs 0)), (1, .ref (q 0)), (0, .ref (bs))]) (st' := [.int (enc ((hourM N) 6 (i : Int)))]) (List.append_assoc _ _ _).symm rfl rfl ?_
                          have b6 := hBh 6 (i : Int)
                          refine tw_iload X dL_law_1273 0 rfl ?_
                          refine tw_if_eq (tgt := 1282) X (In_of (by omega) (by omega)) dL_law_1275 (by decide) (fun c1275 => ?_) (fun c1275 => ?_)
                          · skip
                            refine tw_iload X dL_law_1282 2 rfl ?_
                            refine tw_if_eq (tgt := 1291) X (In_of (by omega) (by omega)) dL_law_1284 (by decide) (fun c1284 => ?_) (fun c1284 => ?_)
                            · exact absurd c1284 (by decide)
                            · skip
                              refine tw_iconst X dL_law_1287 ?_
                              refine tw_goto (tgt := 1298) X dL_law_1288 (by decide) ?_
                              refine tw_icmp_eq (tgt := 1303) X (In_of (by omega) (by omega)) (In_of (by omega) (by omega)) dL_law_1298 (by decide) (fun c1298 => ?_) (fun c1298 => ?_)
                              · skip
                                refine tw_iinc (q := 4) (x := (i : Int)) (y := (i : Int) + 1) (lv' := [(26, .int (enc ((i : Int) + 1))), (30, .int (enc (0))), (29, .int (enc ((hourM N) 4 (i : Int)))), (28, .int (enc (1))), (27, .int (enc (0))), (12, .ref (a1)), (13, .ref (a2)), (14, .ref (a3)), (7, .int (enc (N 17 0))), (6, .int (enc (N 16 0))), (3, .int (enc (ti))), (2, .ref (qs 0)), (1, .ref (q 0)), (0, .ref (bs))]) X dL_law_1303 rfl rfl (by decide) rfl ?_
                                refine tw_goto (tgt := 1124) X dL_law_1306 (by decide) ?_
                                refine Tsub (lv' := [(26, .int (enc ((i : Int) + 1))), (12, .ref (a1)), (13, .ref (a2)), (14, .ref (a3)), (7, .int (enc (N 17 0))), (6, .int (enc (N 16 0))), (3, .int (enc (ti))), (2, .ref (qs 0)), (1, .ref (q 0)), (0, .ref (bs))]) [0, 5, 6, 7, 8, 9, 10, 11, 12, 13] rfl ?_
                                refine Teq (ws' := [(a1, arI cy ((N 16 0).toNat) fw)] ++ [(a2, arI cy ((N 16 0).toNat) fk)] ++ [(a3, arI cy ((N 16 0).toNat) fs)] ++ [(a4, arI cy ((N 16 0).toNat) fo)] ++ [(a5, arI cy ((N 17 0).toNat) fr)] ++ [(a6, arI cy ((N 17 0).toNat) ff)] ++ [(a7, arI cy ((N 17 0).toNat) fd)] ++ [(a8, arZ G ((N 17 0).toNat) fb)] ++ wD cy q (hourM N) sN oN U sU oU A ++ wS G cy qs rr tt (hourM N) gw) (lv' := [(26, .int (enc (((i + 1 : Nat) : Int)))), (12, .ref (a1)), (13, .ref (a2)), (14, .ref (a3)), (7, .int (enc (N 17 0))), (6, .int (enc (N 16 0))), (3, .int (enc (ti))), (2, .ref (qs 0)), (1, .ref (q 0)), (0, .ref (bs))]) (st' := []) (rfl) (lvc (i_succ i) (lvk (lvk (lvk (lvk (lvk (lvk (lvk (lvk (lvk (rfl))))))))))) rfl (ih1124 (i + 1) (by omega) (by omega))
                              · skip
                                exact (show False by omega).elim
                          · exact absurd c1275 (by decide)
                        · skip
                          refine tw_aload_n X dL_law_1251 11 rfl rfl ?_
                          refine tw_iload X dL_law_1252 3 rfl ?_
                          refine tw_callV X (As := [.int (enc ((i : Int)))]) (st := []) vw_L_125 (m_X4_touristsOn (q := q) (hourM N) sN oN U sU oU A ((i : Int)) (by omega) (B + 26) hH (by omega)) ([(a1, arI cy ((N 16 0).toNat) fw)] ++ [(a2, arI cy ((N 16 0).toNat) fk)] ++ [(a3, arI cy ((N 16 0).toNat) fs)] ++ [(a4, arI cy ((N 16 0).toNat) fo)] ++ [(a5, arI cy ((N 17 0).toNat) fr)] ++ [(a6, arI cy ((N 17 0).toNat) ff)] ++ [(a7, arI cy ((N 17 0).toNat) fd)] ++ [(a8, arZ G ((N 17 0).toNat) fb)]) (wS G cy qs rr tt (hourM N) gw) (List.append_assoc _ _ _) rfl (q0 := 0) rfl rfl rfl ⟨rfl, rfl, Nat.le_of_ble_eq_true rfl, Nat.le_of_ble_eq_true rfl⟩ ⟨(show k + 0 ≤ 600104 by omega), (show n + 0 ≤ 7301314 by omega)⟩ (Nat.le_of_ble_eq_true rfl) dL_law_1254 (fun v w1 hp => ?_)
                          obtain ⟨rfl, rfl⟩ := hp
                          refine Teq (ws' := [(a1, arI cy ((N 16 0).toNat) fw)] ++ [(a2, arI cy ((N 16 0).toNat) fk)] ++ [(a3, arI cy ((N 16 0).toNat) fs)] ++ [(a4, arI cy ((N 16 0).toNat) fo)] ++ [(a5, arI cy ((N 17 0).toNat) fr)] ++ [(a6, arI cy ((N 17 0).toNat) ff)] ++ [(a7, arI cy ((N 17 0).toNat) fd)] ++ [(a8, arZ G ((N 17 0).toNat) fb)] ++ wD cy q (hourM N) sN oN U sU oU A ++ wS G cy qs rr tt (hourM N) gw) (lv' := [(29, .int (enc ((hourM N) 4 (i : Int)))), (28, .int (enc (1))), (27, .int (enc (0))), (26, .int (enc ((i : Int)))), (12, .ref (a1)), (13, .ref (a2)), (14, .ref (a3)), (7, .int (enc (N 17 0))), (6, .int (enc (N 16 0))), (3, .int (enc (ti))), (2, .ref (qs 0)), (1, .ref (q 0)), (0, .ref (bs))]) (st' := [.int (enc (onR (hourM N) (i : Int) ((hourM N) 17 0).toNat))]) (List.append_assoc _ _ _).symm rfl rfl ?_
                          refine tw_if_ne (tgt := 1264) X (In_of (by omega) (by omega)) dL_law_1257 (by decide) (fun c1257 => ?_) (fun c1257 => ?_)
                          · skip
                            refine tw_iconst X dL_law_1264 ?_
                            refine tw_istore (lv' := [(30, .int (enc (0))), (29, .int (enc ((hourM N) 4 (i : Int)))), (28, .int (enc (1))), (27, .int (enc (0))), (26, .int (enc ((i : Int)))), (12, .ref (a1)), (13, .ref (a2)), (14, .ref (a3)), (7, .int (enc (N 17 0))), (6, .int (enc (N 16 0))), (3, .int (enc (ti))), (2, .ref (qs 0)), (1, .ref (q 0)), (0, .ref (bs))]) X dL_law_1265 (by decide) rfl ?_
                            refine tw_aload_n X dL_law_1267 12 rfl rfl ?_
                            refine tw_iload X dL_law_1268 4 rfl ?_
                            refine tw_callV X (As := [.int (enc ((i : Int)))]) (st := []) vw_L_94 (m_X4_closedFor (q := q) (hourM N) sN oN U sU oU A ((i : Int)) (by omega) (B + 26) hH (by omega)) ([(a1, arI cy ((N 16 0).toNat) fw)] ++ [(a2, arI cy ((N 16 0).toNat) fk)] ++ [(a3, arI cy ((N 16 0).toNat) fs)] ++ [(a4, arI cy ((N 16 0).toNat) fo)] ++ [(a5, arI cy ((N 17 0).toNat) fr)] ++ [(a6, arI cy ((N 17 0).toNat) ff)] ++ [(a7, arI cy ((N 17 0).toNat) fd)] ++ [(a8, arZ G ((N 17 0).toNat) fb)]) (wS G cy qs rr tt (hourM N) gw) (List.append_assoc _ _ _) rfl (q0 := 0) rfl rfl rfl ⟨rfl, rfl, Nat.le_of_ble_eq_true rfl, Nat.le_of_ble_eq_true rfl⟩ ⟨(show k + 0 ≤ 600104 by omega), (show n + 0 ≤ 7301314 by omega)⟩ (Nat.le_of_ble_eq_true rfl) dL_law_1270 (fun v w1 hp => ?_)
                            obtain ⟨rfl, rfl⟩ := hp
                            refine Teq (ws' := [(a1, arI cy ((N 16 0).toNat) fw)] ++ [(a2, arI cy ((N 16 0).toNat) fk)] ++ [(a3, arI cy ((N 16 0).toNat) fs)] ++ [(a4, arI cy ((N 16 0).toNat) fo)] ++ [(a5, arI cy ((N 17 0).toNat) fr)] ++ [(a6, arI cy ((N 17 0).toNat) ff)] ++ [(a7, arI cy ((N 17 0).toNat) fd)] ++ [(a8, arZ G ((N 17 0).toNat) fb)] ++ wD cy q (hourM N) sN oN U sU oU A ++ wS G cy qs rr tt (hourM N) gw) (lv' := [(30, .int (enc (0))), (29, .int (enc ((hourM N) 4 (i : Int)))), (28, .int (enc (1))), (27, .int (enc (0))), (26, .int (enc ((i : Int)))), (12, .ref (a1)), (13, .ref (a2)), (14, .ref (a3)), (7, .int (enc (N 17 0))), (6, .int (enc (N 16 0))), (3, .int (enc (ti))), (2, .ref (qs 0)), (1, .ref (q 0)), (0, .ref (bs))]) (st' := [.int (enc ((hourM N) 6 (i : Int)))]) (List.append_assoc _ _ _).symm rfl rfl ?_
                            have b7 := hBh 6 (i : Int)
                            refine tw_iload X dL_law_1273 0 rfl ?_
                            refine tw_if_eq (tgt := 1282) X (In_of (by omega) (by omega)) dL_law_1275 (by decide) (fun c1275 => ?_) (fun c1275 => ?_)
                            · skip
                              refine tw_iload X dL_law_1282 2 rfl ?_
                              refine tw_if_eq (tgt := 1291) X (In_of (by omega) (by omega)) dL_law_1284 (by decide) (fun c1284 => ?_) (fun c1284 => ?_)
                              · exact absurd c1284 (by decide)
                              · skip
                                refine tw_iconst X dL_law_1287 ?_
                                refine tw_goto (tgt := 1298) X dL_law_1288 (by decide) ?_
                                refine tw_icmp_eq (tgt := 1303) X (In_of (by omega) (by omega)) (In_of (by omega) (by omega)) dL_law_1298 (by decide) (fun c1298 => ?_) (fun c1298 => ?_)
                                · skip
                                  refine tw_iinc (q := 4) (x := (i : Int)) (y := (i : Int) + 1) (lv' := [(26, .int (enc ((i : Int) + 1))), (30, .int (enc (0))), (29, .int (enc ((hourM N) 4 (i : Int)))), (28, .int (enc (1))), (27, .int (enc (0))), (12, .ref (a1)), (13, .ref (a2)), (14, .ref (a3)), (7, .int (enc (N 17 0))), (6, .int (enc (N 16 0))), (3, .int (enc (ti))), (2, .ref (qs 0)), (1, .ref (q 0)), (0, .ref (bs))]) X dL_law_1303 rfl rfl (by decide) rfl ?_
                                  refine tw_goto (tgt := 1124) X dL_law_1306 (by decide) ?_
                                  refine Tsub (lv' := [(26, .int (enc ((i : Int) + 1))), (12, .ref (a1)), (13, .ref (a2)), (14, .ref (a3)), (7, .int (enc (N 17 0))), (6, .int (enc (N 16 0))), (3, .int (enc (ti))), (2, .ref (qs 0)), (1, .ref (q 0)), (0, .ref (bs))]) [0, 5, 6, 7, 8, 9, 10, 11, 12, 13] rfl ?_
                                  refine Teq (ws' := [(a1, arI cy ((N 16 0).toNat) fw)] ++ [(a2, arI cy ((N 16 0).toNat) fk)] ++ [(a3, arI cy ((N 16 0).toNat) fs)] ++ [(a4, arI cy ((N 16 0).toNat) fo)] ++ [(a5, arI cy ((N 17 0).toNat) fr)] ++ [(a6, arI cy ((N 17 0).toNat) ff)] ++ [(a7, arI cy ((N 17 0).toNat) fd)] ++ [(a8, arZ G ((N 17 0).toNat) fb)] ++ wD cy q (hourM N) sN oN U sU oU A ++ wS G cy qs rr tt (hourM N) gw) (lv' := [(26, .int (enc (((i + 1 : Nat) : Int)))), (12, .ref (a1)), (13, .ref (a2)), (14, .ref (a3)), (7, .int (enc (N 17 0))), (6, .int (enc (N 16 0))), (3, .int (enc (ti))), (2, .ref (qs 0)), (1, .ref (q 0)), (0, .ref (bs))]) (st' := []) (rfl) (lvc (i_succ i) (lvk (lvk (lvk (lvk (lvk (lvk (lvk (lvk (lvk (rfl))))))))))) rfl (ih1124 (i + 1) (by omega) (by omega))
                                · skip
                                  exact (show False by omega).elim
                            · exact absurd c1275 (by decide)
                          · skip
                            refine tw_iconst X dL_law_1260 ?_
                            refine tw_goto (tgt := 1265) X dL_law_1261 (by decide) ?_
                            refine tw_istore (lv' := [(30, .int (enc (1))), (29, .int (enc ((hourM N) 4 (i : Int)))), (28, .int (enc (1))), (27, .int (enc (0))), (26, .int (enc ((i : Int)))), (12, .ref (a1)), (13, .ref (a2)), (14, .ref (a3)), (7, .int (enc (N 17 0))), (6, .int (enc (N 16 0))), (3, .int (enc (ti))), (2, .ref (qs 0)), (1, .ref (q 0)), (0, .ref (bs))]) X dL_law_1265 (by decide) rfl ?_
                            refine tw_aload_n X dL_law_1267 12 rfl rfl ?_
                            refine tw_iload X dL_law_1268 4 rfl ?_
                            refine tw_callV X (As := [.int (enc ((i : Int)))]) (st := []) vw_L_94 (m_X4_closedFor (q := q) (hourM N) sN oN U sU oU A ((i : Int)) (by omega) (B + 26) hH (by omega)) ([(a1, arI cy ((N 16 0).toNat) fw)] ++ [(a2, arI cy ((N 16 0).toNat) fk)] ++ [(a3, arI cy ((N 16 0).toNat) fs)] ++ [(a4, arI cy ((N 16 0).toNat) fo)] ++ [(a5, arI cy ((N 17 0).toNat) fr)] ++ [(a6, arI cy ((N 17 0).toNat) ff)] ++ [(a7, arI cy ((N 17 0).toNat) fd)] ++ [(a8, arZ G ((N 17 0).toNat) fb)]) (wS G cy qs rr tt (hourM N) gw) (List.append_assoc _ _ _) rfl (q0 := 0) rfl rfl rfl ⟨rfl, rfl, Nat.le_of_ble_eq_true rfl, Nat.le_of_ble_eq_true rfl⟩ ⟨(show k + 0 ≤ 600104 by omega), (show n + 0 ≤ 7301314 by omega)⟩ (Nat.le_of_ble_eq_true rfl) dL_law_1270 (fun v w1 hp => ?_)
                            obtain ⟨rfl, rfl⟩ := hp
                            refine Teq (ws' := [(a1, arI cy ((N 16 0).toNat) fw)] ++ [(a2, arI cy ((N 16 0).toNat) fk)] ++ [(a3, arI cy ((N 16 0).toNat) fs)] ++ [(a4, arI cy ((N 16 0).toNat) fo)] ++ [(a5, arI cy ((N 17 0).toNat) fr)] ++ [(a6, arI cy ((N 17 0).toNat) ff)] ++ [(a7, arI cy ((N 17 0).toNat) fd)] ++ [(a8, arZ G ((N 17 0).toNat) fb)] ++ wD cy q (hourM N) sN oN U sU oU A ++ wS G cy qs rr tt (hourM N) gw) (lv' := [(30, .int (enc (1))), (29, .int (enc ((hourM N) 4 (i : Int)))), (28, .int (enc (1))), (27, .int (enc (0))), (26, .int (enc ((i : Int)))), (12, .ref (a1)), (13, .ref (a2)), (14, .ref (a3)), (7, .int (enc (N 17 0))), (6, .int (enc (N 16 0))), (3, .int (enc (ti))), (2, .ref (qs 0)), (1, .ref (q 0)), (0, .ref (bs))]) (st' := [.int (enc ((hourM N) 6 (i : Int)))]) (List.append_assoc _ _ _).symm rfl rfl ?_
                            have b8 := hBh 6 (i : Int)
                            refine tw_iload X dL_law_1273 0 rfl ?_
                            refine tw_if_eq (tgt := 1282) X (In_of (by omega) (by omega)) dL_law_1275 (by decide) (fun c1275 => ?_) (fun c1275 => ?_)
                            · exact absurd c1275 (by decide)
                            · skip
                              refine tw_iconst X dL_law_1278 ?_
                              refine tw_goto (tgt := 1298) X dL_law_1279 (by decide) ?_
                              refine tw_icmp_eq (tgt := 1303) X (In_of (by omega) (by omega)) (In_of (by omega) (by omega)) dL_law_1298 (by decide) (fun c1298 => ?_) (fun c1298 => ?_)
                              · skip
                                refine tw_iinc (q := 4) (x := (i : Int)) (y := (i : Int) + 1) (lv' := [(26, .int (enc ((i : Int) + 1))), (30, .int (enc (1))), (29, .int (enc ((hourM N) 4 (i : Int)))), (28, .int (enc (1))), (27, .int (enc (0))), (12, .ref (a1)), (13, .ref (a2)), (14, .ref (a3)), (7, .int (enc (N 17 0))), (6, .int (enc (N 16 0))), (3, .int (enc (ti))), (2, .ref (qs 0)), (1, .ref (q 0)), (0, .ref (bs))]) X dL_law_1303 rfl rfl (by decide) rfl ?_
                                refine tw_goto (tgt := 1124) X dL_law_1306 (by decide) ?_
                                refine Tsub (lv' := [(26, .int (enc ((i : Int) + 1))), (12, .ref (a1)), (13, .ref (a2)), (14, .ref (a3)), (7, .int (enc (N 17 0))), (6, .int (enc (N 16 0))), (3, .int (enc (ti))), (2, .ref (qs 0)), (1, .ref (q 0)), (0, .ref (bs))]) [0, 5, 6, 7, 8, 9, 10, 11, 12, 13] rfl ?_
                                refine Teq (ws' := [(a1, arI cy ((N 16 0).toNat) fw)] ++ [(a2, arI cy ((N 16 0).toNat) fk)] ++ [(a3, arI cy ((N 16 0).toNat) fs)] ++ [(a4, arI cy ((N 16 0).toNat) fo)] ++ [(a5, arI cy ((N 17 0).toNat) fr)] ++ [(a6, arI cy ((N 17 0).toNat) ff)] ++ [(a7, arI cy ((N 17 0).toNat) fd)] ++ [(a8, arZ G ((N 17 0).toNat) fb)] ++ wD cy q (hourM N) sN oN U sU oU A ++ wS G cy qs rr tt (hourM N) gw) (lv' := [(26, .int (enc (((i + 1 : Nat) : Int)))), (12, .ref (a1)), (13, .ref (a2)), (14, .ref (a3)), (7, .int (enc (N 17 0))), (6, .int (enc (N 16 0))), (3, .int (enc (ti))), (2, .ref (qs 0)), (1, .ref (q 0)), (0, .ref (bs))]) (st' := []) (rfl) (lvc (i_succ i) (lvk (lvk (lvk (lvk (lvk (lvk (lvk (lvk (lvk (rfl))))))))))) rfl (ih1124 (i + 1) (by omega) (by omega))
                              · skip
                                exact (show False by omega).elim
                    · exact absurd c1225 (by decide)
                · exact absurd c1208 (by decide)
            · exact absurd c1179 (by decide)
        · skip
          refine tw_iconst X dL_law_1140 ?_
          refine tw_goto (tgt := 1145) X dL_law_1141 (by decide) ?_
          refine tw_istore (lv' := [(27, .int (enc (1))), (26, .int (enc ((i : Int)))), (12, .ref (a1)), (13, .ref (a2)), (14, .ref (a3)), (7, .int (enc (N 17 0))), (6, .int (enc (N 16 0))), (3, .int (enc (ti))), (2, .ref (qs 0)), (1, .ref (q 0)), (0, .ref (bs))]) X dL_law_1145 (by decide) rfl ?_
          refine tw_aload X dL_law_1147 4 rfl ?_
          refine tw_iload X dL_law_1149 1 rfl ?_
          refine tw_iald X (N := (N 16 0).toNat) (f := fs) 2 rfl (by omega) (by omega) dL_law_1151 ?_
          refine tw_iconst X dL_law_1152 ?_
          refine tw_icmp_ge (tgt := 1160) X (In_of (by omega) (by omega)) (In_of (by omega) (by omega)) dL_law_1153 (by decide) (fun c1153 => ?_) (fun c1153 => ?_)
          · exact (show False by omega).elim
          · skip
            refine tw_iconst X dL_law_1156 ?_
            refine tw_goto (tgt := 1161) X dL_law_1157 (by decide) ?_
            refine tw_istore (lv' := [(28, .int (enc (1))), (27, .int (enc (1))), (26, .int (enc ((i : Int)))), (12, .ref (a1)), (13, .ref (a2)), (14, .ref (a3)), (7, .int (enc (N 17 0))), (6, .int (enc (N 16 0))), (3, .int (enc (ti))), (2, .ref (qs 0)), (1, .ref (q 0)), (0, .ref (bs))]) X dL_law_1161 (by decide) rfl ?_
            refine tw_aload_n X dL_law_1163 10 rfl rfl ?_
            refine tw_iload X dL_law_1164 2 rfl ?_
            refine tw_callV X (As := [.int (enc ((i : Int)))]) (st := []) vw_L_100 (m_X4_wearOf (q := q) (hourM N) sN oN U sU oU A ((i : Int)) (by omega) (B + 26) hH (by omega)) ([(a1, arI cy ((N 16 0).toNat) fw)] ++ [(a2, arI cy ((N 16 0).toNat) fk)] ++ [(a3, arI cy ((N 16 0).toNat) fs)] ++ [(a4, arI cy ((N 16 0).toNat) fo)] ++ [(a5, arI cy ((N 17 0).toNat) fr)] ++ [(a6, arI cy ((N 17 0).toNat) ff)] ++ [(a7, arI cy ((N 17 0).toNat) fd)] ++ [(a8, arZ G ((N 17 0).toNat) fb)]) (wS G cy qs rr tt (hourM N) gw) (List.append_assoc _ _ _) rfl (q0 := 0) rfl rfl rfl ⟨rfl, rfl, Nat.le_of_ble_eq_true rfl, Nat.le_of_ble_eq_true rfl⟩ ⟨(show k + 0 ≤ 600104 by omega), (show n + 0 ≤ 7301314 by omega)⟩ (Nat.le_of_ble_eq_true rfl) dL_law_1166 (fun v w1 hp => ?_)
            obtain ⟨rfl, rfl⟩ := hp
            refine Teq (ws' := [(a1, arI cy ((N 16 0).toNat) fw)] ++ [(a2, arI cy ((N 16 0).toNat) fk)] ++ [(a3, arI cy ((N 16 0).toNat) fs)] ++ [(a4, arI cy ((N 16 0).toNat) fo)] ++ [(a5, arI cy ((N 17 0).toNat) fr)] ++ [(a6, arI cy ((N 17 0).toNat) ff)] ++ [(a7, arI cy ((N 17 0).toNat) fd)] ++ [(a8, arZ G ((N 17 0).toNat) fb)] ++ wD cy q (hourM N) sN oN U sU oU A ++ wS G cy qs rr tt (hourM N) gw) (lv' := [(28, .int (enc (1))), (27, .int (enc (1))), (26, .int (enc ((i : Int)))), (12, .ref (a1)), (13, .ref (a2)), (14, .ref (a3)), (7, .int (enc (N 17 0))), (6, .int (enc (N 16 0))), (3, .int (enc (ti))), (2, .ref (qs 0)), (1, .ref (q 0)), (0, .ref (bs))]) (st' := [.int (enc ((hourM N) 4 (i : Int)))]) (List.append_assoc _ _ _).symm rfl rfl ?_
            have b9 := hBh 4 (i : Int)
            refine tw_istore (lv' := [(29, .int (enc ((hourM N) 4 (i : Int)))), (28, .int (enc (1))), (27, .int (enc (1))), (26, .int (enc ((i : Int)))), (12, .ref (a1)), (13, .ref (a2)), (14, .ref (a3)), (7, .int (enc (N 17 0))), (6, .int (enc (N 16 0))), (3, .int (enc (ti))), (2, .ref (qs 0)), (1, .ref (q 0)), (0, .ref (bs))]) X dL_law_1169 (by decide) rfl ?_
            refine tw_aload_n X dL_law_1171 11 rfl rfl ?_
            refine tw_iload X dL_law_1172 3 rfl ?_
            refine tw_callV X (As := [.int (enc ((i : Int)))]) (st := []) vw_L_103 (m_X4_knotsOf (q := q) (hourM N) sN oN U sU oU A ((i : Int)) (by omega) (B + 26) hH (by omega)) ([(a1, arI cy ((N 16 0).toNat) fw)] ++ [(a2, arI cy ((N 16 0).toNat) fk)] ++ [(a3, arI cy ((N 16 0).toNat) fs)] ++ [(a4, arI cy ((N 16 0).toNat) fo)] ++ [(a5, arI cy ((N 17 0).toNat) fr)] ++ [(a6, arI cy ((N 17 0).toNat) ff)] ++ [(a7, arI cy ((N 17 0).toNat) fd)] ++ [(a8, arZ G ((N 17 0).toNat) fb)]) (wS G cy qs rr tt (hourM N) gw) (List.append_assoc _ _ _) rfl (q0 := 0) rfl rfl rfl ⟨rfl, rfl, Nat.le_of_ble_eq_true rfl, Nat.le_of_ble_eq_true rfl⟩ ⟨(show k + 0 ≤ 600104 by omega), (show n + 0 ≤ 7301314 by omega)⟩ (Nat.le_of_ble_eq_true rfl) dL_law_1174 (fun v w1 hp => ?_)
            obtain ⟨rfl, rfl⟩ := hp
            refine Teq (ws' := [(a1, arI cy ((N 16 0).toNat) fw)] ++ [(a2, arI cy ((N 16 0).toNat) fk)] ++ [(a3, arI cy ((N 16 0).toNat) fs)] ++ [(a4, arI cy ((N 16 0).toNat) fo)] ++ [(a5, arI cy ((N 17 0).toNat) fr)] ++ [(a6, arI cy ((N 17 0).toNat) ff)] ++ [(a7, arI cy ((N 17 0).toNat) fd)] ++ [(a8, arZ G ((N 17 0).toNat) fb)] ++ wD cy q (hourM N) sN oN U sU oU A ++ wS G cy qs rr tt (hourM N) gw) (lv' := [(29, .int (enc ((hourM N) 4 (i : Int)))), (28, .int (enc (1))), (27, .int (enc (1))), (26, .int (enc ((i : Int)))), (12, .ref (a1)), (13, .ref (a2)), (14, .ref (a3)), (7, .int (enc (N 17 0))), (6, .int (enc (N 16 0))), (3, .int (enc (ti))), (2, .ref (qs 0)), (1, .ref (q 0)), (0, .ref (bs))]) (st' := [.int (enc ((hourM N) 5 (i : Int)))]) (List.append_assoc _ _ _).symm rfl rfl ?_
            have b10 := hBh 5 (i : Int)
            refine tw_iload X dL_law_1177 2 rfl ?_
            refine tw_if_eq (tgt := 1196) X (In_of (by omega) (by omega)) dL_law_1179 (by decide) (fun c1179 => ?_) (fun c1179 => ?_)
            · exact absurd c1179 (by decide)
            · skip
              refine tw_iconst X dL_law_1182 ?_
              refine tw_aload X dL_law_1183 5 rfl ?_
              refine tw_iload X dL_law_1185 3 rfl ?_
              refine tw_iald X (N := (N 16 0).toNat) (f := fk) 1 rfl (by omega) (by omega) dL_law_1187 ?_
              refine tw_iconst X dL_law_1188 ?_
              refine tw_iadd (z := (fk (i : Int)) + 1) X dL_law_1189 rfl ?_
              refine tw_min (z := mn (3) (fk (i : Int) + 1)) X (In_of (by omega) (by omega)) (In_of (by omega) (by omega)) wl_L_142 wm_min_s wm_i wm_min_c (Nat.le_of_ble_eq_true rfl) (Nat.le_of_ble_eq_true rfl) ⟨(show k ≤ 600104 by omega), (show n ≤ 7301314 by omega)⟩ dL_law_1190 rfl ?_
              refine tw_goto (tgt := 1201) X dL_law_1193 (by decide) ?_
              refine tw_icmp_ne (tgt := 1238) X (In_of (by omega) (by omega)) (In_of (by omega) (by omega)) dL_law_1201 (by decide) (fun c1201 => ?_) (fun c1201 => ?_)
              · skip
                exact (show False by omega).elim
              · skip
                refine tw_iload X dL_law_1204 0 rfl ?_
                refine tw_iload X dL_law_1206 2 rfl ?_
                refine tw_if_eq (tgt := 1215) X (In_of (by omega) (by omega)) dL_law_1208 (by decide) (fun c1208 => ?_) (fun c1208 => ?_)
                · exact absurd c1208 (by decide)
                · skip
                  refine tw_iconst X dL_law_1211 ?_
                  refine tw_goto (tgt := 1220) X dL_law_1212 (by decide) ?_
                  refine tw_icmp_lt (tgt := 1238) X (In_of (by omega) (by omega)) (In_of (by omega) (by omega)) dL_law_1220 (by decide) (fun c1220 => ?_) (fun c1220 => ?_)
                  · skip
                    exact (show False by omega).elim
                  · skip
                    refine tw_iload X dL_law_1223 1 rfl ?_
                    refine tw_if_ne (tgt := 1240) X (In_of (by omega) (by omega)) dL_law_1225 (by decide) (fun c1225 => ?_) (fun c1225 => ?_)
                    · skip
                      refine tw_iload X dL_law_1240 1 rfl ?_
                      refine tw_if_eq (tgt := 1264) X (In_of (by omega) (by omega)) dL_law_1242 (by decide) (fun c1242 => ?_) (fun c1242 => ?_)
                      · exact absurd c1242 (by decide)
                      · skip
                        refine tw_iload X dL_law_1245 0 rfl ?_
                        refine tw_iconst X dL_law_1247 ?_
                        refine tw_icmp_lt (tgt := 1264) X (In_of (by omega) (by omega)) (In_of (by omega) (by omega)) dL_law_1248 (by decide) (fun c1248 => ?_) (fun c1248 => ?_)
                        · skip
                          refine tw_iconst X dL_law_1264 ?_
                          refine tw_istore (lv' := [(30, .int (enc (0))), (29, .int (enc ((hourM N) 4 (i : Int)))), (28, .int (enc (1))), (27, .int (enc (1))), (26, .int (enc ((i : Int)))), (12, .ref (a1)), (13, .ref (a2)), (14, .ref (a3)), (7, .int (enc (N 17 0))), (6, .int (enc (N 16 0))), (3, .int (enc (ti))), (2, .ref (qs 0)), (1, .ref (q 0)), (0, .ref (bs))]) X dL_law_1265 (by decide) rfl ?_
                          refine tw_aload_n X dL_law_1267 12 rfl rfl ?_
                          refine tw_iload X dL_law_1268 4 rfl ?_
                          refine tw_callV X (As := [.int (enc ((i : Int)))]) (st := []) vw_L_94 (m_X4_closedFor (q := q) (hourM N) sN oN U sU oU A ((i : Int)) (by omega) (B + 26) hH (by omega)) ([(a1, arI cy ((N 16 0).toNat) fw)] ++ [(a2, arI cy ((N 16 0).toNat) fk)] ++ [(a3, arI cy ((N 16 0).toNat) fs)] ++ [(a4, arI cy ((N 16 0).toNat) fo)] ++ [(a5, arI cy ((N 17 0).toNat) fr)] ++ [(a6, arI cy ((N 17 0).toNat) ff)] ++ [(a7, arI cy ((N 17 0).toNat) fd)] ++ [(a8, arZ G ((N 17 0).toNat) fb)]) (wS G cy qs rr tt (hourM N) gw) (List.append_assoc _ _ _) rfl (q0 := 0) rfl rfl rfl ⟨rfl, rfl, Nat.le_of_ble_eq_true rfl, Nat.le_of_ble_eq_true rfl⟩ ⟨(show k + 0 ≤ 600104 by omega), (show n + 0 ≤ 7301314 by omega)⟩ (Nat.le_of_ble_eq_true rfl) dL_law_1270 (fun v w1 hp => ?_)
                          obtain ⟨rfl, rfl⟩ := hp
                          refine Teq (ws' := [(a1, arI cy ((N 16 0).toNat) fw)] ++ [(a2, arI cy ((N 16 0).toNat) fk)] ++ [(a3, arI cy ((N 16 0).toNat) fs)] ++ [(a4, arI cy ((N 16 0).toNat) fo)] ++ [(a5, arI cy ((N 17 0).toNat) fr)] ++ [(a6, arI cy ((N 17 0).toNat) ff)] ++ [(a7, arI cy ((N 17 0).toNat) fd)] ++ [(a8, arZ G ((N 17 0).toNat) fb)] ++ wD cy q (hourM N) sN oN U sU oU A ++ wS G cy qs rr tt (hourM N) gw) (lv' := [(30, .int (enc (0))), (29, .int (enc ((hourM N) 4 (i : Int)))), (28, .int (enc (1))), (27, .int (enc (1))), (26, .int (enc ((i : Int)))), (12, .ref (a1)), (13, .ref (a2)), (14, .ref (a3)), (7, .int (enc (N 17 0))), (6, .int (enc (N 16 0))), (3, .int (enc (ti))), (2, .ref (qs 0)), (1, .ref (q 0)), (0, .ref (bs))]) (st' := [.int (enc ((hourM N) 6 (i : Int)))]) (List.append_assoc _ _ _).symm rfl rfl ?_
                          have b11 := hBh 6 (i : Int)
                          refine tw_iload X dL_law_1273 0 rfl ?_
                          refine tw_if_eq (tgt := 1282) X (In_of (by omega) (by omega)) dL_law_1275 (by decide) (fun c1275 => ?_) (fun c1275 => ?_)
                          · skip
                            refine tw_iload X dL_law_1282 2 rfl ?_
                            refine tw_if_eq (tgt := 1291) X (In_of (by omega) (by omega)) dL_law_1284 (by decide) (fun c1284 => ?_) (fun c1284 => ?_)
                            · exact absurd c1284 (by decide)
                            · skip
                              refine tw_iconst X dL_law_1287 ?_
                              refine tw_goto (tgt := 1298) X dL_law_1288 (by decide) ?_
                              refine tw_icmp_eq (tgt := 1303) X (In_of (by omega) (by omega)) (In_of (by omega) (by omega)) dL_law_1298 (by decide) (fun c1298 => ?_) (fun c1298 => ?_)
                              · skip
                                refine tw_iinc (q := 4) (x := (i : Int)) (y := (i : Int) + 1) (lv' := [(26, .int (enc ((i : Int) + 1))), (30, .int (enc (0))), (29, .int (enc ((hourM N) 4 (i : Int)))), (28, .int (enc (1))), (27, .int (enc (1))), (12, .ref (a1)), (13, .ref (a2)), (14, .ref (a3)), (7, .int (enc (N 17 0))), (6, .int (enc (N 16 0))), (3, .int (enc (ti))), (2, .ref (qs 0)), (1, .ref (q 0)), (0, .ref (bs))]) X dL_law_1303 rfl rfl (by decide) rfl ?_
                                refine tw_goto (tgt := 1124) X dL_law_1306 (by decide) ?_
                                refine Tsub (lv' := [(26, .int (enc ((i : Int) + 1))), (12, .ref (a1)), (13, .ref (a2)), (14, .ref (a3)), (7, .int (enc (N 17 0))), (6, .int (enc (N 16 0))), (3, .int (enc (ti))), (2, .ref (qs 0)), (1, .ref (q 0)), (0, .ref (bs))]) [0, 5, 6, 7, 8, 9, 10, 11, 12, 13] rfl ?_
                                refine Teq (ws' := [(a1, arI cy ((N 16 0).toNat) fw)] ++ [(a2, arI cy ((N 16 0).toNat) fk)] ++ [(a3, arI cy ((N 16 0).toNat) fs)] ++ [(a4, arI cy ((N 16 0).toNat) fo)] ++ [(a5, arI cy ((N 17 0).toNat) fr)] ++ [(a6, arI cy ((N 17 0).toNat) ff)] ++ [(a7, arI cy ((N 17 0).toNat) fd)] ++ [(a8, arZ G ((N 17 0).toNat) fb)] ++ wD cy q (hourM N) sN oN U sU oU A ++ wS G cy qs rr tt (hourM N) gw) (lv' := [(26, .int (enc (((i + 1 : Nat) : Int)))), (12, .ref (a1)), (13, .ref (a2)), (14, .ref (a3)), (7, .int (enc (N 17 0))), (6, .int (enc (N 16 0))), (3, .int (enc (ti))), (2, .ref (qs 0)), (1, .ref (q 0)), (0, .ref (bs))]) (st' := []) (rfl) (lvc (i_succ i) (lvk (lvk (lvk (lvk (lvk (lvk (lvk (lvk (lvk (rfl))))))))))) rfl (ih1124 (i + 1) (by omega) (by omega))
                              · skip
                                exact (show False by omega).elim
                          · exact absurd c1275 (by decide)
                        · skip
                          refine tw_aload_n X dL_law_1251 11 rfl rfl ?_
                          refine tw_iload X dL_law_1252 3 rfl ?_
                          refine tw_callV X (As := [.int (enc ((i : Int)))]) (st := []) vw_L_125 (m_X4_touristsOn (q := q) (hourM N) sN oN U sU oU A ((i : Int)) (by omega) (B + 26) hH (by omega)) ([(a1, arI cy ((N 16 0).toNat) fw)] ++ [(a2, arI cy ((N 16 0).toNat) fk)] ++ [(a3, arI cy ((N 16 0).toNat) fs)] ++ [(a4, arI cy ((N 16 0).toNat) fo)] ++ [(a5, arI cy ((N 17 0).toNat) fr)] ++ [(a6, arI cy ((N 17 0).toNat) ff)] ++ [(a7, arI cy ((N 17 0).toNat) fd)] ++ [(a8, arZ G ((N 17 0).toNat) fb)]) (wS G cy qs rr tt (hourM N) gw) (List.append_assoc _ _ _) rfl (q0 := 0) rfl rfl rfl ⟨rfl, rfl, Nat.le_of_ble_eq_true rfl, Nat.le_of_ble_eq_true rfl⟩ ⟨(show k + 0 ≤ 600104 by omega), (show n + 0 ≤ 7301314 by omega)⟩ (Nat.le_of_ble_eq_true rfl) dL_law_1254 (fun v w1 hp => ?_)
                          obtain ⟨rfl, rfl⟩ := hp
                          refine Teq (ws' := [(a1, arI cy ((N 16 0).toNat) fw)] ++ [(a2, arI cy ((N 16 0).toNat) fk)] ++ [(a3, arI cy ((N 16 0).toNat) fs)] ++ [(a4, arI cy ((N 16 0).toNat) fo)] ++ [(a5, arI cy ((N 17 0).toNat) fr)] ++ [(a6, arI cy ((N 17 0).toNat) ff)] ++ [(a7, arI cy ((N 17 0).toNat) fd)] ++ [(a8, arZ G ((N 17 0).toNat) fb)] ++ wD cy q (hourM N) sN oN U sU oU A ++ wS G cy qs rr tt (hourM N) gw) (lv' := [(29, .int (enc ((hourM N) 4 (i : Int)))), (28, .int (enc (1))), (27, .int (enc (1))), (26, .int (enc ((i : Int)))), (12, .ref (a1)), (13, .ref (a2)), (14, .ref (a3)), (7, .int (enc (N 17 0))), (6, .int (enc (N 16 0))), (3, .int (enc (ti))), (2, .ref (qs 0)), (1, .ref (q 0)), (0, .ref (bs))]) (st' := [.int (enc (onR (hourM N) (i : Int) ((hourM N) 17 0).toNat))]) (List.append_assoc _ _ _).symm rfl rfl ?_
                          refine tw_if_ne (tgt := 1264) X (In_of (by omega) (by omega)) dL_law_1257 (by decide) (fun c1257 => ?_) (fun c1257 => ?_)
                          · skip
                            refine tw_iconst X dL_law_1264 ?_
                            refine tw_istore (lv' := [(30, .int (enc (0))), (29, .int (enc ((hourM N) 4 (i : Int)))), (28, .int (enc (1))), (27, .int (enc (1))), (26, .int (enc ((i : Int)))), (12, .ref (a1)), (13, .ref (a2)), (14, .ref (a3)), (7, .int (enc (N 17 0))), (6, .int (enc (N 16 0))), (3, .int (enc (ti))), (2, .ref (qs 0)), (1, .ref (q 0)), (0, .ref (bs))]) X dL_law_1265 (by decide) rfl ?_
                            refine tw_aload_n X dL_law_1267 12 rfl rfl ?_
                            refine tw_iload X dL_law_1268 4 rfl ?_
                            refine tw_callV X (As := [.int (enc ((i : Int)))]) (st := []) vw_L_94 (m_X4_closedFor (q := q) (hourM N) sN oN U sU oU A ((i : Int)) (by omega) (B + 26) hH (by omega)) ([(a1, arI cy ((N 16 0).toNat) fw)] ++ [(a2, arI cy ((N 16 0).toNat) fk)] ++ [(a3, arI cy ((N 16 0).toNat) fs)] ++ [(a4, arI cy ((N 16 0).toNat) fo)] ++ [(a5, arI cy ((N 17 0).toNat) fr)] ++ [(a6, arI cy ((N 17 0).toNat) ff)] ++ [(a7, arI cy ((N 17 0).toNat) fd)] ++ [(a8, arZ G ((N 17 0).toNat) fb)]) (wS G cy qs rr tt (hourM N) gw) (List.append_assoc _ _ _) rfl (q0 := 0) rfl rfl rfl ⟨rfl, rfl, Nat.le_of_ble_eq_true rfl, Nat.le_of_ble_eq_true rfl⟩ ⟨(show k + 0 ≤ 600104 by omega), (show n + 0 ≤ 7301314 by omega)⟩ (Nat.le_of_ble_eq_true rfl) dL_law_1270 (fun v w1 hp => ?_)
                            obtain ⟨rfl, rfl⟩ := hp
                            refine Teq (ws' := [(a1, arI cy ((N 16 0).toNat) fw)] ++ [(a2, arI cy ((N 16 0).toNat) fk)] ++ [(a3, arI cy ((N 16 0).toNat) fs)] ++ [(a4, arI cy ((N 16 0).toNat) fo)] ++ [(a5, arI cy ((N 17 0).toNat) fr)] ++ [(a6, arI cy ((N 17 0).toNat) ff)] ++ [(a7, arI cy ((N 17 0).toNat) fd)] ++ [(a8, arZ G ((N 17 0).toNat) fb)] ++ wD cy q (hourM N) sN oN U sU oU A ++ wS G cy qs rr tt (hourM N) gw) (lv' := [(30, .int (enc (0))), (29, .int (enc ((hourM N) 4 (i : Int)))), (28, .int (enc (1))), (27, .int (enc (1))), (26, .int (enc ((i : Int)))), (12, .ref (a1)), (13, .ref (a2)), (14, .ref (a3)), (7, .int (enc (N 17 0))), (6, .int (enc (N 16 0))), (3, .int (enc (ti))), (2, .ref (qs 0)), (1, .ref (q 0)), (0, .ref (bs))]) (st' := [.int (enc ((hourM N) 6 (i : Int)))]) (List.append_assoc _ _ _).symm rfl rfl ?_
                            have b12 := hBh 6 (i : Int)
                            refine tw_iload X dL_law_1273 0 rfl ?_
                            refine tw_if_eq (tgt := 1282) X (In_of (by omega) (by omega)) dL_law_1275 (by decide) (fun c1275 => ?_) (fun c1275 => ?_)
                            · skip
                              refine tw_iload X dL_law_1282 2 rfl ?_
                              refine tw_if_eq (tgt := 1291) X (In_of (by omega) (by omega)) dL_law_1284 (by decide) (fun c1284 => ?_) (fun c1284 => ?_)
                              · exact absurd c1284 (by decide)
                              · skip
                                refine tw_iconst X dL_law_1287 ?_
                                refine tw_goto (tgt := 1298) X dL_law_1288 (by decide) ?_
                                refine tw_icmp_eq (tgt := 1303) X (In_of (by omega) (by omega)) (In_of (by omega) (by omega)) dL_law_1298 (by decide) (fun c1298 => ?_) (fun c1298 => ?_)
                                · skip
                                  refine tw_iinc (q := 4) (x := (i : Int)) (y := (i : Int) + 1) (lv' := [(26, .int (enc ((i : Int) + 1))), (30, .int (enc (0))), (29, .int (enc ((hourM N) 4 (i : Int)))), (28, .int (enc (1))), (27, .int (enc (1))), (12, .ref (a1)), (13, .ref (a2)), (14, .ref (a3)), (7, .int (enc (N 17 0))), (6, .int (enc (N 16 0))), (3, .int (enc (ti))), (2, .ref (qs 0)), (1, .ref (q 0)), (0, .ref (bs))]) X dL_law_1303 rfl rfl (by decide) rfl ?_
                                  refine tw_goto (tgt := 1124) X dL_law_1306 (by decide) ?_
                                  refine Tsub (lv' := [(26, .int (enc ((i : Int) + 1))), (12, .ref (a1)), (13, .ref (a2)), (14, .ref (a3)), (7, .int (enc (N 17 0))), (6, .int (enc (N 16 0))), (3, .int (enc (ti))), (2, .ref (qs 0)), (1, .ref (q 0)), (0, .ref (bs))]) [0, 5, 6, 7, 8, 9, 10, 11, 12, 13] rfl ?_
                                  refine Teq (ws' := [(a1, arI cy ((N 16 0).toNat) fw)] ++ [(a2, arI cy ((N 16 0).toNat) fk)] ++ [(a3, arI cy ((N 16 0).toNat) fs)] ++ [(a4, arI cy ((N 16 0).toNat) fo)] ++ [(a5, arI cy ((N 17 0).toNat) fr)] ++ [(a6, arI cy ((N 17 0).toNat) ff)] ++ [(a7, arI cy ((N 17 0).toNat) fd)] ++ [(a8, arZ G ((N 17 0).toNat) fb)] ++ wD cy q (hourM N) sN oN U sU oU A ++ wS G cy qs rr tt (hourM N) gw) (lv' := [(26, .int (enc (((i + 1 : Nat) : Int)))), (12, .ref (a1)), (13, .ref (a2)), (14, .ref (a3)), (7, .int (enc (N 17 0))), (6, .int (enc (N 16 0))), (3, .int (enc (ti))), (2, .ref (qs 0)), (1, .ref (q 0)), (0, .ref (bs))]) (st' := []) (rfl) (lvc (i_succ i) (lvk (lvk (lvk (lvk (lvk (lvk (lvk (lvk (lvk (rfl))))))))))) rfl (ih1124 (i + 1) (by omega) (by omega))
                                · skip
                                  exact (show False by omega).elim
                            · exact absurd c1275 (by decide)
                          · skip
                            refine tw_iconst X dL_law_1260 ?_
                            refine tw_goto (tgt := 1265) X dL_law_1261 (by decide) ?_
                            refine tw_istore (lv' := [(30, .int (enc (1))), (29, .int (enc ((hourM N) 4 (i : Int)))), (28, .int (enc (1))), (27, .int (enc (1))), (26, .int (enc ((i : Int)))), (12, .ref (a1)), (13, .ref (a2)), (14, .ref (a3)), (7, .int (enc (N 17 0))), (6, .int (enc (N 16 0))), (3, .int (enc (ti))), (2, .ref (qs 0)), (1, .ref (q 0)), (0, .ref (bs))]) X dL_law_1265 (by decide) rfl ?_
                            refine tw_aload_n X dL_law_1267 12 rfl rfl ?_
                            refine tw_iload X dL_law_1268 4 rfl ?_
                            refine tw_callV X (As := [.int (enc ((i : Int)))]) (st := []) vw_L_94 (m_X4_closedFor (q := q) (hourM N) sN oN U sU oU A ((i : Int)) (by omega) (B + 26) hH (by omega)) ([(a1, arI cy ((N 16 0).toNat) fw)] ++ [(a2, arI cy ((N 16 0).toNat) fk)] ++ [(a3, arI cy ((N 16 0).toNat) fs)] ++ [(a4, arI cy ((N 16 0).toNat) fo)] ++ [(a5, arI cy ((N 17 0).toNat) fr)] ++ [(a6, arI cy ((N 17 0).toNat) ff)] ++ [(a7, arI cy ((N 17 0).toNat) fd)] ++ [(a8, arZ G ((N 17 0).toNat) fb)]) (wS G cy qs rr tt (hourM N) gw) (List.append_assoc _ _ _) rfl (q0 := 0) rfl rfl rfl ⟨rfl, rfl, Nat.le_of_ble_eq_true rfl, Nat.le_of_ble_eq_true rfl⟩ ⟨(show k + 0 ≤ 600104 by omega), (show n + 0 ≤ 7301314 by omega)⟩ (Nat.le_of_ble_eq_true rfl) dL_law_1270 (fun v w1 hp => ?_)
                            obtain ⟨rfl, rfl⟩ := hp
                            refine Teq (ws' := [(a1, arI cy ((N 16 0).toNat) fw)] ++ [(a2, arI cy ((N 16 0).toNat) fk)] ++ [(a3, arI cy ((N 16 0).toNat) fs)] ++ [(a4, arI cy ((N 16 0).toNat) fo)] ++ [(a5, arI cy ((N 17 0).toNat) fr)] ++ [(a6, arI cy ((N 17 0).toNat) ff)] ++ [(a7, arI cy ((N 17 0).toNat) fd)] ++ [(a8, arZ G ((N 17 0).toNat) fb)] ++ wD cy q (hourM N) sN oN U sU oU A ++ wS G cy qs rr tt (hourM N) gw) (lv' := [(30, .int (enc (1))), (29, .int (enc ((hourM N) 4 (i : Int)))), (28, .int (enc (1))), (27, .int (enc (1))), (26, .int (enc ((i : Int)))), (12, .ref (a1)), (13, .ref (a2)), (14, .ref (a3)), (7, .int (enc (N 17 0))), (6, .int (enc (N 16 0))), (3, .int (enc (ti))), (2, .ref (qs 0)), (1, .ref (q 0)), (0, .ref (bs))]) (st' := [.int (enc ((hourM N) 6 (i : Int)))]) (List.append_assoc _ _ _).symm rfl rfl ?_
                            have b13 := hBh 6 (i : Int)
                            refine tw_iload X dL_law_1273 0 rfl ?_
                            refine tw_if_eq (tgt := 1282) X (In_of (by omega) (by omega)) dL_law_1275 (by decide) (fun c1275 => ?_) (fun c1275 => ?_)
                            · exact absurd c1275 (by decide)
                            · skip
                              refine tw_iconst X dL_law_1278 ?_
                              refine tw_goto (tgt := 1298) X dL_law_1279 (by decide) ?_
                              refine tw_icmp_eq (tgt := 1303) X (In_of (by omega) (by omega)) (In_of (by omega) (by omega)) dL_law_1298 (by decide) (fun c1298 => ?_) (fun c1298 => ?_)
                              · skip
                                refine tw_iinc (q := 4) (x := (i : Int)) (y := (i : Int) + 1) (lv' := [(26, .int (enc ((i : Int) + 1))), (30, .int (enc (1))), (29, .int (enc ((hourM N) 4 (i : Int)))), (28, .int (enc (1))), (27, .int (enc (1))), (12, .ref (a1)), (13, .ref (a2)), (14, .ref (a3)), (7, .int (enc (N 17 0))), (6, .int (enc (N 16 0))), (3, .int (enc (ti))), (2, .ref (qs 0)), (1, .ref (q 0)), (0, .ref (bs))]) X dL_law_1303 rfl rfl (by decide) rfl ?_
                                refine tw_goto (tgt := 1124) X dL_law_1306 (by decide) ?_
                                refine Tsub (lv' := [(26, .int (enc ((i : Int) + 1))), (12, .ref (a1)), (13, .ref (a2)), (14, .ref (a3)), (7, .int (enc (N 17 0))), (6, .int (enc (N 16 0))), (3, .int (enc (ti))), (2, .ref (qs 0)), (1, .ref (q 0)), (0, .ref (bs))]) [0, 5, 6, 7, 8, 9, 10, 11, 12, 13] rfl ?_
                                refine Teq (ws' := [(a1, arI cy ((N 16 0).toNat) fw)] ++ [(a2, arI cy ((N 16 0).toNat) fk)] ++ [(a3, arI cy ((N 16 0).toNat) fs)] ++ [(a4, arI cy ((N 16 0).toNat) fo)] ++ [(a5, arI cy ((N 17 0).toNat) fr)] ++ [(a6, arI cy ((N 17 0).toNat) ff)] ++ [(a7, arI cy ((N 17 0).toNat) fd)] ++ [(a8, arZ G ((N 17 0).toNat) fb)] ++ wD cy q (hourM N) sN oN U sU oU A ++ wS G cy qs rr tt (hourM N) gw) (lv' := [(26, .int (enc (((i + 1 : Nat) : Int)))), (12, .ref (a1)), (13, .ref (a2)), (14, .ref (a3)), (7, .int (enc (N 17 0))), (6, .int (enc (N 16 0))), (3, .int (enc (ti))), (2, .ref (qs 0)), (1, .ref (q 0)), (0, .ref (bs))]) (st' := []) (rfl) (lvc (i_succ i) (lvk (lvk (lvk (lvk (lvk (lvk (lvk (lvk (lvk (rfl))))))))))) rfl (ih1124 (i + 1) (by omega) (by omega))
                              · skip
                                exact (show False by omega).elim
                    · exact absurd c1225 (by decide)
  refine Teq (ws' := [(a1, arI cy ((N 16 0).toNat) fw)] ++ [(a2, arI cy ((N 16 0).toNat) fk)] ++ [(a3, arI cy ((N 16 0).toNat) fs)] ++ [(a4, arI cy ((N 16 0).toNat) fo)] ++ [(a5, arI cy ((N 17 0).toNat) fr)] ++ [(a6, arI cy ((N 17 0).toNat) ff)] ++ [(a7, arI cy ((N 17 0).toNat) fd)] ++ [(a8, arZ G ((N 17 0).toNat) fb)] ++ wD cy q (hourM N) sN oN U sU oU A ++ wS G cy qs rr tt (hourM N) gw) (lv' := [(26, .int (enc (((0 : Nat) : Int)))), (12, .ref (a1)), (13, .ref (a2)), (14, .ref (a3)), (7, .int (enc (N 17 0))), (6, .int (enc (N 16 0))), (3, .int (enc (ti))), (2, .ref (qs 0)), (1, .ref (q 0)), (0, .ref (bs))]) (st' := []) (rfl) (rfl) rfl (L1124 (N 16 0 + 1).toNat 0 (by omega) (by omega))
