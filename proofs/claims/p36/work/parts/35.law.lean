/-! THE LAW: the tourists, and what is told of all -/
def frN (N : MT) (t : Int) : Int := frayAt N t (N 20 0)
def inN (N : MT) (t : Int) : Int := if 0 ≤ N 15 t then 1 else 0
set_option maxRecDepth 100000 in
set_option maxHeartbeats 4000000 in
theorem law_s3 {G : va_G} {cy : ClassId} {c : Cx} (X : Ok G cy c cL_law RL 31 room_1) {q qs rr tt : Nat → Nat} (N : MT) (sN : Int → Int) (oN : Int) (U : MT) (sU : Int → Int) (oU : Int) (A : Int → Int) (g : Int → Int) (bs : Nat) (ti B : Int) (hI : INV N g B) (hB2 : B ≤ 500000) (hV : WVo N sN oN) (k n : Nat) (a1 a2 a3 a4 : Nat) (fw fk fs : Int → Int) (hk : k + 4 ≤ 600104) (hn : n + 48 ≤ 7301314) (kk : ∀ (a5 a6 a7 a8 : Nat) (fr ff fd fb fo : Int → Int), (∀ r : Int, 0 ≤ r → r < N 17 0 → fr r = N 8 r) → (∀ r : Int, 0 ≤ r → r < N 17 0 → ff r = frN N r) → (∀ r : Int, 0 ≤ r → r < N 17 0 → fd r = N 12 r) → (∀ r : Int, 0 ≤ r → r < N 17 0 → fb r = inN N r) → (∀ r : Int, 0 ≤ r → r < N 16 0 → fo r = onR N r (N 17 0).toNat) → T G c room_1 31 (k + 1 + 1 + 1 + 1) (n + 12 + 12 + 12 + 12) ([(a1, arI cy ((N 16 0).toNat) fw)] ++ [(a2, arI cy ((N 16 0).toNat) fk)] ++ [(a3, arI cy ((N 16 0).toNat) fs)] ++ [(a4, arI cy ((N 16 0).toNat) fo)] ++ [(a5, arI cy ((N 17 0).toNat) fr)] ++ [(a6, arI cy ((N 17 0).toNat) ff)] ++ [(a7, arI cy ((N 17 0).toNat) fd)] ++ [(a8, arZ G ((N 17 0).toNat) fb)] ++ wD cy q N sN oN U sU oU A ++ wS G cy qs rr tt N g) 842 [(22, .int (enc (frI N (N 17 0).toNat))), (21, .int (enc (cntIn N (N 17 0).toNat))), (17, .ref (a5)), (18, .ref (a6)), (19, .ref (a7)), (20, .ref (a8)), (16, .int (enc (cntC N (N 16 0).toNat))), (12, .ref (a1)), (13, .ref (a2)), (14, .ref (a3)), (15, .ref (a4)), (7, .int (enc (N 17 0))), (6, .int (enc (N 16 0))), (3, .int (enc (ti))), (2, .ref (qs 0)), (1, .ref (q 0)), (0, .ref (bs))] []) : T G c room_1 31 k n ([(a1, arI cy ((N 16 0).toNat) fw)] ++ [(a2, arI cy ((N 16 0).toNat) fk)] ++ [(a3, arI cy ((N 16 0).toNat) fs)] ++ [(a4, arI cy ((N 16 0).toNat) (fun _ => 0))] ++ wD cy q N sN oN U sU oU A ++ wS G cy qs rr tt N g) 619 [(16, .int (enc (cntC N (N 16 0).toNat))), (12, .ref (a1)), (13, .ref (a2)), (14, .ref (a3)), (15, .ref (a4)), (7, .int (enc (N 17 0))), (6, .int (enc (N 16 0))), (3, .int (enc (ti))), (2, .ref (qs 0)), (1, .ref (q 0)), (0, .ref (bs))] [] := by
  have hF := hI.1
  have hB := hF.bd (by omega)
  obtain ⟨w0, w1, w2, w3, w4⟩ := hF.r
  have h17 := hF.2.2.2.2.2.1
  have h172 := hF.2.2.2.2.2.2.1
  have h20 := hF.2.2.2.2.2.2.2.1
  refine tw_iload X dL_law_619 5 rfl ?_
  refine tw_newa X (N := (N 17 0).toNat) (by omega) (by omega) (show k + 1 ≤ 600104 by omega) (show n + (N 17 0).toNat ≤ 7301314 by omega) dL_law_621 (fun a5 => ?_)
  refine Tnew2 ([(a1, arI cy ((N 16 0).toNat) fw)] ++ [(a2, arI cy ((N 16 0).toNat) fk)] ++ [(a3, arI cy ((N 16 0).toNat) fs)] ++ [(a4, arI cy ((N 16 0).toNat) (fun _ => 0))]) (wD cy q N sN oN U sU oU A) (wS G cy qs rr tt N g) ([(a5, arI cy ((N 17 0).toNat) (fun _ => 0))]) (ws' := [(a1, arI cy ((N 16 0).toNat) fw)] ++ [(a2, arI cy ((N 16 0).toNat) fk)] ++ [(a3, arI cy ((N 16 0).toNat) fs)] ++ [(a4, arI cy ((N 16 0).toNat) (fun _ => 0))] ++ [(a5, arI cy ((N 17 0).toNat) (fun _ => 0))] ++ wD cy q N sN oN U sU oU A ++ wS G cy qs rr tt N g) rfl rfl ?_
  refine Twiden (k' := k + 1) (n' := n + 12) (by omega) (by omega) ?_
  refine tw_astore (lv' := [(17, .ref (a5)), (16, .int (enc (cntC N (N 16 0).toNat))), (12, .ref (a1)), (13, .ref (a2)), (14, .ref (a3)), (15, .ref (a4)), (7, .int (enc (N 17 0))), (6, .int (enc (N 16 0))), (3, .int (enc (ti))), (2, .ref (qs 0)), (1, .ref (q 0)), (0, .ref (bs))]) X dL_law_623 (by decide) rfl ?_
  refine tw_iload X dL_law_625 6 rfl ?_
  refine tw_newa X (N := (N 17 0).toNat) (by omega) (by omega) (show k + 1 + 1 ≤ 600104 by omega) (show n + 12 + (N 17 0).toNat ≤ 7301314 by omega) dL_law_627 (fun a6 => ?_)
  refine Tnew2 ([(a1, arI cy ((N 16 0).toNat) fw)] ++ [(a2, arI cy ((N 16 0).toNat) fk)] ++ [(a3, arI cy ((N 16 0).toNat) fs)] ++ [(a4, arI cy ((N 16 0).toNat) (fun _ => 0))] ++ [(a5, arI cy ((N 17 0).toNat) (fun _ => 0))]) (wD cy q N sN oN U sU oU A) (wS G cy qs rr tt N g) ([(a6, arI cy ((N 17 0).toNat) (fun _ => 0))]) (ws' := [(a1, arI cy ((N 16 0).toNat) fw)] ++ [(a2, arI cy ((N 16 0).toNat) fk)] ++ [(a3, arI cy ((N 16 0).toNat) fs)] ++ [(a4, arI cy ((N 16 0).toNat) (fun _ => 0))] ++ [(a5, arI cy ((N 17 0).toNat) (fun _ => 0))] ++ [(a6, arI cy ((N 17 0).toNat) (fun _ => 0))] ++ wD cy q N sN oN U sU oU A ++ wS G cy qs rr tt N g) rfl rfl ?_
  refine Twiden (k' := k + 1 + 1) (n' := n + 12 + 12) (by omega) (by omega) ?_
  refine tw_astore (lv' := [(18, .ref (a6)), (17, .ref (a5)), (16, .int (enc (cntC N (N 16 0).toNat))), (12, .ref (a1)), (13, .ref (a2)), (14, .ref (a3)), (15, .ref (a4)), (7, .int (enc (N 17 0))), (6, .int (enc (N 16 0))), (3, .int (enc (ti))), (2, .ref (qs 0)), (1, .ref (q 0)), (0, .ref (bs))]) X dL_law_629 (by decide) rfl ?_
  refine tw_iload X dL_law_631 7 rfl ?_
  refine tw_newa X (N := (N 17 0).toNat) (by omega) (by omega) (show k + 1 + 1 + 1 ≤ 600104 by omega) (show n + 12 + 12 + (N 17 0).toNat ≤ 7301314 by omega) dL_law_633 (fun a7 => ?_)
  refine Tnew2 ([(a1, arI cy ((N 16 0).toNat) fw)] ++ [(a2, arI cy ((N 16 0).toNat) fk)] ++ [(a3, arI cy ((N 16 0).toNat) fs)] ++ [(a4, arI cy ((N 16 0).toNat) (fun _ => 0))] ++ [(a5, arI cy ((N 17 0).toNat) (fun _ => 0))] ++ [(a6, arI cy ((N 17 0).toNat) (fun _ => 0))]) (wD cy q N sN oN U sU oU A) (wS G cy qs rr tt N g) ([(a7, arI cy ((N 17 0).toNat) (fun _ => 0))]) (ws' := [(a1, arI cy ((N 16 0).toNat) fw)] ++ [(a2, arI cy ((N 16 0).toNat) fk)] ++ [(a3, arI cy ((N 16 0).toNat) fs)] ++ [(a4, arI cy ((N 16 0).toNat) (fun _ => 0))] ++ [(a5, arI cy ((N 17 0).toNat) (fun _ => 0))] ++ [(a6, arI cy ((N 17 0).toNat) (fun _ => 0))] ++ [(a7, arI cy ((N 17 0).toNat) (fun _ => 0))] ++ wD cy q N sN oN U sU oU A ++ wS G cy qs rr tt N g) rfl rfl ?_
  refine Twiden (k' := k + 1 + 1 + 1) (n' := n + 12 + 12 + 12) (by omega) (by omega) ?_
  refine tw_astore (lv' := [(19, .ref (a7)), (18, .ref (a6)), (17, .ref (a5)), (16, .int (enc (cntC N (N 16 0).toNat))), (12, .ref (a1)), (13, .ref (a2)), (14, .ref (a3)), (15, .ref (a4)), (7, .int (enc (N 17 0))), (6, .int (enc (N 16 0))), (3, .int (enc (ti))), (2, .ref (qs 0)), (1, .ref (q 0)), (0, .ref (bs))]) X dL_law_635 (by decide) rfl ?_
  refine tw_iload X dL_law_637 8 rfl ?_
  refine tw_newz X (N := (N 17 0).toNat) (by omega) (by omega) (show k + 1 + 1 + 1 + 1 ≤ 600104 by omega) (show n + 12 + 12 + 12 + (N 17 0).toNat ≤ 7301314 by omega) dL_law_639 (fun a8 => ?_)
  refine Tnew2 ([(a1, arI cy ((N 16 0).toNat) fw)] ++ [(a2, arI cy ((N 16 0).toNat) fk)] ++ [(a3, arI cy ((N 16 0).toNat) fs)] ++ [(a4, arI cy ((N 16 0).toNat) (fun _ => 0))] ++ [(a5, arI cy ((N 17 0).toNat) (fun _ => 0))] ++ [(a6, arI cy ((N 17 0).toNat) (fun _ => 0))] ++ [(a7, arI cy ((N 17 0).toNat) (fun _ => 0))]) (wD cy q N sN oN U sU oU A) (wS G cy qs rr tt N g) ([(a8, arZ G ((N 17 0).toNat) (fun _ => 0))]) (ws' := [(a1, arI cy ((N 16 0).toNat) fw)] ++ [(a2, arI cy ((N 16 0).toNat) fk)] ++ [(a3, arI cy ((N 16 0).toNat) fs)] ++ [(a4, arI cy ((N 16 0).toNat) (fun _ => 0))] ++ [(a5, arI cy ((N 17 0).toNat) (fun _ => 0))] ++ [(a6, arI cy ((N 17 0).toNat) (fun _ => 0))] ++ [(a7, arI cy ((N 17 0).toNat) (fun _ => 0))] ++ [(a8, arZ G ((N 17 0).toNat) (fun _ => 0))] ++ wD cy q N sN oN U sU oU A ++ wS G cy qs rr tt N g) rfl rfl ?_
  refine Twiden (k' := k + 1 + 1 + 1 + 1) (n' := n + 12 + 12 + 12 + 12) (by omega) (by omega) ?_
  refine tw_astore (lv' := [(20, .ref (a8)), (19, .ref (a7)), (18, .ref (a6)), (17, .ref (a5)), (16, .int (enc (cntC N (N 16 0).toNat))), (12, .ref (a1)), (13, .ref (a2)), (14, .ref (a3)), (15, .ref (a4)), (7, .int (enc (N 17 0))), (6, .int (enc (N 16 0))), (3, .int (enc (ti))), (2, .ref (qs 0)), (1, .ref (q 0)), (0, .ref (bs))]) X dL_law_641 (by decide) rfl ?_
  refine tw_iconst X dL_law_643 ?_
  refine tw_istore (lv' := [(21, .int (enc (0))), (20, .ref (a8)), (19, .ref (a7)), (18, .ref (a6)), (17, .ref (a5)), (16, .int (enc (cntC N (N 16 0).toNat))), (12, .ref (a1)), (13, .ref (a2)), (14, .ref (a3)), (15, .ref (a4)), (7, .int (enc (N 17 0))), (6, .int (enc (N 16 0))), (3, .int (enc (ti))), (2, .ref (qs 0)), (1, .ref (q 0)), (0, .ref (bs))]) X dL_law_644 (by decide) rfl ?_
  refine tw_iconst X dL_law_646 ?_
  refine tw_istore (lv' := [(22, .int (enc (0))), (21, .int (enc (0))), (20, .ref (a8)), (19, .ref (a7)), (18, .ref (a6)), (17, .ref (a5)), (16, .int (enc (cntC N (N 16 0).toNat))), (12, .ref (a1)), (13, .ref (a2)), (14, .ref (a3)), (15, .ref (a4)), (7, .int (enc (N 17 0))), (6, .int (enc (N 16 0))), (3, .int (enc (ti))), (2, .ref (qs 0)), (1, .ref (q 0)), (0, .ref (bs))]) X dL_law_647 (by decide) rfl ?_
  refine tw_iconst X dL_law_649 ?_
  refine tw_istore (lv' := [(23, .int (enc (0))), (22, .int (enc (0))), (21, .int (enc (0))), (20, .ref (a8)), (19, .ref (a7)), (18, .ref (a6)), (17, .ref (a5)), (16, .int (enc (cntC N (N 16 0).toNat))), (12, .ref (a1)), (13, .ref (a2)), (14, .ref (a3)), (15, .ref (a4)), (7, .int (enc (N 17 0))), (6, .int (enc (N 16 0))), (3, .int (enc (ti))), (2, .ref (qs 0)), (1, .ref (q 0)), (0, .ref (bs))]) X dL_law_650 (by decide) rfl ?_
  have L652 : ∀ (fu t : Nat) (fr : Int → Int) (ff : Int → Int) (fd : Int → Int) (fb : Int → Int) (fo : Int → Int), (t : Int) ≤ N 17 0 → N 17 0 + 1 ≤ (t : Int) + fu → (∀ r : Int, 0 ≤ r → r < (t : Int) → fr r = N 8 r) → (∀ r : Int, 0 ≤ r → r < (t : Int) → ff r = frN N r) → (∀ r : Int, 0 ≤ r → r < (t : Int) → fd r = N 12 r) → (∀ r : Int, 0 ≤ r → r < (t : Int) → fb r = inN N r) → (∀ r : Int, 0 ≤ r → r < N 16 0 → fo r = onR N r t) → T G c room_1 31 (k + 1 + 1 + 1 + 1) (n + 12 + 12 + 12 + 12) ([(a1, arI cy ((N 16 0).toNat) fw)] ++ [(a2, arI cy ((N 16 0).toNat) fk)] ++ [(a3, arI cy ((N 16 0).toNat) fs)] ++ [(a4, arI cy ((N 16 0).toNat) fo)] ++ [(a5, arI cy ((N 17 0).toNat) fr)] ++ [(a6, arI cy ((N 17 0).toNat) ff)] ++ [(a7, arI cy ((N 17 0).toNat) fd)] ++ [(a8, arZ G ((N 17 0).toNat) fb)] ++ wD cy q N sN oN U sU oU A ++ wS G cy qs rr tt N g) 652 [(23, .int (enc ((t : Int)))), (22, .int (enc (frI N t))), (21, .int (enc (cntIn N t))), (17, .ref (a5)), (18, .ref (a6)), (19, .ref (a7)), (20, .ref (a8)), (16, .int (enc (cntC N (N 16 0).toNat))), (12, .ref (a1)), (13, .ref (a2)), (14, .ref (a3)), (15, .ref (a4)), (7, .int (enc (N 17 0))), (6, .int (enc (N 16 0))), (3, .int (enc (ti))), (2, .ref (qs 0)), (1, .ref (q 0)), (0, .ref (bs))] [] := by
    intro fu
    induction fu with
    | zero =>
      intro t fr ff fd fb fo hi0 hi1
      exact absurd hi1 (by omega)
    | succ fu ih652 =>
      intro t fr ff fd fb fo hi0_652 hi1_652 hfr9 hff hfd hfb hfo
      have hcn := cntIn_rng N t
      have hfi := frI_rng hB t
      refine tw_iload X dL_law_652 0 rfl ?_
      refine tw_iload X dL_law_654 12 rfl ?_
      refine tw_icmp_ge (tgt := 842) X (In_of (by omega) (by omega)) (In_of (by omega) (by omega)) dL_law_656 (by decide) (fun c656 => ?_) (fun c656 => ?_)
      · skip
        have et : (N 17 0).toNat = t := by omega
        refine Tsub (lv' := [(22, .int (enc (frI N t))), (21, .int (enc (cntIn N t))), (17, .ref (a5)), (18, .ref (a6)), (19, .ref (a7)), (20, .ref (a8)), (16, .int (enc (cntC N (N 16 0).toNat))), (12, .ref (a1)), (13, .ref (a2)), (14, .ref (a3)), (15, .ref (a4)), (7, .int (enc (N 17 0))), (6, .int (enc (N 16 0))), (3, .int (enc (ti))), (2, .ref (qs 0)), (1, .ref (q 0)), (0, .ref (bs))]) [1, 2, 3, 4, 5, 6, 7, 8, 9, 10, 11, 12, 13, 14, 15, 16, 17] rfl ?_
        refine Teq (ws' := [(a1, arI cy ((N 16 0).toNat) fw)] ++ [(a2, arI cy ((N 16 0).toNat) fk)] ++ [(a3, arI cy ((N 16 0).toNat) fs)] ++ [(a4, arI cy ((N 16 0).toNat) fo)] ++ [(a5, arI cy ((N 17 0).toNat) fr)] ++ [(a6, arI cy ((N 17 0).toNat) ff)] ++ [(a7, arI cy ((N 17 0).toNat) fd)] ++ [(a8, arZ G ((N 17 0).toNat) fb)] ++ wD cy q N sN oN U sU oU A ++ wS G cy qs rr tt N g) (lv' := [(22, .int (enc (frI N (N 17 0).toNat))), (21, .int (enc (cntIn N (N 17 0).toNat))), (17, .ref (a5)), (18, .ref (a6)), (19, .ref (a7)), (20, .ref (a8)), (16, .int (enc (cntC N (N 16 0).toNat))), (12, .ref (a1)), (13, .ref (a2)), (14, .ref (a3)), (15, .ref (a4)), (7, .int (enc (N 17 0))), (6, .int (enc (N 16 0))), (3, .int (enc (ti))), (2, .ref (qs 0)), (1, .ref (q 0)), (0, .ref (bs))]) (st' := []) rfl (by rw [et]) rfl ?_
        exact kk a5 a6 a7 a8 fr ff fd fb fo (fun r r0 r1 => hfr9 r r0 (by omega)) (fun r r0 r1 => hff r r0 (by omega)) (fun r r0 r1 => hfd r r0 (by omega)) (fun r r0 r1 => hfb r r0 (by omega)) (by rw [et]; exact hfo)
      · skip
        have hTI := hF.2.2.2.2.2.2.2.2.2.1 (t : Int) (by omega) c656
        unfold TI at hTI
        have hx7 : 0 ≤ N 15 (t : Int) → 0 ≤ N 7 (t : Int) := hI.2.2.1 (t : Int) (by omega) c656
        have hfr := frayAt_rng (t := (t : Int)) (h := N 20 0) hB (by have := hB 20 0; omega)
        refine tw_aload X dL_law_659 3 rfl ?_
        refine tw_iload X dL_law_661 0 rfl ?_
        refine tw_aload_n X dL_law_663 16 rfl rfl ?_
        refine tw_iload X dL_law_664 0 rfl ?_
        refine tw_callV X (As := [.int (enc ((t : Int)))]) (st := [.int (enc ((t : Int))), .ref (a5)]) vw_L_109 (m_X4_roadOf (q := q) N sN oN U sU oU A ((t : Int)) (by omega) B hF (by omega)) ([(a1, arI cy ((N 16 0).toNat) fw)] ++ [(a2, arI cy ((N 16 0).toNat) fk)] ++ [(a3, arI cy ((N 16 0).toNat) fs)] ++ [(a4, arI cy ((N 16 0).toNat) fo)] ++ [(a5, arI cy ((N 17 0).toNat) fr)] ++ [(a6, arI cy ((N 17 0).toNat) ff)] ++ [(a7, arI cy ((N 17 0).toNat) fd)] ++ [(a8, arZ G ((N 17 0).toNat) fb)]) (wS G cy qs rr tt N g) (List.append_assoc _ _ _) rfl (q0 := 0) rfl rfl rfl ⟨rfl, rfl, Nat.le_of_ble_eq_true rfl, Nat.le_of_ble_eq_true rfl⟩ ⟨(show k + 1 + 1 + 1 + 1 + 0 ≤ 600104 by omega), (show n + 12 + 12 + 12 + 12 + 0 ≤ 7301314 by omega)⟩ (Nat.le_of_ble_eq_true rfl) dL_law_666 (fun v w1 hp => ?_)
        obtain ⟨rfl, rfl⟩ := hp
        refine Teq (ws' := [(a1, arI cy ((N 16 0).toNat) fw)] ++ [(a2, arI cy ((N 16 0).toNat) fk)] ++ [(a3, arI cy ((N 16 0).toNat) fs)] ++ [(a4, arI cy ((N 16 0).toNat) fo)] ++ [(a5, arI cy ((N 17 0).toNat) fr)] ++ [(a6, arI cy ((N 17 0).toNat) ff)] ++ [(a7, arI cy ((N 17 0).toNat) fd)] ++ [(a8, arZ G ((N 17 0).toNat) fb)] ++ wD cy q N sN oN U sU oU A ++ wS G cy qs rr tt N g) (lv' := [(23, .int (enc ((t : Int)))), (22, .int (enc (frI N t))), (21, .int (enc (cntIn N t))), (17, .ref (a5)), (18, .ref (a6)), (19, .ref (a7)), (20, .ref (a8)), (16, .int (enc (cntC N (N 16 0).toNat))), (12, .ref (a1)), (13, .ref (a2)), (14, .ref (a3)), (15, .ref (a4)), (7, .int (enc (N 17 0))), (6, .int (enc (N 16 0))), (3, .int (enc (ti))), (2, .ref (qs 0)), (1, .ref (q 0)), (0, .ref (bs))]) (st' := [.int (enc (N 8 (t : Int))), .int (enc ((t : Int))), .ref (a5)]) (List.append_assoc _ _ _).symm rfl rfl ?_
        have b1 := hB 8 (t : Int)
        refine tw_iast X (N := (N 17 0).toNat) (f := fr) (ws' := [(a1, arI cy ((N 16 0).toNat) fw)] ++ [(a2, arI cy ((N 16 0).toNat) fk)] ++ [(a3, arI cy ((N 16 0).toNat) fs)] ++ [(a4, arI cy ((N 16 0).toNat) fo)] ++ [(a5, arI cy ((N 17 0).toNat) (ups fr ((t : Int)) (N 8 (t : Int))))] ++ [(a6, arI cy ((N 17 0).toNat) ff)] ++ [(a7, arI cy ((N 17 0).toNat) fd)] ++ [(a8, arZ G ((N 17 0).toNat) fb)] ++ wD cy q N sN oN U sU oU A ++ wS G cy qs rr tt N g) 4 rfl (by omega) (by omega) dL_law_669 rfl ?_
        refine tw_aload X dL_law_670 4 rfl ?_
        refine tw_iload X dL_law_672 0 rfl ?_
        refine tw_aload_n X dL_law_674 16 rfl rfl ?_
        refine tw_iload X dL_law_675 0 rfl ?_
        refine tw_callV X (As := [.int (enc ((t : Int)))]) (st := [.int (enc ((t : Int))), .ref (a6)]) vw_L_112 (m_X4_frayOf (q := q) N sN oN U sU oU A ((t : Int)) (by omega) B hF (by omega)) ([(a1, arI cy ((N 16 0).toNat) fw)] ++ [(a2, arI cy ((N 16 0).toNat) fk)] ++ [(a3, arI cy ((N 16 0).toNat) fs)] ++ [(a4, arI cy ((N 16 0).toNat) fo)] ++ [(a5, arI cy ((N 17 0).toNat) (ups fr ((t : Int)) (N 8 (t : Int))))] ++ [(a6, arI cy ((N 17 0).toNat) ff)] ++ [(a7, arI cy ((N 17 0).toNat) fd)] ++ [(a8, arZ G ((N 17 0).toNat) fb)]) (wS G cy qs rr tt N g) (List.append_assoc _ _ _) rfl (q0 := 0) rfl rfl rfl ⟨rfl, rfl, Nat.le_of_ble_eq_true rfl, Nat.le_of_ble_eq_true rfl⟩ ⟨(show k + 1 + 1 + 1 + 1 + 0 ≤ 600104 by omega), (show n + 12 + 12 + 12 + 12 + 0 ≤ 7301314 by omega)⟩ (Nat.le_of_ble_eq_true rfl) dL_law_677 (fun v w1 hp => ?_)
        obtain ⟨rfl, rfl⟩ := hp
        refine Teq (ws' := [(a1, arI cy ((N 16 0).toNat) fw)] ++ [(a2, arI cy ((N 16 0).toNat) fk)] ++ [(a3, arI cy ((N 16 0).toNat) fs)] ++ [(a4, arI cy ((N 16 0).toNat) fo)] ++ [(a5, arI cy ((N 17 0).toNat) (ups fr ((t : Int)) (N 8 (t : Int))))] ++ [(a6, arI cy ((N 17 0).toNat) ff)] ++ [(a7, arI cy ((N 17 0).toNat) fd)] ++ [(a8, arZ G ((N 17 0).toNat) fb)] ++ wD cy q N sN oN U sU oU A ++ wS G cy qs rr tt N g) (lv' := [(23, .int (enc ((t : Int)))), (22, .int (enc (frI N t))), (21, .int (enc (cntIn N t))), (17, .ref (a5)), (18, .ref (a6)), (19, .ref (a7)), (20, .ref (a8)), (16, .int (enc (cntC N (N 16 0).toNat))), (12, .ref (a1)), (13, .ref (a2)), (14, .ref (a3)), (15, .ref (a4)), (7, .int (enc (N 17 0))), (6, .int (enc (N 16 0))), (3, .int (enc (ti))), (2, .ref (qs 0)), (1, .ref (q 0)), (0, .ref (bs))]) (st' := [.int (enc (frayAt N (t : Int) (N 20 0))), .int (enc ((t : Int))), .ref (a6)]) (List.append_assoc _ _ _).symm rfl rfl ?_
        refine tw_iast X (N := (N 17 0).toNat) (f := ff) (ws' := [(a1, arI cy ((N 16 0).toNat) fw)] ++ [(a2, arI cy ((N 16 0).toNat) fk)] ++ [(a3, arI cy ((N 16 0).toNat) fs)] ++ [(a4, arI cy ((N 16 0).toNat) fo)] ++ [(a5, arI cy ((N 17 0).toNat) (ups fr ((t : Int)) (N 8 (t : Int))))] ++ [(a6, arI cy ((N 17 0).toNat) (ups ff ((t : Int)) (frayAt N (t : Int) (N 20 0))))] ++ [(a7, arI cy ((N 17 0).toNat) fd)] ++ [(a8, arZ G ((N 17 0).toNat) fb)] ++ wD cy q N sN oN U sU oU A ++ wS G cy qs rr tt N g) 5 rfl (by omega) (by omega) dL_law_680 rfl ?_
        refine tw_aload X dL_law_681 5 rfl ?_
        refine tw_iload X dL_law_683 0 rfl ?_
        refine tw_aload_n X dL_law_685 16 rfl rfl ?_
        refine tw_iload X dL_law_686 0 rfl ?_
        refine tw_callV X (As := [.int (enc ((t : Int)))]) (st := [.int (enc ((t : Int))), .ref (a7)]) vw_L_115 (m_X4_dyeOf (q := q) N sN oN U sU oU A ((t : Int)) (by omega) B hF (by omega)) ([(a1, arI cy ((N 16 0).toNat) fw)] ++ [(a2, arI cy ((N 16 0).toNat) fk)] ++ [(a3, arI cy ((N 16 0).toNat) fs)] ++ [(a4, arI cy ((N 16 0).toNat) fo)] ++ [(a5, arI cy ((N 17 0).toNat) (ups fr ((t : Int)) (N 8 (t : Int))))] ++ [(a6, arI cy ((N 17 0).toNat) (ups ff ((t : Int)) (frayAt N (t : Int) (N 20 0))))] ++ [(a7, arI cy ((N 17 0).toNat) fd)] ++ [(a8, arZ G ((N 17 0).toNat) fb)]) (wS G cy qs rr tt N g) (List.append_assoc _ _ _) rfl (q0 := 0) rfl rfl rfl ⟨rfl, rfl, Nat.le_of_ble_eq_true rfl, Nat.le_of_ble_eq_true rfl⟩ ⟨(show k + 1 + 1 + 1 + 1 + 0 ≤ 600104 by omega), (show n + 12 + 12 + 12 + 12 + 0 ≤ 7301314 by omega)⟩ (Nat.le_of_ble_eq_true rfl) dL_law_688 (fun v w1 hp => ?_)
        obtain ⟨rfl, rfl⟩ := hp
        refine Teq (ws' := [(a1, arI cy ((N 16 0).toNat) fw)] ++ [(a2, arI cy ((N 16 0).toNat) fk)] ++ [(a3, arI cy ((N 16 0).toNat) fs)] ++ [(a4, arI cy ((N 16 0).toNat) fo)] ++ [(a5, arI cy ((N 17 0).toNat) (ups fr ((t : Int)) (N 8 (t : Int))))] ++ [(a6, arI cy ((N 17 0).toNat) (ups ff ((t : Int)) (frayAt N (t : Int) (N 20 0))))] ++ [(a7, arI cy ((N 17 0).toNat) fd)] ++ [(a8, arZ G ((N 17 0).toNat) fb)] ++ wD cy q N sN oN U sU oU A ++ wS G cy qs rr tt N g) (lv' := [(23, .int (enc ((t : Int)))), (22, .int (enc (frI N t))), (21, .int (enc (cntIn N t))), (17, .ref (a5)), (18, .ref (a6)), (19, .ref (a7)), (20, .ref (a8)), (16, .int (enc (cntC N (N 16 0).toNat))), (12, .ref (a1)), (13, .ref (a2)), (14, .ref (a3)), (15, .ref (a4)), (7, .int (enc (N 17 0))), (6, .int (enc (N 16 0))), (3, .int (enc (ti))), (2, .ref (qs 0)), (1, .ref (q 0)), (0, .ref (bs))]) (st' := [.int (enc (N 12 (t : Int))), .int (enc ((t : Int))), .ref (a7)]) (List.append_assoc _ _ _).symm rfl rfl ?_
        have b2 := hB 12 (t : Int)
        refine tw_iast X (N := (N 17 0).toNat) (f := fd) (ws' := [(a1, arI cy ((N 16 0).toNat) fw)] ++ [(a2, arI cy ((N 16 0).toNat) fk)] ++ [(a3, arI cy ((N 16 0).toNat) fs)] ++ [(a4, arI cy ((N 16 0).toNat) fo)] ++ [(a5, arI cy ((N 17 0).toNat) (ups fr ((t : Int)) (N 8 (t : Int))))] ++ [(a6, arI cy ((N 17 0).toNat) (ups ff ((t : Int)) (frayAt N (t : Int) (N 20 0))))] ++ [(a7, arI cy ((N 17 0).toNat) (ups fd ((t : Int)) (N 12 (t : Int))))] ++ [(a8, arZ G ((N 17 0).toNat) fb)] ++ wD cy q N sN oN U sU oU A ++ wS G cy qs rr tt N g) 6 rfl (by omega) (by omega) dL_law_691 rfl ?_
        refine tw_aload X dL_law_692 6 rfl ?_
        refine tw_iload X dL_law_694 0 rfl ?_
        refine tw_aload_n X dL_law_696 16 rfl rfl ?_
        refine tw_iload X dL_law_697 0 rfl ?_
        refine tw_callV X (As := [.int (enc ((t : Int)))]) (st := [.int (enc ((t : Int))), .ref (a8)]) vw_L_118 (m_X4_hasArrived (q := q) N sN oN U sU oU A ((t : Int)) (by omega) B hF (by omega)) ([(a1, arI cy ((N 16 0).toNat) fw)] ++ [(a2, arI cy ((N 16 0).toNat) fk)] ++ [(a3, arI cy ((N 16 0).toNat) fs)] ++ [(a4, arI cy ((N 16 0).toNat) fo)] ++ [(a5, arI cy ((N 17 0).toNat) (ups fr ((t : Int)) (N 8 (t : Int))))] ++ [(a6, arI cy ((N 17 0).toNat) (ups ff ((t : Int)) (frayAt N (t : Int) (N 20 0))))] ++ [(a7, arI cy ((N 17 0).toNat) (ups fd ((t : Int)) (N 12 (t : Int))))] ++ [(a8, arZ G ((N 17 0).toNat) fb)]) (wS G cy qs rr tt N g) (List.append_assoc _ _ _) rfl (q0 := 0) rfl rfl rfl ⟨rfl, rfl, Nat.le_of_ble_eq_true rfl, Nat.le_of_ble_eq_true rfl⟩ ⟨(show k + 1 + 1 + 1 + 1 + 0 ≤ 600104 by omega), (show n + 12 + 12 + 12 + 12 + 0 ≤ 7301314 by omega)⟩ (Nat.le_of_ble_eq_true rfl) dL_law_699 (fun v w1 hp => ?_)
        obtain ⟨rfl, rfl⟩ := hp
        refine Teq (ws' := [(a1, arI cy ((N 16 0).toNat) fw)] ++ [(a2, arI cy ((N 16 0).toNat) fk)] ++ [(a3, arI cy ((N 16 0).toNat) fs)] ++ [(a4, arI cy ((N 16 0).toNat) fo)] ++ [(a5, arI cy ((N 17 0).toNat) (ups fr ((t : Int)) (N 8 (t : Int))))] ++ [(a6, arI cy ((N 17 0).toNat) (ups ff ((t : Int)) (frayAt N (t : Int) (N 20 0))))] ++ [(a7, arI cy ((N 17 0).toNat) (ups fd ((t : Int)) (N 12 (t : Int))))] ++ [(a8, arZ G ((N 17 0).toNat) fb)] ++ wD cy q N sN oN U sU oU A ++ wS G cy qs rr tt N g) (lv' := [(23, .int (enc ((t : Int)))), (22, .int (enc (frI N t))), (21, .int (enc (cntIn N t))), (17, .ref (a5)), (18, .ref (a6)), (19, .ref (a7)), (20, .ref (a8)), (16, .int (enc (cntC N (N 16 0).toNat))), (12, .ref (a1)), (13, .ref (a2)), (14, .ref (a3)), (15, .ref (a4)), (7, .int (enc (N 17 0))), (6, .int (enc (N 16 0))), (3, .int (enc (ti))), (2, .ref (qs 0)), (1, .ref (q 0)), (0, .ref (bs))]) (st' := [.int (enc (if 0 ≤ N 15 (t : Int) then 1 else 0)), .int (enc ((t : Int))), .ref (a8)]) (List.append_assoc _ _ _).symm rfl rfl ?_
        refine tw_zast X (N := (N 17 0).toNat) (f := fb) (ws' := [(a1, arI cy ((N 16 0).toNat) fw)] ++ [(a2, arI cy ((N 16 0).toNat) fk)] ++ [(a3, arI cy ((N 16 0).toNat) fs)] ++ [(a4, arI cy ((N 16 0).toNat) fo)] ++ [(a5, arI cy ((N 17 0).toNat) (ups fr ((t : Int)) (N 8 (t : Int))))] ++ [(a6, arI cy ((N 17 0).toNat) (ups ff ((t : Int)) (frayAt N (t : Int) (N 20 0))))] ++ [(a7, arI cy ((N 17 0).toNat) (ups fd ((t : Int)) (N 12 (t : Int))))] ++ [(a8, arZ G ((N 17 0).toNat) (ups fb ((t : Int)) ((if 0 ≤ N 15 (t : Int) then 1 else 0))))] ++ wD cy q N sN oN U sU oU A ++ wS G cy qs rr tt N g) 7 rfl (by omega) (by omega) (bit01 _) dL_law_702 rfl ?_
        refine tw_aload X dL_law_703 3 rfl ?_
        refine tw_iload X dL_law_705 0 rfl ?_
        refine tw_iald X (N := (N 17 0).toNat) (f := (ups fr ((t : Int)) (N 8 (t : Int)))) 4 rfl (by omega) (by omega) dL_law_707 ?_
        refine Tst (st' := [.int (enc (N 8 (t : Int)))]) (by rw [ups_same]) ?_
        refine tw_if_ge (tgt := 715) X (In_of (by omega) (by omega)) dL_law_708 (by decide) (fun c708 => ?_) (fun c708 => ?_)
        · skip
          refine tw_iconst X dL_law_715 ?_
          refine tw_aload_n X dL_law_716 16 rfl rfl ?_
          refine tw_iload X dL_law_717 0 rfl ?_
          refine tw_callV X (As := [.int (enc ((t : Int)))]) (st := [.int (enc (0))]) vw_L_122 (m_X4_placeOf (q := q) N sN oN U sU oU A ((t : Int)) (by omega) B hF (by omega)) ([(a1, arI cy ((N 16 0).toNat) fw)] ++ [(a2, arI cy ((N 16 0).toNat) fk)] ++ [(a3, arI cy ((N 16 0).toNat) fs)] ++ [(a4, arI cy ((N 16 0).toNat) fo)] ++ [(a5, arI cy ((N 17 0).toNat) (ups fr ((t : Int)) (N 8 (t : Int))))] ++ [(a6, arI cy ((N 17 0).toNat) (ups ff ((t : Int)) (frayAt N (t : Int) (N 20 0))))] ++ [(a7, arI cy ((N 17 0).toNat) (ups fd ((t : Int)) (N 12 (t : Int))))] ++ [(a8, arZ G ((N 17 0).toNat) (ups fb ((t : Int)) ((if 0 ≤ N 15 (t : Int) then 1 else 0))))]) (wS G cy qs rr tt N g) (List.append_assoc _ _ _) rfl (q0 := 0) rfl rfl rfl ⟨rfl, rfl, Nat.le_of_ble_eq_true rfl, Nat.le_of_ble_eq_true rfl⟩ ⟨(show k + 1 + 1 + 1 + 1 + 0 ≤ 600104 by omega), (show n + 12 + 12 + 12 + 12 + 0 ≤ 7301314 by omega)⟩ (Nat.le_of_ble_eq_true rfl) dL_law_719 (fun v w1 hp => ?_)
          obtain ⟨rfl, rfl⟩ := hp
          refine Teq (ws' := [(a1, arI cy ((N 16 0).toNat) fw)] ++ [(a2, arI cy ((N 16 0).toNat) fk)] ++ [(a3, arI cy ((N 16 0).toNat) fs)] ++ [(a4, arI cy ((N 16 0).toNat) fo)] ++ [(a5, arI cy ((N 17 0).toNat) (ups fr ((t : Int)) (N 8 (t : Int))))] ++ [(a6, arI cy ((N 17 0).toNat) (ups ff ((t : Int)) (frayAt N (t : Int) (N 20 0))))] ++ [(a7, arI cy ((N 17 0).toNat) (ups fd ((t : Int)) (N 12 (t : Int))))] ++ [(a8, arZ G ((N 17 0).toNat) (ups fb ((t : Int)) ((if 0 ≤ N 15 (t : Int) then 1 else 0))))] ++ wD cy q N sN oN U sU oU A ++ wS G cy qs rr tt N g) (lv' := [(23, .int (enc ((t : Int)))), (22, .int (enc (frI N t))), (21, .int (enc (cntIn N t))), (17, .ref (a5)), (18, .ref (a6)), (19, .ref (a7)), (20, .ref (a8)), (16, .int (enc (cntC N (N 16 0).toNat))), (12, .ref (a1)), (13, .ref (a2)), (14, .ref (a3)), (15, .ref (a4)), (7, .int (enc (N 17 0))), (6, .int (enc (N 16 0))), (3, .int (enc (ti))), (2, .ref (qs 0)), (1, .ref (q 0)), (0, .ref (bs))]) (st' := [.int (enc (N 7 (t : Int))), .int (enc (0))]) (List.append_assoc _ _ _).symm rfl rfl ?_
          have b3 := hB 7 (t : Int)
          refine tw_if_ge (tgt := 729) X (In_of (by omega) (by omega)) dL_law_722 (by decide) (fun c722 => ?_) (fun c722 => ?_)
          · exact (show False by omega).elim
          · skip
            refine tw_iconst X dL_law_725 ?_
            refine tw_goto (tgt := 730) X dL_law_726 (by decide) ?_
            refine tw_icmp_eq (tgt := 774) X (In_of (by omega) (by omega)) (In_of (by omega) (by omega)) dL_law_730 (by decide) (fun c730 => ?_) (fun c730 => ?_)
            · skip
              exact (show False by omega).elim
            · skip
              refine tw_aload X dL_law_733 4 rfl ?_
              refine tw_iload X dL_law_735 0 rfl ?_
              refine tw_iald X (N := (N 17 0).toNat) (f := (ups ff ((t : Int)) (frayAt N (t : Int) (N 20 0)))) 5 rfl (by omega) (by omega) dL_law_737 ?_
              refine Tst (st' := [.int (enc (frayAt N (t : Int) (N 20 0)))]) (by rw [ups_same]) ?_
              refine tw_if_lt (tgt := 774) X (In_of (by omega) (by omega)) dL_law_738 (by decide) (fun c738 => ?_) (fun c738 => ?_)
              · skip
                exact (show False by omega).elim
              · skip
                refine tw_aload X dL_law_741 5 rfl ?_
                refine tw_iload X dL_law_743 0 rfl ?_
                refine tw_iald X (N := (N 17 0).toNat) (f := (ups fd ((t : Int)) (N 12 (t : Int)))) 6 rfl (by omega) (by omega) dL_law_745 ?_
                refine Tst (st' := [.int (enc (N 12 (t : Int)))]) (by rw [ups_same]) ?_
                refine tw_if_lt (tgt := 774) X (In_of (by omega) (by omega)) dL_law_746 (by decide) (fun c746 => ?_) (fun c746 => ?_)
                · skip
                  exact (show False by omega).elim
                · skip
                  refine tw_aload X dL_law_749 5 rfl ?_
                  refine tw_iload X dL_law_751 0 rfl ?_
                  refine tw_iald X (N := (N 17 0).toNat) (f := (ups fd ((t : Int)) (N 12 (t : Int)))) 6 rfl (by omega) (by omega) dL_law_753 ?_
                  refine Tst (st' := [.int (enc (N 12 (t : Int)))]) (by rw [ups_same]) ?_
                  refine tw_iconst X dL_law_754 ?_
                  refine tw_icmp_gt (tgt := 774) X (In_of (by omega) (by omega)) (In_of (by omega) (by omega)) dL_law_755 (by decide) (fun c755 => ?_) (fun c755 => ?_)
                  · skip
                    exact (show False by omega).elim
                  · skip
                    refine tw_aload X dL_law_758 6 rfl ?_
                    refine tw_iload X dL_law_760 0 rfl ?_
                    refine tw_zald X (N := (N 17 0).toNat) (f := (ups fb ((t : Int)) ((if 0 ≤ N 15 (t : Int) then 1 else 0)))) 7 rfl (by omega) (by omega) dL_law_762 ?_
                    refine Tst (st' := [.int (enc (if 0 ≤ N 15 (t : Int) then 1 else 0))]) (by rw [ups_same]) ?_
                    refine tw_if_eq (tgt := 776) X In_b dL_law_763 (by decide) (fun c763 => ?_) (fun c763 => ?_)
                    · skip
                      have h15 := b01.mp c763
                      refine tw_aload X dL_law_776 3 rfl ?_
                      refine tw_iload X dL_law_778 0 rfl ?_
                      refine tw_iald X (N := (N 17 0).toNat) (f := (ups fr ((t : Int)) (N 8 (t : Int)))) 4 rfl (by omega) (by omega) dL_law_780 ?_
                      refine Tst (st' := [.int (enc (N 8 (t : Int)))]) (by rw [ups_same]) ?_
                      refine tw_if_lt (tgt := 796) X (In_of (by omega) (by omega)) dL_law_781 (by decide) (fun c781 => ?_) (fun c781 => ?_)
                      · exact (show False by omega).elim
                      · skip
                        refine tw_aload X dL_law_784 11 rfl ?_
                        refine tw_aload X dL_law_786 3 rfl ?_
                        refine tw_iload X dL_law_788 0 rfl ?_
                        refine tw_iald X (N := (N 17 0).toNat) (f := (ups fr ((t : Int)) (N 8 (t : Int)))) 4 rfl (by omega) (by omega) dL_law_790 ?_
                        refine Tst (st' := [.int (enc (N 8 (t : Int))), .ref (a4)]) (by rw [ups_same]) ?_
                        refine tw_dup2 X dL_law_791 rfl rfl ?_
                        refine tw_iald X (N := (N 16 0).toNat) (f := fo) 3 rfl (by omega) (by omega) dL_law_792 ?_
                        refine tw_iconst X dL_law_793 ?_
                        refine tw_iadd (z := (fo (N 8 (t : Int))) + 1) X dL_law_794 rfl ?_
                        refine tw_iast X (N := (N 16 0).toNat) (f := fo) (ws' := [(a1, arI cy ((N 16 0).toNat) fw)] ++ [(a2, arI cy ((N 16 0).toNat) fk)] ++ [(a3, arI cy ((N 16 0).toNat) fs)] ++ [(a4, arI cy ((N 16 0).toNat) (ups fo (N 8 (t : Int)) ((fo (N 8 (t : Int))) + 1)))] ++ [(a5, arI cy ((N 17 0).toNat) (ups fr ((t : Int)) (N 8 (t : Int))))] ++ [(a6, arI cy ((N 17 0).toNat) (ups ff ((t : Int)) (frayAt N (t : Int) (N 20 0))))] ++ [(a7, arI cy ((N 17 0).toNat) (ups fd ((t : Int)) (N 12 (t : Int))))] ++ [(a8, arZ G ((N 17 0).toNat) (ups fb ((t : Int)) ((if 0 ≤ N 15 (t : Int) then 1 else 0))))] ++ wD cy q N sN oN U sU oU A ++ wS G cy qs rr tt N g) 3 rfl (by omega) (by omega) dL_law_795 rfl ?_
                        have hon := on_yes (t := t) hfo
                        refine tw_iload X dL_law_796 2 rfl ?_
                        refine tw_aload X dL_law_798 6 rfl ?_
                        refine tw_iload X dL_law_800 0 rfl ?_
                        refine tw_zald X (N := (N 17 0).toNat) (f := (ups fb ((t : Int)) ((if 0 ≤ N 15 (t : Int) then 1 else 0)))) 7 rfl (by omega) (by omega) dL_law_802 ?_
                        refine Tst (st' := [.int (enc (if 0 ≤ N 15 (t : Int) then 1 else 0)), .int (enc (cntIn N t))]) (by rw [ups_same]) ?_
                        refine tw_if_eq (tgt := 810) X In_b dL_law_803 (by decide) (fun c803 => ?_) (fun c803 => ?_)
                        · skip
                          refine tw_iconst X dL_law_810 ?_
                          refine tw_iadd (z := (cntIn N t) + 0) X dL_law_811 rfl ?_
                          refine tw_istore (lv' := [(21, .int (enc ((cntIn N t) + 0))), (23, .int (enc ((t : Int)))), (22, .int (enc (frI N t))), (17, .ref (a5)), (18, .ref (a6)), (19, .ref (a7)), (20, .ref (a8)), (16, .int (enc (cntC N (N 16 0).toNat))), (12, .ref (a1)), (13, .ref (a2)), (14, .ref (a3)), (15, .ref (a4)), (7, .int (enc (N 17 0))), (6, .int (enc (N 16 0))), (3, .int (enc (ti))), (2, .ref (qs 0)), (1, .ref (q 0)), (0, .ref (bs))]) X dL_law_812 (by decide) rfl ?_
                          refine tw_iload X dL_law_814 2 rfl ?_
                          refine tw_aload X dL_law_816 6 rfl ?_
                          refine tw_iload X dL_law_818 1 rfl ?_
                          refine tw_zald X (N := (N 17 0).toNat) (f := (ups fb ((t : Int)) ((if 0 ≤ N 15 (t : Int) then 1 else 0)))) 7 rfl (by omega) (by omega) dL_law_820 ?_
                          refine Tst (st' := [.int (enc (if 0 ≤ N 15 (t : Int) then 1 else 0)), .int (enc (frI N t))]) (by rw [ups_same]) ?_
                          refine tw_if_eq (tgt := 832) X In_b dL_law_821 (by decide) (fun c821 => ?_) (fun c821 => ?_)
                          · skip
                            refine tw_iconst X dL_law_832 ?_
                            refine tw_iadd (z := (frI N t) + 0) X dL_law_833 rfl ?_
                            refine tw_istore (lv' := [(22, .int (enc ((frI N t) + 0))), (21, .int (enc ((cntIn N t) + 0))), (23, .int (enc ((t : Int)))), (17, .ref (a5)), (18, .ref (a6)), (19, .ref (a7)), (20, .ref (a8)), (16, .int (enc (cntC N (N 16 0).toNat))), (12, .ref (a1)), (13, .ref (a2)), (14, .ref (a3)), (15, .ref (a4)), (7, .int (enc (N 17 0))), (6, .int (enc (N 16 0))), (3, .int (enc (ti))), (2, .ref (qs 0)), (1, .ref (q 0)), (0, .ref (bs))]) X dL_law_834 (by decide) rfl ?_
                            refine tw_iinc (q := 2) (x := (t : Int)) (y := (t : Int) + 1) (lv' := [(23, .int (enc ((t : Int) + 1))), (22, .int (enc ((frI N t) + 0))), (21, .int (enc ((cntIn N t) + 0))), (17, .ref (a5)), (18, .ref (a6)), (19, .ref (a7)), (20, .ref (a8)), (16, .int (enc (cntC N (N 16 0).toNat))), (12, .ref (a1)), (13, .ref (a2)), (14, .ref (a3)), (15, .ref (a4)), (7, .int (enc (N 17 0))), (6, .int (enc (N 16 0))), (3, .int (enc (ti))), (2, .ref (qs 0)), (1, .ref (q 0)), (0, .ref (bs))]) X dL_law_836 rfl rfl (by decide) rfl ?_
                            refine tw_goto (tgt := 652) X dL_law_839 (by decide) ?_
                            refine Tsub (lv' := [(23, .int (enc ((t : Int) + 1))), (22, .int (enc ((frI N t) + 0))), (21, .int (enc ((cntIn N t) + 0))), (17, .ref (a5)), (18, .ref (a6)), (19, .ref (a7)), (20, .ref (a8)), (16, .int (enc (cntC N (N 16 0).toNat))), (12, .ref (a1)), (13, .ref (a2)), (14, .ref (a3)), (15, .ref (a4)), (7, .int (enc (N 17 0))), (6, .int (enc (N 16 0))), (3, .int (enc (ti))), (2, .ref (qs 0)), (1, .ref (q 0)), (0, .ref (bs))]) [0, 1, 2, 3, 4, 5, 6, 7, 8, 9, 10, 11, 12, 13, 14, 15, 16, 17] rfl ?_
                            refine Teq (ws' := [(a1, arI cy ((N 16 0).toNat) fw)] ++ [(a2, arI cy ((N 16 0).toNat) fk)] ++ [(a3, arI cy ((N 16 0).toNat) fs)] ++ [(a4, arI cy ((N 16 0).toNat) ((ups fo (N 8 (t : Int)) ((fo (N 8 (t : Int))) + 1))))] ++ [(a5, arI cy ((N 17 0).toNat) ((ups fr ((t : Int)) (N 8 (t : Int)))))] ++ [(a6, arI cy ((N 17 0).toNat) ((ups ff ((t : Int)) (frayAt N (t : Int) (N 20 0)))))] ++ [(a7, arI cy ((N 17 0).toNat) ((ups fd ((t : Int)) (N 12 (t : Int)))))] ++ [(a8, arZ G ((N 17 0).toNat) ((ups fb ((t : Int)) ((if 0 ≤ N 15 (t : Int) then 1 else 0)))))] ++ wD cy q N sN oN U sU oU A ++ wS G cy qs rr tt N g) (lv' := [(23, .int (enc (((t + 1 : Nat) : Int)))), (22, .int (enc (frI N (t + 1)))), (21, .int (enc (cntIn N (t + 1)))), (17, .ref (a5)), (18, .ref (a6)), (19, .ref (a7)), (20, .ref (a8)), (16, .int (enc (cntC N (N 16 0).toNat))), (12, .ref (a1)), (13, .ref (a2)), (14, .ref (a3)), (15, .ref (a4)), (7, .int (enc (N 17 0))), (6, .int (enc (N 16 0))), (3, .int (enc (ti))), (2, .ref (qs 0)), (1, .ref (q 0)), (0, .ref (bs))]) (st' := []) (rfl) (lvc (i_succ t) (lvc (by rw [frI_s]; first | (rw [if_pos h15]; unfold frayAt; rw [if_pos h15]; done) | (rw [if_neg (by omega)]; done)) (lvc (by rw [cntIn_s]; split <;> omega) rfl))) rfl (ih652 (t + 1) ((ups fr ((t : Int)) (N 8 (t : Int)))) ((ups ff ((t : Int)) (frayAt N (t : Int) (N 20 0)))) ((ups fd ((t : Int)) (N 12 (t : Int)))) ((ups fb ((t : Int)) ((if 0 ≤ N 15 (t : Int) then 1 else 0)))) ((ups fo (N 8 (t : Int)) ((fo (N 8 (t : Int))) + 1))) (by omega) (by omega) (up_next (h := N 8) hfr9) (up_next (h := frN N) hff) (up_next (h := N 12) hfd) (up_next (h := inN N) hfb) (hon))
                          · exact (show False by omega).elim
                        · exact (show False by omega).elim
                    · skip
                      have h15 := b01n.mp c763
                      refine tw_aload X dL_law_766 3 rfl ?_
                      refine tw_iload X dL_law_768 0 rfl ?_
                      refine tw_iald X (N := (N 17 0).toNat) (f := (ups fr ((t : Int)) (N 8 (t : Int)))) 4 rfl (by omega) (by omega) dL_law_770 ?_
                      refine Tst (st' := [.int (enc (N 8 (t : Int)))]) (by rw [ups_same]) ?_
                      refine tw_if_lt (tgt := 776) X (In_of (by omega) (by omega)) dL_law_771 (by decide) (fun c771 => ?_) (fun c771 => ?_)
                      · skip
                        refine tw_aload X dL_law_776 3 rfl ?_
                        refine tw_iload X dL_law_778 0 rfl ?_
                        refine tw_iald X (N := (N 17 0).toNat) (f := (ups fr ((t : Int)) (N 8 (t : Int)))) 4 rfl (by omega) (by omega) dL_law_780 ?_
                        refine Tst (st' := [.int (enc (N 8 (t : Int)))]) (by rw [ups_same]) ?_
                        refine tw_if_lt (tgt := 796) X (In_of (by omega) (by omega)) dL_law_781 (by decide) (fun c781 => ?_) (fun c781 => ?_)
                        · exact (show False by omega).elim
                        · skip
                          refine tw_aload X dL_law_784 11 rfl ?_
                          refine tw_aload X dL_law_786 3 rfl ?_
                          refine tw_iload X dL_law_788 0 rfl ?_
                          refine tw_iald X (N := (N 17 0).toNat) (f := (ups fr ((t : Int)) (N 8 (t : Int)))) 4 rfl (by omega) (by omega) dL_law_790 ?_
                          refine Tst (st' := [.int (enc (N 8 (t : Int))), .ref (a4)]) (by rw [ups_same]) ?_
                          refine tw_dup2 X dL_law_791 rfl rfl ?_
                          refine tw_iald X (N := (N 16 0).toNat) (f := fo) 3 rfl (by omega) (by omega) dL_law_792 ?_
                          refine tw_iconst X dL_law_793 ?_
                          refine tw_iadd (z := (fo (N 8 (t : Int))) + 1) X dL_law_794 rfl ?_
                          refine tw_iast X (N := (N 16 0).toNat) (f := fo) (ws' := [(a1, arI cy ((N 16 0).toNat) fw)] ++ [(a2, arI cy ((N 16 0).toNat) fk)] ++ [(a3, arI cy ((N 16 0).toNat) fs)] ++ [(a4, arI cy ((N 16 0).toNat) (ups fo (N 8 (t : Int)) ((fo (N 8 (t : Int))) + 1)))] ++ [(a5, arI cy ((N 17 0).toNat) (ups fr ((t : Int)) (N 8 (t : Int))))] ++ [(a6, arI cy ((N 17 0).toNat) (ups ff ((t : Int)) (frayAt N (t : Int) (N 20 0))))] ++ [(a7, arI cy ((N 17 0).toNat) (ups fd ((t : Int)) (N 12 (t : Int))))] ++ [(a8, arZ G ((N 17 0).toNat) (ups fb ((t : Int)) ((if 0 ≤ N 15 (t : Int) then 1 else 0))))] ++ wD cy q N sN oN U sU oU A ++ wS G cy qs rr tt N g) 3 rfl (by omega) (by omega) dL_law_795 rfl ?_
                          have hon := on_yes (t := t) hfo
                          refine tw_iload X dL_law_796 2 rfl ?_
                          refine tw_aload X dL_law_798 6 rfl ?_
                          refine tw_iload X dL_law_800 0 rfl ?_
                          refine tw_zald X (N := (N 17 0).toNat) (f := (ups fb ((t : Int)) ((if 0 ≤ N 15 (t : Int) then 1 else 0)))) 7 rfl (by omega) (by omega) dL_law_802 ?_
                          refine Tst (st' := [.int (enc (if 0 ≤ N 15 (t : Int) then 1 else 0)), .int (enc (cntIn N t))]) (by rw [ups_same]) ?_
                          refine tw_if_eq (tgt := 810) X In_b dL_law_803 (by decide) (fun c803 => ?_) (fun c803 => ?_)
                          · exact (show False by omega).elim
                          · skip
                            refine tw_iconst X dL_law_806 ?_
                            refine tw_goto (tgt := 811) X dL_law_807 (by decide) ?_
                            refine tw_iadd (z := (cntIn N t) + 1) X dL_law_811 rfl ?_
                            refine tw_istore (lv' := [(21, .int (enc ((cntIn N t) + 1))), (23, .int (enc ((t : Int)))), (22, .int (enc (frI N t))), (17, .ref (a5)), (18, .ref (a6)), (19, .ref (a7)), (20, .ref (a8)), (16, .int (enc (cntC N (N 16 0).toNat))), (12, .ref (a1)), (13, .ref (a2)), (14, .ref (a3)), (15, .ref (a4)), (7, .int (enc (N 17 0))), (6, .int (enc (N 16 0))), (3, .int (enc (ti))), (2, .ref (qs 0)), (1, .ref (q 0)), (0, .ref (bs))]) X dL_law_812 (by decide) rfl ?_
                            refine tw_iload X dL_law_814 2 rfl ?_
                            refine tw_aload X dL_law_816 6 rfl ?_
                            refine tw_iload X dL_law_818 1 rfl ?_
                            refine tw_zald X (N := (N 17 0).toNat) (f := (ups fb ((t : Int)) ((if 0 ≤ N 15 (t : Int) then 1 else 0)))) 7 rfl (by omega) (by omega) dL_law_820 ?_
                            refine Tst (st' := [.int (enc (if 0 ≤ N 15 (t : Int) then 1 else 0)), .int (enc (frI N t))]) (by rw [ups_same]) ?_
                            refine tw_if_eq (tgt := 832) X In_b dL_law_821 (by decide) (fun c821 => ?_) (fun c821 => ?_)
                            · exact (show False by omega).elim
                            · skip
                              refine tw_aload X dL_law_824 4 rfl ?_
                              refine tw_iload X dL_law_826 1 rfl ?_
                              refine tw_iald X (N := (N 17 0).toNat) (f := (ups ff ((t : Int)) (frayAt N (t : Int) (N 20 0)))) 5 rfl (by omega) (by omega) dL_law_828 ?_
                              refine Tst (st' := [.int (enc (frayAt N (t : Int) (N 20 0))), .int (enc (frI N t))]) (by rw [ups_same]) ?_
                              refine tw_goto (tgt := 833) X dL_law_829 (by decide) ?_
                              refine tw_iadd (z := (frI N t) + (frayAt N (t : Int) (N 20 0))) X dL_law_833 rfl ?_
                              refine tw_istore (lv' := [(22, .int (enc ((frI N t) + (frayAt N (t : Int) (N 20 0))))), (21, .int (enc ((cntIn N t) + 1))), (23, .int (enc ((t : Int)))), (17, .ref (a5)), (18, .ref (a6)), (19, .ref (a7)), (20, .ref (a8)), (16, .int (enc (cntC N (N 16 0).toNat))), (12, .ref (a1)), (13, .ref (a2)), (14, .ref (a3)), (15, .ref (a4)), (7, .int (enc (N 17 0))), (6, .int (enc (N 16 0))), (3, .int (enc (ti))), (2, .ref (qs 0)), (1, .ref (q 0)), (0, .ref (bs))]) X dL_law_834 (by decide) rfl ?_
                              refine tw_iinc (q := 2) (x := (t : Int)) (y := (t : Int) + 1) (lv' := [(23, .int (enc ((t : Int) + 1))), (22, .int (enc ((frI N t) + (frayAt N (t : Int) (N 20 0))))), (21, .int (enc ((cntIn N t) + 1))), (17, .ref (a5)), (18, .ref (a6)), (19, .ref (a7)), (20, .ref (a8)), (16, .int (enc (cntC N (N 16 0).toNat))), (12, .ref (a1)), (13, .ref (a2)), (14, .ref (a3)), (15, .ref (a4)), (7, .int (enc (N 17 0))), (6, .int (enc (N 16 0))), (3, .int (enc (ti))), (2, .ref (qs 0)), (1, .ref (q 0)), (0, .ref (bs))]) X dL_law_836 rfl rfl (by decide) rfl ?_
                              refine tw_goto (tgt := 652) X dL_law_839 (by decide) ?_
                              refine Tsub (lv' := [(23, .int (enc ((t : Int) + 1))), (22, .int (enc ((frI N t) + (frayAt N (t : Int) (N 20 0))))), (21, .int (enc ((cntIn N t) + 1))), (17, .ref (a5)), (18, .ref (a6)), (19, .ref (a7)), (20, .ref (a8)), (16, .int (enc (cntC N (N 16 0).toNat))), (12, .ref (a1)), (13, .ref (a2)), (14, .ref (a3)), (15, .ref (a4)), (7, .int (enc (N 17 0))), (6, .int (enc (N 16 0))), (3, .int (enc (ti))), (2, .ref (qs 0)), (1, .ref (q 0)), (0, .ref (bs))]) [0, 1, 2, 3, 4, 5, 6, 7, 8, 9, 10, 11, 12, 13, 14, 15, 16, 17] rfl ?_
                              refine Teq (ws' := [(a1, arI cy ((N 16 0).toNat) fw)] ++ [(a2, arI cy ((N 16 0).toNat) fk)] ++ [(a3, arI cy ((N 16 0).toNat) fs)] ++ [(a4, arI cy ((N 16 0).toNat) ((ups fo (N 8 (t : Int)) ((fo (N 8 (t : Int))) + 1))))] ++ [(a5, arI cy ((N 17 0).toNat) ((ups fr ((t : Int)) (N 8 (t : Int)))))] ++ [(a6, arI cy ((N 17 0).toNat) ((ups ff ((t : Int)) (frayAt N (t : Int) (N 20 0)))))] ++ [(a7, arI cy ((N 17 0).toNat) ((ups fd ((t : Int)) (N 12 (t : Int)))))] ++ [(a8, arZ G ((N 17 0).toNat) ((ups fb ((t : Int)) ((if 0 ≤ N 15 (t : Int) then 1 else 0)))))] ++ wD cy q N sN oN U sU oU A ++ wS G cy qs rr tt N g) (lv' := [(23, .int (enc (((t + 1 : Nat) : Int)))), (22, .int (enc (frI N (t + 1)))), (21, .int (enc (cntIn N (t + 1)))), (17, .ref (a5)), (18, .ref (a6)), (19, .ref (a7)), (20, .ref (a8)), (16, .int (enc (cntC N (N 16 0).toNat))), (12, .ref (a1)), (13, .ref (a2)), (14, .ref (a3)), (15, .ref (a4)), (7, .int (enc (N 17 0))), (6, .int (enc (N 16 0))), (3, .int (enc (ti))), (2, .ref (qs 0)), (1, .ref (q 0)), (0, .ref (bs))]) (st' := []) (rfl) (lvc (i_succ t) (lvc (by rw [frI_s]; first | (rw [if_pos h15]; unfold frayAt; rw [if_pos h15]; done) | (rw [if_neg (by omega)]; done)) (lvc (by rw [cntIn_s]; split <;> omega) rfl))) rfl (ih652 (t + 1) ((ups fr ((t : Int)) (N 8 (t : Int)))) ((ups ff ((t : Int)) (frayAt N (t : Int) (N 20 0)))) ((ups fd ((t : Int)) (N 12 (t : Int)))) ((ups fb ((t : Int)) ((if 0 ≤ N 15 (t : Int) then 1 else 0)))) ((ups fo (N 8 (t : Int)) ((fo (N 8 (t : Int))) + 1))) (by omega) (by omega) (up_next (h := N 8) hfr9) (up_next (h := frN N) hff) (up_next (h := N 12) hfd) (up_next (h := inN N) hfb) (hon))
                      · skip
                        exact (show False by omega).elim
        · skip
          refine tw_iconst X dL_law_711 ?_
          refine tw_goto (tgt := 716) X dL_law_712 (by decide) ?_
          refine tw_aload_n X dL_law_716 16 rfl rfl ?_
          refine tw_iload X dL_law_717 0 rfl ?_
          refine tw_callV X (As := [.int (enc ((t : Int)))]) (st := [.int (enc (1))]) vw_L_122 (m_X4_placeOf (q := q) N sN oN U sU oU A ((t : Int)) (by omega) B hF (by omega)) ([(a1, arI cy ((N 16 0).toNat) fw)] ++ [(a2, arI cy ((N 16 0).toNat) fk)] ++ [(a3, arI cy ((N 16 0).toNat) fs)] ++ [(a4, arI cy ((N 16 0).toNat) fo)] ++ [(a5, arI cy ((N 17 0).toNat) (ups fr ((t : Int)) (N 8 (t : Int))))] ++ [(a6, arI cy ((N 17 0).toNat) (ups ff ((t : Int)) (frayAt N (t : Int) (N 20 0))))] ++ [(a7, arI cy ((N 17 0).toNat) (ups fd ((t : Int)) (N 12 (t : Int))))] ++ [(a8, arZ G ((N 17 0).toNat) (ups fb ((t : Int)) ((if 0 ≤ N 15 (t : Int) then 1 else 0))))]) (wS G cy qs rr tt N g) (List.append_assoc _ _ _) rfl (q0 := 0) rfl rfl rfl ⟨rfl, rfl, Nat.le_of_ble_eq_true rfl, Nat.le_of_ble_eq_true rfl⟩ ⟨(show k + 1 + 1 + 1 + 1 + 0 ≤ 600104 by omega), (show n + 12 + 12 + 12 + 12 + 0 ≤ 7301314 by omega)⟩ (Nat.le_of_ble_eq_true rfl) dL_law_719 (fun v w1 hp => ?_)
          obtain ⟨rfl, rfl⟩ := hp
          refine Teq (ws' := [(a1, arI cy ((N 16 0).toNat) fw)] ++ [(a2, arI cy ((N 16 0).toNat) fk)] ++ [(a3, arI cy ((N 16 0).toNat) fs)] ++ [(a4, arI cy ((N 16 0).toNat) fo)] ++ [(a5, arI cy ((N 17 0).toNat) (ups fr ((t : Int)) (N 8 (t : Int))))] ++ [(a6, arI cy ((N 17 0).toNat) (ups ff ((t : Int)) (frayAt N (t : Int) (N 20 0))))] ++ [(a7, arI cy ((N 17 0).toNat) (ups fd ((t : Int)) (N 12 (t : Int))))] ++ [(a8, arZ G ((N 17 0).toNat) (ups fb ((t : Int)) ((if 0 ≤ N 15 (t : Int) then 1 else 0))))] ++ wD cy q N sN oN U sU oU A ++ wS G cy qs rr tt N g) (lv' := [(23, .int (enc ((t : Int)))), (22, .int (enc (frI N t))), (21, .int (enc (cntIn N t))), (17, .ref (a5)), (18, .ref (a6)), (19, .ref (a7)), (20, .ref (a8)), (16, .int (enc (cntC N (N 16 0).toNat))), (12, .ref (a1)), (13, .ref (a2)), (14, .ref (a3)), (15, .ref (a4)), (7, .int (enc (N 17 0))), (6, .int (enc (N 16 0))), (3, .int (enc (ti))), (2, .ref (qs 0)), (1, .ref (q 0)), (0, .ref (bs))]) (st' := [.int (enc (N 7 (t : Int))), .int (enc (1))]) (List.append_assoc _ _ _).symm rfl rfl ?_
          have b4 := hB 7 (t : Int)
          refine tw_if_ge (tgt := 729) X (In_of (by omega) (by omega)) dL_law_722 (by decide) (fun c722 => ?_) (fun c722 => ?_)
          · skip
            refine tw_iconst X dL_law_729 ?_
            refine tw_icmp_eq (tgt := 774) X (In_of (by omega) (by omega)) (In_of (by omega) (by omega)) dL_law_730 (by decide) (fun c730 => ?_) (fun c730 => ?_)
            · skip
              exact (show False by omega).elim
            · skip
              refine tw_aload X dL_law_733 4 rfl ?_
              refine tw_iload X dL_law_735 0 rfl ?_
              refine tw_iald X (N := (N 17 0).toNat) (f := (ups ff ((t : Int)) (frayAt N (t : Int) (N 20 0)))) 5 rfl (by omega) (by omega) dL_law_737 ?_
              refine Tst (st' := [.int (enc (frayAt N (t : Int) (N 20 0)))]) (by rw [ups_same]) ?_
              refine tw_if_lt (tgt := 774) X (In_of (by omega) (by omega)) dL_law_738 (by decide) (fun c738 => ?_) (fun c738 => ?_)
              · skip
                exact (show False by omega).elim
              · skip
                refine tw_aload X dL_law_741 5 rfl ?_
                refine tw_iload X dL_law_743 0 rfl ?_
                refine tw_iald X (N := (N 17 0).toNat) (f := (ups fd ((t : Int)) (N 12 (t : Int)))) 6 rfl (by omega) (by omega) dL_law_745 ?_
                refine Tst (st' := [.int (enc (N 12 (t : Int)))]) (by rw [ups_same]) ?_
                refine tw_if_lt (tgt := 774) X (In_of (by omega) (by omega)) dL_law_746 (by decide) (fun c746 => ?_) (fun c746 => ?_)
                · skip
                  exact (show False by omega).elim
                · skip
                  refine tw_aload X dL_law_749 5 rfl ?_
                  refine tw_iload X dL_law_751 0 rfl ?_
                  refine tw_iald X (N := (N 17 0).toNat) (f := (ups fd ((t : Int)) (N 12 (t : Int)))) 6 rfl (by omega) (by omega) dL_law_753 ?_
                  refine Tst (st' := [.int (enc (N 12 (t : Int)))]) (by rw [ups_same]) ?_
                  refine tw_iconst X dL_law_754 ?_
                  refine tw_icmp_gt (tgt := 774) X (In_of (by omega) (by omega)) (In_of (by omega) (by omega)) dL_law_755 (by decide) (fun c755 => ?_) (fun c755 => ?_)
                  · skip
                    exact (show False by omega).elim
                  · skip
                    refine tw_aload X dL_law_758 6 rfl ?_
                    refine tw_iload X dL_law_760 0 rfl ?_
                    refine tw_zald X (N := (N 17 0).toNat) (f := (ups fb ((t : Int)) ((if 0 ≤ N 15 (t : Int) then 1 else 0)))) 7 rfl (by omega) (by omega) dL_law_762 ?_
                    refine Tst (st' := [.int (enc (if 0 ≤ N 15 (t : Int) then 1 else 0))]) (by rw [ups_same]) ?_
                    refine tw_if_eq (tgt := 776) X In_b dL_law_763 (by decide) (fun c763 => ?_) (fun c763 => ?_)
                    · skip
                      have h15 := b01.mp c763
                      refine tw_aload X dL_law_776 3 rfl ?_
                      refine tw_iload X dL_law_778 0 rfl ?_
                      refine tw_iald X (N := (N 17 0).toNat) (f := (ups fr ((t : Int)) (N 8 (t : Int)))) 4 rfl (by omega) (by omega) dL_law_780 ?_
                      refine Tst (st' := [.int (enc (N 8 (t : Int)))]) (by rw [ups_same]) ?_
                      refine tw_if_lt (tgt := 796) X (In_of (by omega) (by omega)) dL_law_781 (by decide) (fun c781 => ?_) (fun c781 => ?_)
                      · skip
                        have hon := on_no hfo (by omega)
                        refine tw_iload X dL_law_796 2 rfl ?_
                        refine tw_aload X dL_law_798 6 rfl ?_
                        refine tw_iload X dL_law_800 0 rfl ?_
                        refine tw_zald X (N := (N 17 0).toNat) (f := (ups fb ((t : Int)) ((if 0 ≤ N 15 (t : Int) then 1 else 0)))) 7 rfl (by omega) (by omega) dL_law_802 ?_
                        refine Tst (st' := [.int (enc (if 0 ≤ N 15 (t : Int) then 1 else 0)), .int (enc (cntIn N t))]) (by rw [ups_same]) ?_
                        refine tw_if_eq (tgt := 810) X In_b dL_law_803 (by decide) (fun c803 => ?_) (fun c803 => ?_)
                        · skip
                          refine tw_iconst X dL_law_810 ?_
                          refine tw_iadd (z := (cntIn N t) + 0) X dL_law_811 rfl ?_
                          refine tw_istore (lv' := [(21, .int (enc ((cntIn N t) + 0))), (23, .int (enc ((t : Int)))), (22, .int (enc (frI N t))), (17, .ref (a5)), (18, .ref (a6)), (19, .ref (a7)), (20, .ref (a8)), (16, .int (enc (cntC N (N 16 0).toNat))), (12, .ref (a1)), (13, .ref (a2)), (14, .ref (a3)), (15, .ref (a4)), (7, .int (enc (N 17 0))), (6, .int (enc (N 16 0))), (3, .int (enc (ti))), (2, .ref (qs 0)), (1, .ref (q 0)), (0, .ref (bs))]) X dL_law_812 (by decide) rfl ?_
                          refine tw_iload X dL_law_814 2 rfl ?_
                          refine tw_aload X dL_law_816 6 rfl ?_
                          refine tw_iload X dL_law_818 1 rfl ?_
                          refine tw_zald X (N := (N 17 0).toNat) (f := (ups fb ((t : Int)) ((if 0 ≤ N 15 (t : Int) then 1 else 0)))) 7 rfl (by omega) (by omega) dL_law_820 ?_
                          refine Tst (st' := [.int (enc (if 0 ≤ N 15 (t : Int) then 1 else 0)), .int (enc (frI N t))]) (by rw [ups_same]) ?_
                          refine tw_if_eq (tgt := 832) X In_b dL_law_821 (by decide) (fun c821 => ?_) (fun c821 => ?_)
                          · skip
                            refine tw_iconst X dL_law_832 ?_
                            refine tw_iadd (z := (frI N t) + 0) X dL_law_833 rfl ?_
                            refine tw_istore (lv' := [(22, .int (enc ((frI N t) + 0))), (21, .int (enc ((cntIn N t) + 0))), (23, .int (enc ((t : Int)))), (17, .ref (a5)), (18, .ref (a6)), (19, .ref (a7)), (20, .ref (a8)), (16, .int (enc (cntC N (N 16 0).toNat))), (12, .ref (a1)), (13, .ref (a2)), (14, .ref (a3)), (15, .ref (a4)), (7, .int (enc (N 17 0))), (6, .int (enc (N 16 0))), (3, .int (enc (ti))), (2, .ref (qs 0)), (1, .ref (q 0)), (0, .ref (bs))]) X dL_law_834 (by decide) rfl ?_
                            refine tw_iinc (q := 2) (x := (t : Int)) (y := (t : Int) + 1) (lv' := [(23, .int (enc ((t : Int) + 1))), (22, .int (enc ((frI N t) + 0))), (21, .int (enc ((cntIn N t) + 0))), (17, .ref (a5)), (18, .ref (a6)), (19, .ref (a7)), (20, .ref (a8)), (16, .int (enc (cntC N (N 16 0).toNat))), (12, .ref (a1)), (13, .ref (a2)), (14, .ref (a3)), (15, .ref (a4)), (7, .int (enc (N 17 0))), (6, .int (enc (N 16 0))), (3, .int (enc (ti))), (2, .ref (qs 0)), (1, .ref (q 0)), (0, .ref (bs))]) X dL_law_836 rfl rfl (by decide) rfl ?_
                            refine tw_goto (tgt := 652) X dL_law_839 (by decide) ?_
                            refine Tsub (lv' := [(23, .int (enc ((t : Int) + 1))), (22, .int (enc ((frI N t) + 0))), (21, .int (enc ((cntIn N t) + 0))), (17, .ref (a5)), (18, .ref (a6)), (19, .ref (a7)), (20, .ref (a8)), (16, .int (enc (cntC N (N 16 0).toNat))), (12, .ref (a1)), (13, .ref (a2)), (14, .ref (a3)), (15, .ref (a4)), (7, .int (enc (N 17 0))), (6, .int (enc (N 16 0))), (3, .int (enc (ti))), (2, .ref (qs 0)), (1, .ref (q 0)), (0, .ref (bs))]) [0, 1, 2, 3, 4, 5, 6, 7, 8, 9, 10, 11, 12, 13, 14, 15, 16, 17] rfl ?_
                            refine Teq (ws' := [(a1, arI cy ((N 16 0).toNat) fw)] ++ [(a2, arI cy ((N 16 0).toNat) fk)] ++ [(a3, arI cy ((N 16 0).toNat) fs)] ++ [(a4, arI cy ((N 16 0).toNat) (fo))] ++ [(a5, arI cy ((N 17 0).toNat) ((ups fr ((t : Int)) (N 8 (t : Int)))))] ++ [(a6, arI cy ((N 17 0).toNat) ((ups ff ((t : Int)) (frayAt N (t : Int) (N 20 0)))))] ++ [(a7, arI cy ((N 17 0).toNat) ((ups fd ((t : Int)) (N 12 (t : Int)))))] ++ [(a8, arZ G ((N 17 0).toNat) ((ups fb ((t : Int)) ((if 0 ≤ N 15 (t : Int) then 1 else 0)))))] ++ wD cy q N sN oN U sU oU A ++ wS G cy qs rr tt N g) (lv' := [(23, .int (enc (((t + 1 : Nat) : Int)))), (22, .int (enc (frI N (t + 1)))), (21, .int (enc (cntIn N (t + 1)))), (17, .ref (a5)), (18, .ref (a6)), (19, .ref (a7)), (20, .ref (a8)), (16, .int (enc (cntC N (N 16 0).toNat))), (12, .ref (a1)), (13, .ref (a2)), (14, .ref (a3)), (15, .ref (a4)), (7, .int (enc (N 17 0))), (6, .int (enc (N 16 0))), (3, .int (enc (ti))), (2, .ref (qs 0)), (1, .ref (q 0)), (0, .ref (bs))]) (st' := []) (rfl) (lvc (i_succ t) (lvc (by rw [frI_s]; first | (rw [if_pos h15]; unfold frayAt; rw [if_pos h15]; done) | (rw [if_neg (by omega)]; done)) (lvc (by rw [cntIn_s]; split <;> omega) rfl))) rfl (ih652 (t + 1) ((ups fr ((t : Int)) (N 8 (t : Int)))) ((ups ff ((t : Int)) (frayAt N (t : Int) (N 20 0)))) ((ups fd ((t : Int)) (N 12 (t : Int)))) ((ups fb ((t : Int)) ((if 0 ≤ N 15 (t : Int) then 1 else 0)))) (fo) (by omega) (by omega) (up_next (h := N 8) hfr9) (up_next (h := frN N) hff) (up_next (h := N 12) hfd) (up_next (h := inN N) hfb) (hon))
                          · exact (show False by omega).elim
                        · exact (show False by omega).elim
                      · exact (show False by omega).elim
                    · skip
                      have h15 := b01n.mp c763
                      refine tw_aload X dL_law_766 3 rfl ?_
                      refine tw_iload X dL_law_768 0 rfl ?_
                      refine tw_iald X (N := (N 17 0).toNat) (f := (ups fr ((t : Int)) (N 8 (t : Int)))) 4 rfl (by omega) (by omega) dL_law_770 ?_
                      refine Tst (st' := [.int (enc (N 8 (t : Int)))]) (by rw [ups_same]) ?_
                      refine tw_if_lt (tgt := 776) X (In_of (by omega) (by omega)) dL_law_771 (by decide) (fun c771 => ?_) (fun c771 => ?_)
                      · skip
                        refine tw_aload X dL_law_776 3 rfl ?_
                        refine tw_iload X dL_law_778 0 rfl ?_
                        refine tw_iald X (N := (N 17 0).toNat) (f := (ups fr ((t : Int)) (N 8 (t : Int)))) 4 rfl (by omega) (by omega) dL_law_780 ?_
                        refine Tst (st' := [.int (enc (N 8 (t : Int)))]) (by rw [ups_same]) ?_
                        refine tw_if_lt (tgt := 796) X (In_of (by omega) (by omega)) dL_law_781 (by decide) (fun c781 => ?_) (fun c781 => ?_)
                        · skip
                          have hon := on_no hfo (by omega)
                          refine tw_iload X dL_law_796 2 rfl ?_
                          refine tw_aload X dL_law_798 6 rfl ?_
                          refine tw_iload X dL_law_800 0 rfl ?_
                          refine tw_zald X (N := (N 17 0).toNat) (f := (ups fb ((t : Int)) ((if 0 ≤ N 15 (t : Int) then 1 else 0)))) 7 rfl (by omega) (by omega) dL_law_802 ?_
                          refine Tst (st' := [.int (enc (if 0 ≤ N 15 (t : Int) then 1 else 0)), .int (enc (cntIn N t))]) (by rw [ups_same]) ?_
                          refine tw_if_eq (tgt := 810) X In_b dL_law_803 (by decide) (fun c803 => ?_) (fun c803 => ?_)
                          · exact (show False by omega).elim
                          · skip
                            refine tw_iconst X dL_law_806 ?_
                            refine tw_goto (tgt := 811) X dL_law_807 (by decide) ?_
                            refine tw_iadd (z := (cntIn N t) + 1) X dL_law_811 rfl ?_
                            refine tw_istore (lv' := [(21, .int (enc ((cntIn N t) + 1))), (23, .int (enc ((t : Int)))), (22, .int (enc (frI N t))), (17, .ref (a5)), (18, .ref (a6)), (19, .ref (a7)), (20, .ref (a8)), (16, .int (enc (cntC N (N 16 0).toNat))), (12, .ref (a1)), (13, .ref (a2)), (14, .ref (a3)), (15, .ref (a4)), (7, .int (enc (N 17 0))), (6, .int (enc (N 16 0))), (3, .int (enc (ti))), (2, .ref (qs 0)), (1, .ref (q 0)), (0, .ref (bs))]) X dL_law_812 (by decide) rfl ?_
                            refine tw_iload X dL_law_814 2 rfl ?_
                            refine tw_aload X dL_law_816 6 rfl ?_
                            refine tw_iload X dL_law_818 1 rfl ?_
                            refine tw_zald X (N := (N 17 0).toNat) (f := (ups fb ((t : Int)) ((if 0 ≤ N 15 (t : Int) then 1 else 0)))) 7 rfl (by omega) (by omega) dL_law_820 ?_
                            refine Tst (st' := [.int (enc (if 0 ≤ N 15 (t : Int) then 1 else 0)), .int (enc (frI N t))]) (by rw [ups_same]) ?_
                            refine tw_if_eq (tgt := 832) X In_b dL_law_821 (by decide) (fun c821 => ?_) (fun c821 => ?_)
                            · exact (show False by omega).elim
                            · skip
                              refine tw_aload X dL_law_824 4 rfl ?_
                              refine tw_iload X dL_law_826 1 rfl ?_
                              refine tw_iald X (N := (N 17 0).toNat) (f := (ups ff ((t : Int)) (frayAt N (t : Int) (N 20 0)))) 5 rfl (by omega) (by omega) dL_law_828 ?_
                              refine Tst (st' := [.int (enc (frayAt N (t : Int) (N 20 0))), .int (enc (frI N t))]) (by rw [ups_same]) ?_
                              refine tw_goto (tgt := 833) X dL_law_829 (by decide) ?_
                              refine tw_iadd (z := (frI N t) + (frayAt N (t : Int) (N 20 0))) X dL_law_833 rfl ?_
                              refine tw_istore (lv' := [(22, .int (enc ((frI N t) + (frayAt N (t : Int) (N 20 0))))), (21, .int (enc ((cntIn N t) + 1))), (23, .int (enc ((t : Int)))), (17, .ref (a5)), (18, .ref (a6)), (19, .ref (a7)), (20, .ref (a8)), (16, .int (enc (cntC N (N 16 0).toNat))), (12, .ref (a1)), (13, .ref (a2)), (14, .ref (a3)), (15, .ref (a4)), (7, .int (enc (N 17 0))), (6, .int (enc (N 16 0))), (3, .int (enc (ti))), (2, .ref (qs 0)), (1, .ref (q 0)), (0, .ref (bs))]) X dL_law_834 (by decide) rfl ?_
                              refine tw_iinc (q := 2) (x := (t : Int)) (y := (t : Int) + 1) (lv' := [(23, .int (enc ((t : Int) + 1))), (22, .int (enc ((frI N t) + (frayAt N (t : Int) (N 20 0))))), (21, .int (enc ((cntIn N t) + 1))), (17, .ref (a5)), (18, .ref (a6)), (19, .ref (a7)), (20, .ref (a8)), (16, .int (enc (cntC N (N 16 0).toNat))), (12, .ref (a1)), (13, .ref (a2)), (14, .ref (a3)), (15, .ref (a4)), (7, .int (enc (N 17 0))), (6, .int (enc (N 16 0))), (3, .int (enc (ti))), (2, .ref (qs 0)), (1, .ref (q 0)), (0, .ref (bs))]) X dL_law_836 rfl rfl (by decide) rfl ?_
                              refine tw_goto (tgt := 652) X dL_law_839 (by decide) ?_
                              refine Tsub (lv' := [(23, .int (enc ((t : Int) + 1))), (22, .int (enc ((frI N t) + (frayAt N (t : Int) (N 20 0))))), (21, .int (enc ((cntIn N t) + 1))), (17, .ref (a5)), (18, .ref (a6)), (19, .ref (a7)), (20, .ref (a8)), (16, .int (enc (cntC N (N 16 0).toNat))), (12, .ref (a1)), (13, .ref (a2)), (14, .ref (a3)), (15, .ref (a4)), (7, .int (enc (N 17 0))), (6, .int (enc (N 16 0))), (3, .int (enc (ti))), (2, .ref (qs 0)), (1, .ref (q 0)), (0, .ref (bs))]) [0, 1, 2, 3, 4, 5, 6, 7, 8, 9, 10, 11, 12, 13, 14, 15, 16, 17] rfl ?_
                              refine Teq (ws' := [(a1, arI cy ((N 16 0).toNat) fw)] ++ [(a2, arI cy ((N 16 0).toNat) fk)] ++ [(a3, arI cy ((N 16 0).toNat) fs)] ++ [(a4, arI cy ((N 16 0).toNat) (fo))] ++ [(a5, arI cy ((N 17 0).toNat) ((ups fr ((t : Int)) (N 8 (t : Int)))))] ++ [(a6, arI cy ((N 17 0).toNat) ((ups ff ((t : Int)) (frayAt N (t : Int) (N 20 0)))))] ++ [(a7, arI cy ((N 17 0).toNat) ((ups fd ((t : Int)) (N 12 (t : Int)))))] ++ [(a8, arZ G ((N 17 0).toNat) ((ups fb ((t : Int)) ((if 0 ≤ N 15 (t : Int) then 1 else 0)))))] ++ wD cy q N sN oN U sU oU A ++ wS G cy qs rr tt N g) (lv' := [(23, .int (enc (((t + 1 : Nat) : Int)))), (22, .int (enc (frI N (t + 1)))), (21, .int (enc (cntIn N (t + 1)))), (17, .ref (a5)), (18, .ref (a6)), (19, .ref (a7)), (20, .ref (a8)), (16, .int (enc (cntC N (N 16 0).toNat))), (12, .ref (a1)), (13, .ref (a2)), (14, .ref (a3)), (15, .ref (a4)), (7, .int (enc (N 17 0))), (6, .int (enc (N 16 0))), (3, .int (enc (ti))), (2, .ref (qs 0)), (1, .ref (q 0)), (0, .ref (bs))]) (st' := []) (rfl) (lvc (i_succ t) (lvc (by rw [frI_s]; first | (rw [if_pos h15]; unfold frayAt; rw [if_pos h15]; done) | (rw [if_neg (by omega)]; done)) (lvc (by rw [cntIn_s]; split <;> omega) rfl))) rfl (ih652 (t + 1) ((ups fr ((t : Int)) (N 8 (t : Int)))) ((ups ff ((t : Int)) (frayAt N (t : Int) (N 20 0)))) ((ups fd ((t : Int)) (N 12 (t : Int)))) ((ups fb ((t : Int)) ((if 0 ≤ N 15 (t : Int) then 1 else 0)))) (fo) (by omega) (by omega) (up_next (h := N 8) hfr9) (up_next (h := frN N) hff) (up_next (h := N 12) hfd) (up_next (h := inN N) hfb) (hon))
                        · exact (show False by omega).elim
                      · skip
                        exact (show False by omega).elim
          · exact (show False by omega).elim
  refine Tsub (lv' := [(23, .int (enc (0))), (22, .int (enc (0))), (21, .int (enc (0))), (17, .ref (a5)), (18, .ref (a6)), (19, .ref (a7)), (20, .ref (a8)), (16, .int (enc (cntC N (N 16 0).toNat))), (12, .ref (a1)), (13, .ref (a2)), (14, .ref (a3)), (15, .ref (a4)), (7, .int (enc (N 17 0))), (6, .int (enc (N 16 0))), (3, .int (enc (ti))), (2, .ref (qs 0)), (1, .ref (q 0)), (0, .ref (bs))]) [0, 1, 2, 6, 5, 4, 3, 7, 8, 9, 10, 11, 12, 13, 14, 15, 16, 17] rfl ?_
  refine Teq (ws' := [(a1, arI cy ((N 16 0).toNat) fw)] ++ [(a2, arI cy ((N 16 0).toNat) fk)] ++ [(a3, arI cy ((N 16 0).toNat) fs)] ++ [(a4, arI cy ((N 16 0).toNat) (fun _ => 0))] ++ [(a5, arI cy ((N 17 0).toNat) (fun _ => 0))] ++ [(a6, arI cy ((N 17 0).toNat) (fun _ => 0))] ++ [(a7, arI cy ((N 17 0).toNat) (fun _ => 0))] ++ [(a8, arZ G ((N 17 0).toNat) (fun _ => 0))] ++ wD cy q N sN oN U sU oU A ++ wS G cy qs rr tt N g) (lv' := [(23, .int (enc (((0 : Nat) : Int)))), (22, .int (enc (frI N 0))), (21, .int (enc (cntIn N 0))), (17, .ref (a5)), (18, .ref (a6)), (19, .ref (a7)), (20, .ref (a8)), (16, .int (enc (cntC N (N 16 0).toNat))), (12, .ref (a1)), (13, .ref (a2)), (14, .ref (a3)), (15, .ref (a4)), (7, .int (enc (N 17 0))), (6, .int (enc (N 16 0))), (3, .int (enc (ti))), (2, .ref (qs 0)), (1, .ref (q 0)), (0, .ref (bs))]) (st' := []) (rfl) (rfl) rfl (L652 (N 17 0 + 1).toNat 0 (fun _ => 0) (fun _ => 0) (fun _ => 0) (fun _ => 0) (fun _ => 0) (by omega) (by omega) (fun r r0 r1 => absurd r1 (by omega)) (fun r r0 r1 => absurd r1 (by omega)) (fun r r0 r1 => absurd r1 (by omega)) (fun r r0 r1 => absurd r1 (by omega)) (fun r r0 r1 => rfl))
set_option maxRecDepth 100000 in
set_option maxHeartbeats 4000000 in
theorem law_s4 {G : va_G} {cy : ClassId} {c : Cx} (X : Ok G cy c cL_law RL 31 room_1) {q qs rr tt : Nat → Nat} (N : MT) (sN : Int → Int) (oN : Int) (U : MT) (sU : Int → Int) (oU : Int) (A : Int → Int) (g : Int → Int) (bs : Nat) (ti B : Int) (hI : INV N g B) (hB2 : B ≤ 500000) (hV : WVo N sN oN) (k n : Nat) (a1 a2 a3 a4 : Nat) (fw fk fs : Int → Int) (a5 a6 a7 a8 : Nat) (fr ff fd fb fo : Int → Int) (hk : k ≤ 600104) (hn : n ≤ 7301314) (hfo : (∀ r : Int, 0 ≤ r → r < N 16 0 → fo r = onR N r (N 17 0).toNat)) (kk : T G c room_1 31 k n ([(a1, arI cy ((N 16 0).toNat) fw)] ++ [(a2, arI cy ((N 16 0).toNat) fk)] ++ [(a3, arI cy ((N 16 0).toNat) fs)] ++ [(a4, arI cy ((N 16 0).toNat) fo)] ++ [(a5, arI cy ((N 17 0).toNat) fr)] ++ [(a6, arI cy ((N 17 0).toNat) ff)] ++ [(a7, arI cy ((N 17 0).toNat) fd)] ++ [(a8, arZ G ((N 17 0).toNat) fb)] ++ wD cy q N sN oN U sU oU A ++ wS G cy qs rr tt N g) 930 [(17, .ref (a5)), (18, .ref (a6)), (19, .ref (a7)), (20, .ref (a8)), (12, .ref (a1)), (13, .ref (a2)), (14, .ref (a3)), (15, .ref (a4)), (7, .int (enc (N 17 0))), (6, .int (enc (N 16 0))), (3, .int (enc (ti))), (2, .ref (qs 0)), (1, .ref (q 0)), (0, .ref (bs))] []) : T G c room_1 31 k n ([(a1, arI cy ((N 16 0).toNat) fw)] ++ [(a2, arI cy ((N 16 0).toNat) fk)] ++ [(a3, arI cy ((N 16 0).toNat) fs)] ++ [(a4, arI cy ((N 16 0).toNat) fo)] ++ [(a5, arI cy ((N 17 0).toNat) fr)] ++ [(a6, arI cy ((N 17 0).toNat) ff)] ++ [(a7, arI cy ((N 17 0).toNat) fd)] ++ [(a8, arZ G ((N 17 0).toNat) fb)] ++ wD cy q N sN oN U sU oU A ++ wS G cy qs rr tt N g) 842 [(22, .int (enc (frI N (N 17 0).toNat))), (21, .int (enc (cntIn N (N 17 0).toNat))), (17, .ref (a5)), (18, .ref (a6)), (19, .ref (a7)), (20, .ref (a8)), (16, .int (enc (cntC N (N 16 0).toNat))), (12, .ref (a1)), (13, .ref (a2)), (14, .ref (a3)), (15, .ref (a4)), (7, .int (enc (N 17 0))), (6, .int (enc (N 16 0))), (3, .int (enc (ti))), (2, .ref (qs 0)), (1, .ref (q 0)), (0, .ref (bs))] [] := by
  have hF := hI.1
  have hB := hF.bd (by omega)
  obtain ⟨w0, w1, w2, w3, w4⟩ := hF.r
  have h17 := hF.2.2.2.2.2.1
  have h172 := hF.2.2.2.2.2.2.1
  have h20 := hF.2.2.2.2.2.2.2.1
  have hcc := cntC_rng N (N 16 0).toNat
  have hci := cntIn_rng N (N 17 0).toNat
  have hcf := cntIn_full hF
  have hfi := frI_rng hB (N 17 0).toNat
  have hmw := mostW_rng N (N 16 0).toNat
  have hmn := mostW_none (fun r => (hF.2.2.2.1 r).1) (fun r => (hF.2.2.2.1 r).2.1) (N 16 0).toNat
  refine tw_iconst X dL_law_842 ?_
  refine tw_istore (lv' := [(23, .int (enc (0))), (22, .int (enc (frI N (N 17 0).toNat))), (21, .int (enc (cntIn N (N 17 0).toNat))), (17, .ref (a5)), (18, .ref (a6)), (19, .ref (a7)), (20, .ref (a8)), (16, .int (enc (cntC N (N 16 0).toNat))), (12, .ref (a1)), (13, .ref (a2)), (14, .ref (a3)), (15, .ref (a4)), (7, .int (enc (N 17 0))), (6, .int (enc (N 16 0))), (3, .int (enc (ti))), (2, .ref (qs 0)), (1, .ref (q 0)), (0, .ref (bs))]) X dL_law_843 (by decide) rfl ?_
  have L845 : ∀ (fu i : Nat), (i : Int) ≤ N 16 0 → N 16 0 + 1 ≤ (i : Int) + fu → T G c room_1 31 k n ([(a1, arI cy ((N 16 0).toNat) fw)] ++ [(a2, arI cy ((N 16 0).toNat) fk)] ++ [(a3, arI cy ((N 16 0).toNat) fs)] ++ [(a4, arI cy ((N 16 0).toNat) fo)] ++ [(a5, arI cy ((N 17 0).toNat) fr)] ++ [(a6, arI cy ((N 17 0).toNat) ff)] ++ [(a7, arI cy ((N 17 0).toNat) fd)] ++ [(a8, arZ G ((N 17 0).toNat) fb)] ++ wD cy q N sN oN U sU oU A ++ wS G cy qs rr tt N g) 845 [(23, .int (enc ((i : Int)))), (22, .int (enc (frI N (N 17 0).toNat))), (21, .int (enc (cntIn N (N 17 0).toNat))), (17, .ref (a5)), (18, .ref (a6)), (19, .ref (a7)), (20, .ref (a8)), (16, .int (enc (cntC N (N 16 0).toNat))), (12, .ref (a1)), (13, .ref (a2)), (14, .ref (a3)), (15, .ref (a4)), (7, .int (enc (N 17 0))), (6, .int (enc (N 16 0))), (3, .int (enc (ti))), (2, .ref (qs 0)), (1, .ref (q 0)), (0, .ref (bs))] [] := by
    intro fu
    induction fu with
    | zero =>
      intro i  hi0 hi1
      exact absurd hi1 (by omega)
    | succ fu ih845 =>
      intro i  hi0_845 hi1_845 
      refine tw_iload X dL_law_845 0 rfl ?_
      refine tw_iload X dL_law_847 13 rfl ?_
      refine tw_icmp_ge (tgt := 874) X (In_of (by omega) (by omega)) (In_of (by omega) (by omega)) dL_law_849 (by decide) (fun c849 => ?_) (fun c849 => ?_)
      · skip
        refine tw_iload X dL_law_874 7 rfl ?_
        refine tw_aload_n X dL_law_876 16 rfl rfl ?_
        refine tw_callV X (As := []) (st := [.int (enc (cntC N (N 16 0).toNat))]) vw_L_128 (m_X4_closedRoads (q := q) N sN oN U sU oU A hB (by omega)) ([(a1, arI cy ((N 16 0).toNat) fw)] ++ [(a2, arI cy ((N 16 0).toNat) fk)] ++ [(a3, arI cy ((N 16 0).toNat) fs)] ++ [(a4, arI cy ((N 16 0).toNat) fo)] ++ [(a5, arI cy ((N 17 0).toNat) fr)] ++ [(a6, arI cy ((N 17 0).toNat) ff)] ++ [(a7, arI cy ((N 17 0).toNat) fd)] ++ [(a8, arZ G ((N 17 0).toNat) fb)]) (wS G cy qs rr tt N g) (List.append_assoc _ _ _) rfl (q0 := 0) rfl rfl rfl ⟨rfl, rfl, Nat.le_of_ble_eq_true rfl, Nat.le_of_ble_eq_true rfl⟩ ⟨(show k + 0 ≤ 600104 by omega), (show n + 0 ≤ 7301314 by omega)⟩ (Nat.le_of_ble_eq_true rfl) dL_law_877 (fun v w1 hp => ?_)
        obtain ⟨rfl, rfl⟩ := hp
        refine Teq (ws' := [(a1, arI cy ((N 16 0).toNat) fw)] ++ [(a2, arI cy ((N 16 0).toNat) fk)] ++ [(a3, arI cy ((N 16 0).toNat) fs)] ++ [(a4, arI cy ((N 16 0).toNat) fo)] ++ [(a5, arI cy ((N 17 0).toNat) fr)] ++ [(a6, arI cy ((N 17 0).toNat) ff)] ++ [(a7, arI cy ((N 17 0).toNat) fd)] ++ [(a8, arZ G ((N 17 0).toNat) fb)] ++ wD cy q N sN oN U sU oU A ++ wS G cy qs rr tt N g) (lv' := [(23, .int (enc ((i : Int)))), (22, .int (enc (frI N (N 17 0).toNat))), (21, .int (enc (cntIn N (N 17 0).toNat))), (17, .ref (a5)), (18, .ref (a6)), (19, .ref (a7)), (20, .ref (a8)), (16, .int (enc (cntC N (N 16 0).toNat))), (12, .ref (a1)), (13, .ref (a2)), (14, .ref (a3)), (15, .ref (a4)), (7, .int (enc (N 17 0))), (6, .int (enc (N 16 0))), (3, .int (enc (ti))), (2, .ref (qs 0)), (1, .ref (q 0)), (0, .ref (bs))]) (st' := [.int (enc (cntC N (N 16 0).toNat)), .int (enc (cntC N (N 16 0).toNat))]) (List.append_assoc _ _ _).symm rfl rfl ?_
        refine tw_icmp_ne (tgt := 928) X (In_of (by omega) (by omega)) (In_of (by omega) (by omega)) dL_law_880 (by decide) (fun c880 => ?_) (fun c880 => ?_)
        · skip
          exact (show False by omega).elim
        · skip
          refine tw_iload X dL_law_883 2 rfl ?_
          refine tw_aload_n X dL_law_885 16 rfl rfl ?_
          refine tw_callV X (As := []) (st := [.int (enc (cntIn N (N 17 0).toNat))]) vw_L_131 (m_X4_arrived (q := q) N sN oN U sU oU A) ([(a1, arI cy ((N 16 0).toNat) fw)] ++ [(a2, arI cy ((N 16 0).toNat) fk)] ++ [(a3, arI cy ((N 16 0).toNat) fs)] ++ [(a4, arI cy ((N 16 0).toNat) fo)] ++ [(a5, arI cy ((N 17 0).toNat) fr)] ++ [(a6, arI cy ((N 17 0).toNat) ff)] ++ [(a7, arI cy ((N 17 0).toNat) fd)] ++ [(a8, arZ G ((N 17 0).toNat) fb)]) (wS G cy qs rr tt N g) (List.append_assoc _ _ _) rfl (q0 := 0) rfl rfl rfl ⟨rfl, rfl, Nat.le_of_ble_eq_true rfl, Nat.le_of_ble_eq_true rfl⟩ ⟨(show k + 0 ≤ 600104 by omega), (show n + 0 ≤ 7301314 by omega)⟩ (Nat.le_of_ble_eq_true rfl) dL_law_886 (fun v w1 hp => ?_)
          obtain ⟨rfl, rfl⟩ := hp
          refine Teq (ws' := [(a1, arI cy ((N 16 0).toNat) fw)] ++ [(a2, arI cy ((N 16 0).toNat) fk)] ++ [(a3, arI cy ((N 16 0).toNat) fs)] ++ [(a4, arI cy ((N 16 0).toNat) fo)] ++ [(a5, arI cy ((N 17 0).toNat) fr)] ++ [(a6, arI cy ((N 17 0).toNat) ff)] ++ [(a7, arI cy ((N 17 0).toNat) fd)] ++ [(a8, arZ G ((N 17 0).toNat) fb)] ++ wD cy q N sN oN U sU oU A ++ wS G cy qs rr tt N g) (lv' := [(23, .int (enc ((i : Int)))), (22, .int (enc (frI N (N 17 0).toNat))), (21, .int (enc (cntIn N (N 17 0).toNat))), (17, .ref (a5)), (18, .ref (a6)), (19, .ref (a7)), (20, .ref (a8)), (16, .int (enc (cntC N (N 16 0).toNat))), (12, .ref (a1)), (13, .ref (a2)), (14, .ref (a3)), (15, .ref (a4)), (7, .int (enc (N 17 0))), (6, .int (enc (N 16 0))), (3, .int (enc (ti))), (2, .ref (qs 0)), (1, .ref (q 0)), (0, .ref (bs))]) (st' := [.int (enc (N 18 0)), .int (enc (cntIn N (N 17 0).toNat))]) (List.append_assoc _ _ _).symm rfl rfl ?_
          have b1 := hB 18 0
          refine tw_icmp_ne (tgt := 928) X (In_of (by omega) (by omega)) (In_of (by omega) (by omega)) dL_law_889 (by decide) (fun c889 => ?_) (fun c889 => ?_)
          · skip
            exact (show False by omega).elim
          · skip
            refine tw_iload X dL_law_892 1 rfl ?_
            refine tw_aload_n X dL_law_894 16 rfl rfl ?_
            refine tw_callV X (As := []) (st := [.int (enc (frI N (N 17 0).toNat))]) vw_L_134 (m_X4_allFrayed (q := q) N sN oN U sU oU A hB (by omega)) ([(a1, arI cy ((N 16 0).toNat) fw)] ++ [(a2, arI cy ((N 16 0).toNat) fk)] ++ [(a3, arI cy ((N 16 0).toNat) fs)] ++ [(a4, arI cy ((N 16 0).toNat) fo)] ++ [(a5, arI cy ((N 17 0).toNat) fr)] ++ [(a6, arI cy ((N 17 0).toNat) ff)] ++ [(a7, arI cy ((N 17 0).toNat) fd)] ++ [(a8, arZ G ((N 17 0).toNat) fb)]) (wS G cy qs rr tt N g) (List.append_assoc _ _ _) rfl (q0 := 0) rfl rfl rfl ⟨rfl, rfl, Nat.le_of_ble_eq_true rfl, Nat.le_of_ble_eq_true rfl⟩ ⟨(show k + 0 ≤ 600104 by omega), (show n + 0 ≤ 7301314 by omega)⟩ (Nat.le_of_ble_eq_true rfl) dL_law_895 (fun v w1 hp => ?_)
            obtain ⟨rfl, rfl⟩ := hp
            refine Teq (ws' := [(a1, arI cy ((N 16 0).toNat) fw)] ++ [(a2, arI cy ((N 16 0).toNat) fk)] ++ [(a3, arI cy ((N 16 0).toNat) fs)] ++ [(a4, arI cy ((N 16 0).toNat) fo)] ++ [(a5, arI cy ((N 17 0).toNat) fr)] ++ [(a6, arI cy ((N 17 0).toNat) ff)] ++ [(a7, arI cy ((N 17 0).toNat) fd)] ++ [(a8, arZ G ((N 17 0).toNat) fb)] ++ wD cy q N sN oN U sU oU A ++ wS G cy qs rr tt N g) (lv' := [(23, .int (enc ((i : Int)))), (22, .int (enc (frI N (N 17 0).toNat))), (21, .int (enc (cntIn N (N 17 0).toNat))), (17, .ref (a5)), (18, .ref (a6)), (19, .ref (a7)), (20, .ref (a8)), (16, .int (enc (cntC N (N 16 0).toNat))), (12, .ref (a1)), (13, .ref (a2)), (14, .ref (a3)), (15, .ref (a4)), (7, .int (enc (N 17 0))), (6, .int (enc (N 16 0))), (3, .int (enc (ti))), (2, .ref (qs 0)), (1, .ref (q 0)), (0, .ref (bs))]) (st' := [.int (enc (frI N (N 17 0).toNat)), .int (enc (frI N (N 17 0).toNat))]) (List.append_assoc _ _ _).symm rfl rfl ?_
            refine tw_icmp_ne (tgt := 928) X (In_of (by omega) (by omega)) (In_of (by omega) (by omega)) dL_law_898 (by decide) (fun c898 => ?_) (fun c898 => ?_)
            · skip
              exact (show False by omega).elim
            · skip
              refine tw_aload_n X dL_law_901 16 rfl rfl ?_
              refine tw_callV X (As := []) (st := []) vw_L_106 (m_X4_mostWorn (q := q) N sN oN U sU oU A hB (by omega)) ([(a1, arI cy ((N 16 0).toNat) fw)] ++ [(a2, arI cy ((N 16 0).toNat) fk)] ++ [(a3, arI cy ((N 16 0).toNat) fs)] ++ [(a4, arI cy ((N 16 0).toNat) fo)] ++ [(a5, arI cy ((N 17 0).toNat) fr)] ++ [(a6, arI cy ((N 17 0).toNat) ff)] ++ [(a7, arI cy ((N 17 0).toNat) fd)] ++ [(a8, arZ G ((N 17 0).toNat) fb)]) (wS G cy qs rr tt N g) (List.append_assoc _ _ _) rfl (q0 := 0) rfl rfl rfl ⟨rfl, rfl, Nat.le_of_ble_eq_true rfl, Nat.le_of_ble_eq_true rfl⟩ ⟨(show k + 0 ≤ 600104 by omega), (show n + 0 ≤ 7301314 by omega)⟩ (Nat.le_of_ble_eq_true rfl) dL_law_902 (fun v w1 hp => ?_)
              obtain ⟨rfl, rfl⟩ := hp
              refine Teq (ws' := [(a1, arI cy ((N 16 0).toNat) fw)] ++ [(a2, arI cy ((N 16 0).toNat) fk)] ++ [(a3, arI cy ((N 16 0).toNat) fs)] ++ [(a4, arI cy ((N 16 0).toNat) fo)] ++ [(a5, arI cy ((N 17 0).toNat) fr)] ++ [(a6, arI cy ((N 17 0).toNat) ff)] ++ [(a7, arI cy ((N 17 0).toNat) fd)] ++ [(a8, arZ G ((N 17 0).toNat) fb)] ++ wD cy q N sN oN U sU oU A ++ wS G cy qs rr tt N g) (lv' := [(23, .int (enc ((i : Int)))), (22, .int (enc (frI N (N 17 0).toNat))), (21, .int (enc (cntIn N (N 17 0).toNat))), (17, .ref (a5)), (18, .ref (a6)), (19, .ref (a7)), (20, .ref (a8)), (16, .int (enc (cntC N (N 16 0).toNat))), (12, .ref (a1)), (13, .ref (a2)), (14, .ref (a3)), (15, .ref (a4)), (7, .int (enc (N 17 0))), (6, .int (enc (N 16 0))), (3, .int (enc (ti))), (2, .ref (qs 0)), (1, .ref (q 0)), (0, .ref (bs))]) (st' := [.int (enc ((mostW N (N 16 0).toNat).1))]) (List.append_assoc _ _ _).symm rfl rfl ?_
              refine tw_if_ge (tgt := 912) X (In_of (by omega) (by omega)) dL_law_905 (by decide) (fun c905 => ?_) (fun c905 => ?_)
              · skip
                refine tw_iconst X dL_law_912 ?_
                refine tw_iload X dL_law_913 7 rfl ?_
                refine tw_iload X dL_law_915 13 rfl ?_
                refine tw_icmp_ne (tgt := 924) X (In_of (by omega) (by omega)) (In_of (by omega) (by omega)) dL_law_917 (by decide) (fun c917 => ?_) (fun c917 => ?_)
                · skip
                  refine tw_iconst X dL_law_924 ?_
                  refine tw_icmp_eq (tgt := 930) X (In_of (by omega) (by omega)) (In_of (by omega) (by omega)) dL_law_925 (by decide) (fun c925 => ?_) (fun c925 => ?_)
                  · skip
                    refine Tsub (lv' := [(17, .ref (a5)), (18, .ref (a6)), (19, .ref (a7)), (20, .ref (a8)), (12, .ref (a1)), (13, .ref (a2)), (14, .ref (a3)), (15, .ref (a4)), (7, .int (enc (N 17 0))), (6, .int (enc (N 16 0))), (3, .int (enc (ti))), (2, .ref (qs 0)), (1, .ref (q 0)), (0, .ref (bs))]) [3, 4, 5, 6, 8, 9, 10, 11, 12, 13, 14, 15, 16, 17] rfl ?_
                    exact kk
                  · skip
                    exact (show False by omega).elim
                · skip
                  refine tw_iconst X dL_law_920 ?_
                  refine tw_goto (tgt := 925) X dL_law_921 (by decide) ?_
                  refine tw_icmp_eq (tgt := 930) X (In_of (by omega) (by omega)) (In_of (by omega) (by omega)) dL_law_925 (by decide) (fun c925 => ?_) (fun c925 => ?_)
                  · skip
                    refine Tsub (lv' := [(17, .ref (a5)), (18, .ref (a6)), (19, .ref (a7)), (20, .ref (a8)), (12, .ref (a1)), (13, .ref (a2)), (14, .ref (a3)), (15, .ref (a4)), (7, .int (enc (N 17 0))), (6, .int (enc (N 16 0))), (3, .int (enc (ti))), (2, .ref (qs 0)), (1, .ref (q 0)), (0, .ref (bs))]) [3, 4, 5, 6, 8, 9, 10, 11, 12, 13, 14, 15, 16, 17] rfl ?_
                    exact kk
                  · skip
                    exact (show False by omega).elim
              · skip
                refine tw_iconst X dL_law_908 ?_
                refine tw_goto (tgt := 913) X dL_law_909 (by decide) ?_
                refine tw_iload X dL_law_913 7 rfl ?_
                refine tw_iload X dL_law_915 13 rfl ?_
                refine tw_icmp_ne (tgt := 924) X (In_of (by omega) (by omega)) (In_of (by omega) (by omega)) dL_law_917 (by decide) (fun c917 => ?_) (fun c917 => ?_)
                · skip
                  refine tw_iconst X dL_law_924 ?_
                  refine tw_icmp_eq (tgt := 930) X (In_of (by omega) (by omega)) (In_of (by omega) (by omega)) dL_law_925 (by decide) (fun c925 => ?_) (fun c925 => ?_)
                  · skip
                    refine Tsub (lv' := [(17, .ref (a5)), (18, .ref (a6)), (19, .ref (a7)), (20, .ref (a8)), (12, .ref (a1)), (13, .ref (a2)), (14, .ref (a3)), (15, .ref (a4)), (7, .int (enc (N 17 0))), (6, .int (enc (N 16 0))), (3, .int (enc (ti))), (2, .ref (qs 0)), (1, .ref (q 0)), (0, .ref (bs))]) [3, 4, 5, 6, 8, 9, 10, 11, 12, 13, 14, 15, 16, 17] rfl ?_
                    exact kk
                  · skip
                    exact (show False by omega).elim
                · skip
                  refine tw_iconst X dL_law_920 ?_
                  refine tw_goto (tgt := 925) X dL_law_921 (by decide) ?_
                  refine tw_icmp_eq (tgt := 930) X (In_of (by omega) (by omega)) (In_of (by omega) (by omega)) dL_law_925 (by decide) (fun c925 => ?_) (fun c925 => ?_)
                  · skip
                    refine Tsub (lv' := [(17, .ref (a5)), (18, .ref (a6)), (19, .ref (a7)), (20, .ref (a8)), (12, .ref (a1)), (13, .ref (a2)), (14, .ref (a3)), (15, .ref (a4)), (7, .int (enc (N 17 0))), (6, .int (enc (N 16 0))), (3, .int (enc (ti))), (2, .ref (qs 0)), (1, .ref (q 0)), (0, .ref (bs))]) [3, 4, 5, 6, 8, 9, 10, 11, 12, 13, 14, 15, 16, 17] rfl ?_
                    exact kk
                  · skip
                    exact (show False by omega).elim
      · skip
        have e9 := hfo (i : Int) (by omega) c849
        have hon := onR_rng N (i : Int) (N 17 0).toNat
        refine tw_aload X dL_law_852 11 rfl ?_
        refine tw_iload X dL_law_854 0 rfl ?_
        refine tw_iald X (N := (N 16 0).toNat) (f := fo) 3 rfl (by omega) (by omega) dL_law_856 ?_
        refine tw_aload_n X dL_law_857 16 rfl rfl ?_
        refine tw_iload X dL_law_858 0 rfl ?_
        refine tw_callV X (As := [.int (enc ((i : Int)))]) (st := [.int (enc (fo (i : Int)))]) vw_L_125 (m_X4_touristsOn (q := q) N sN oN U sU oU A ((i : Int)) (by omega) B hF (by omega)) ([(a1, arI cy ((N 16 0).toNat) fw)] ++ [(a2, arI cy ((N 16 0).toNat) fk)] ++ [(a3, arI cy ((N 16 0).toNat) fs)] ++ [(a4, arI cy ((N 16 0).toNat) fo)] ++ [(a5, arI cy ((N 17 0).toNat) fr)] ++ [(a6, arI cy ((N 17 0).toNat) ff)] ++ [(a7, arI cy ((N 17 0).toNat) fd)] ++ [(a8, arZ G ((N 17 0).toNat) fb)]) (wS G cy qs rr tt N g) (List.append_assoc _ _ _) rfl (q0 := 0) rfl rfl rfl ⟨rfl, rfl, Nat.le_of_ble_eq_true rfl, Nat.le_of_ble_eq_true rfl⟩ ⟨(show k + 0 ≤ 600104 by omega), (show n + 0 ≤ 7301314 by omega)⟩ (Nat.le_of_ble_eq_true rfl) dL_law_860 (fun v w1 hp => ?_)
        obtain ⟨rfl, rfl⟩ := hp
        refine Teq (ws' := [(a1, arI cy ((N 16 0).toNat) fw)] ++ [(a2, arI cy ((N 16 0).toNat) fk)] ++ [(a3, arI cy ((N 16 0).toNat) fs)] ++ [(a4, arI cy ((N 16 0).toNat) fo)] ++ [(a5, arI cy ((N 17 0).toNat) fr)] ++ [(a6, arI cy ((N 17 0).toNat) ff)] ++ [(a7, arI cy ((N 17 0).toNat) fd)] ++ [(a8, arZ G ((N 17 0).toNat) fb)] ++ wD cy q N sN oN U sU oU A ++ wS G cy qs rr tt N g) (lv' := [(23, .int (enc ((i : Int)))), (22, .int (enc (frI N (N 17 0).toNat))), (21, .int (enc (cntIn N (N 17 0).toNat))), (17, .ref (a5)), (18, .ref (a6)), (19, .ref (a7)), (20, .ref (a8)), (16, .int (enc (cntC N (N 16 0).toNat))), (12, .ref (a1)), (13, .ref (a2)), (14, .ref (a3)), (15, .ref (a4)), (7, .int (enc (N 17 0))), (6, .int (enc (N 16 0))), (3, .int (enc (ti))), (2, .ref (qs 0)), (1, .ref (q 0)), (0, .ref (bs))]) (st' := [.int (enc (onR N (i : Int) (N 17 0).toNat)), .int (enc (fo (i : Int)))]) (List.append_assoc _ _ _).symm rfl rfl ?_
        refine tw_icmp_eq (tgt := 868) X (In_of (by omega) (by omega)) (In_of (by omega) (by omega)) dL_law_863 (by decide) (fun c863 => ?_) (fun c863 => ?_)
        · skip
          refine tw_iinc (q := 0) (x := (i : Int)) (y := (i : Int) + 1) (lv' := [(23, .int (enc ((i : Int) + 1))), (22, .int (enc (frI N (N 17 0).toNat))), (21, .int (enc (cntIn N (N 17 0).toNat))), (17, .ref (a5)), (18, .ref (a6)), (19, .ref (a7)), (20, .ref (a8)), (16, .int (enc (cntC N (N 16 0).toNat))), (12, .ref (a1)), (13, .ref (a2)), (14, .ref (a3)), (15, .ref (a4)), (7, .int (enc (N 17 0))), (6, .int (enc (N 16 0))), (3, .int (enc (ti))), (2, .ref (qs 0)), (1, .ref (q 0)), (0, .ref (bs))]) X dL_law_868 rfl rfl (by decide) rfl ?_
          refine tw_goto (tgt := 845) X dL_law_871 (by decide) ?_
          refine Tsub (lv' := [(23, .int (enc ((i : Int) + 1))), (22, .int (enc (frI N (N 17 0).toNat))), (21, .int (enc (cntIn N (N 17 0).toNat))), (17, .ref (a5)), (18, .ref (a6)), (19, .ref (a7)), (20, .ref (a8)), (16, .int (enc (cntC N (N 16 0).toNat))), (12, .ref (a1)), (13, .ref (a2)), (14, .ref (a3)), (15, .ref (a4)), (7, .int (enc (N 17 0))), (6, .int (enc (N 16 0))), (3, .int (enc (ti))), (2, .ref (qs 0)), (1, .ref (q 0)), (0, .ref (bs))]) [0, 1, 2, 3, 4, 5, 6, 7, 8, 9, 10, 11, 12, 13, 14, 15, 16, 17] rfl ?_
          refine Teq (ws' := [(a1, arI cy ((N 16 0).toNat) fw)] ++ [(a2, arI cy ((N 16 0).toNat) fk)] ++ [(a3, arI cy ((N 16 0).toNat) fs)] ++ [(a4, arI cy ((N 16 0).toNat) fo)] ++ [(a5, arI cy ((N 17 0).toNat) fr)] ++ [(a6, arI cy ((N 17 0).toNat) ff)] ++ [(a7, arI cy ((N 17 0).toNat) fd)] ++ [(a8, arZ G ((N 17 0).toNat) fb)] ++ wD cy q N sN oN U sU oU A ++ wS G cy qs rr tt N g) (lv' := [(23, .int (enc (((i + 1 : Nat) : Int)))), (22, .int (enc (frI N (N 17 0).toNat))), (21, .int (enc (cntIn N (N 17 0).toNat))), (17, .ref (a5)), (18, .ref (a6)), (19, .ref (a7)), (20, .ref (a8)), (16, .int (enc (cntC N (N 16 0).toNat))), (12, .ref (a1)), (13, .ref (a2)), (14, .ref (a3)), (15, .ref (a4)), (7, .int (enc (N 17 0))), (6, .int (enc (N 16 0))), (3, .int (enc (ti))), (2, .ref (qs 0)), (1, .ref (q 0)), (0, .ref (bs))]) (st' := []) (rfl) (lvc (i_succ i) (lvk (lvk (lvk (lvk (lvk (lvk (lvk (lvk (lvk (lvk (lvk (lvk (lvk (lvk (lvk (lvk (lvk (rfl))))))))))))))))))) rfl (ih845 (i + 1) (by omega) (by omega))
        · skip
          exact (show False by omega).elim
  refine Teq (ws' := [(a1, arI cy ((N 16 0).toNat) fw)] ++ [(a2, arI cy ((N 16 0).toNat) fk)] ++ [(a3, arI cy ((N 16 0).toNat) fs)] ++ [(a4, arI cy ((N 16 0).toNat) fo)] ++ [(a5, arI cy ((N 17 0).toNat) fr)] ++ [(a6, arI cy ((N 17 0).toNat) ff)] ++ [(a7, arI cy ((N 17 0).toNat) fd)] ++ [(a8, arZ G ((N 17 0).toNat) fb)] ++ wD cy q N sN oN U sU oU A ++ wS G cy qs rr tt N g) (lv' := [(23, .int (enc (((0 : Nat) : Int)))), (22, .int (enc (frI N (N 17 0).toNat))), (21, .int (enc (cntIn N (N 17 0).toNat))), (17, .ref (a5)), (18, .ref (a6)), (19, .ref (a7)), (20, .ref (a8)), (16, .int (enc (cntC N (N 16 0).toNat))), (12, .ref (a1)), (13, .ref (a2)), (14, .ref (a3)), (15, .ref (a4)), (7, .int (enc (N 17 0))), (6, .int (enc (N 16 0))), (3, .int (enc (ti))), (2, .ref (qs 0)), (1, .ref (q 0)), (0, .ref (bs))]) (st' := []) (rfl) (rfl) rfl (L845 (N 16 0 + 1).toNat 0 (by omega) (by omega))
