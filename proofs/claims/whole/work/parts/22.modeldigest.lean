set_option maxRecDepth 100000 in
set_option maxHeartbeats 4000000 in
theorem m_X5_digest {G : va_G} {cy : ClassId} {q : Nat → Nat} (M : MT) (th : Int) (kept far : Int → Int) (B : Int) (hF : WF M B) (hB2 : B ≤ 800000) : Ct G cy yX5_digest cX5_digest 10 (some .long) ({ frames := 8, cells := 33, slots := 182, locals := 185 } : Room) 33 182 [.ref (q 0)] (wP cy q M th kept far) (fun v w1 => v = some (.long (digM M)) ∧ ∃ k' f', w1 = wP cy q M 0 k' f') := by
  refine Ct.ofL (by decide) (Nat.le_of_ble_eq_true rfl) rfl rfl ?_
  intro c X ret
  have hB := hF.bd (by omega)
  obtain ⟨w0, w1, w2, w3, w4⟩ := hF.r
  have h17 := hF.2.2.2.2.2.1
  have h172 := hF.2.2.2.2.2.2.1
  have h20 := hF.2.2.2.2.2.2.2.1
  have b20 := hB 20 0
  have b18 := hB 18 0
  refine Tlv (lv' := [(0, .ref (q 0))]) rfl ?_
  refine tw_aload_n X dX5_digest_0 0 rfl rfl ?_
  refine tw_iconst X dX5_digest_1 ?_
  refine pf_X5_40 X (ws' := wP cy q M (0) kept far) 0 rfl (Nat.le_of_ble_eq_true rfl) rfl rfl dX5_digest_2 rfl ?_
  refine tw_bipush X dX5_digest_5 (by decide) ?_
  refine tw_newa X (N := 10) rfl (by decide) (show 0 + 1 ≤ 33 by omega) (show 0 + 10 ≤ 182 by omega) dX5_digest_7 (fun qa7 => ?_)
  refine tw_dup X dX5_digest_9 rfl ?_
  refine tw_iconst X dX5_digest_10 ?_
  refine tw_aload_n X dX5_digest_11 0 rfl rfl ?_
  refine gf_X5_31 X (v := .ref (q 8)) 0 rfl rfl dX5_digest_12 ?_
  refine tw_iconst X dX5_digest_15 ?_
  refine tw_iald X (N := 133) (f := (pack M)) 8 rfl (by decide) (by omega) dX5_digest_16 ?_
  refine Tst (st' := [.int (enc (M 20 0)), .int (enc (0)), .ref (qa7), .ref (qa7)]) rfl ?_
  have b1 := hB 20 0
  refine tw_iast X (N := 10) (f := (fun _ => 0)) (ws' := wP cy q M (0) kept far ++ [(qa7, arI cy 10 (ups (fun _ => 0) (0) (M 20 0)))]) 11 rfl (by decide) (by omega) dX5_digest_17 rfl ?_
  refine tw_dup X dX5_digest_18 rfl ?_
  refine tw_iconst X dX5_digest_19 ?_
  refine tw_aload_n X dX5_digest_20 0 rfl rfl ?_
  refine gf_X5_44 X (v := .int (enc (M 19 0))) 0 rfl rfl dX5_digest_21 ?_
  have b2 := hB 19 0
  refine tw_iast X (N := 10) (f := (ups (fun _ => 0) (0) (M 20 0))) (ws' := wP cy q M (0) kept far ++ [(qa7, arI cy 10 (ups (ups (fun _ => 0) (0) (M 20 0)) (1) (M 19 0)))]) 11 rfl (by decide) (by omega) dX5_digest_24 rfl ?_
  refine tw_dup X dX5_digest_25 rfl ?_
  refine tw_iconst X dX5_digest_26 ?_
  refine tw_aload_n X dX5_digest_27 0 rfl rfl ?_
  refine gf_X5_51 X (v := .int (enc (M 16 0))) 0 rfl rfl dX5_digest_28 ?_
  have b3 := hB 16 0
  refine tw_iast X (N := 10) (f := (ups (ups (fun _ => 0) (0) (M 20 0)) (1) (M 19 0))) (ws' := wP cy q M (0) kept far ++ [(qa7, arI cy 10 (ups (ups (ups (fun _ => 0) (0) (M 20 0)) (1) (M 19 0)) (2) (M 16 0)))]) 11 rfl (by decide) (by omega) dX5_digest_31 rfl ?_
  refine tw_dup X dX5_digest_32 rfl ?_
  refine tw_iconst X dX5_digest_33 ?_
  refine tw_aload_n X dX5_digest_34 0 rfl rfl ?_
  refine gf_X5_54 X (v := .int (enc (M 17 0))) 0 rfl rfl dX5_digest_35 ?_
  have b4 := hB 17 0
  refine tw_iast X (N := 10) (f := (ups (ups (ups (fun _ => 0) (0) (M 20 0)) (1) (M 19 0)) (2) (M 16 0))) (ws' := wP cy q M (0) kept far ++ [(qa7, arI cy 10 (ups (ups (ups (ups (fun _ => 0) (0) (M 20 0)) (1) (M 19 0)) (2) (M 16 0)) (3) (M 17 0)))]) 11 rfl (by decide) (by omega) dX5_digest_38 rfl ?_
  refine tw_dup X dX5_digest_39 rfl ?_
  refine tw_iconst X dX5_digest_40 ?_
  refine tw_aload_n X dX5_digest_41 0 rfl rfl ?_
  refine tw_callV X (As := []) (st := [.int (enc (4)), .ref (qa7), .ref (qa7)]) vw_X5_129 (m_X5_came (q := q) M (0) kept far B hF (by omega)) ([]) ([(qa7, arI cy 10 (ups (ups (ups (ups (fun _ => 0) (0) (M 20 0)) (1) (M 19 0)) (2) (M 16 0)) (3) (M 17 0)))]) rfl rfl (q0 := 0) rfl rfl rfl ⟨rfl, rfl, Nat.le_of_ble_eq_true rfl, Nat.le_of_ble_eq_true rfl⟩ ⟨(show 0 + 1 + 0 ≤ 33 by omega), (show 0 + 10 + 0 ≤ 182 by omega)⟩ (Nat.le_of_ble_eq_true rfl) dX5_digest_42 (fun v w1 hp => ?_)
  obtain ⟨rfl, rfl⟩ := hp
  refine Teq (ws' := wP cy q M (0) kept far ++ [(qa7, arI cy 10 (ups (ups (ups (ups (fun _ => 0) (0) (M 20 0)) (1) (M 19 0)) (2) (M 16 0)) (3) (M 17 0)))]) (lv' := [(0, .ref (q 0))]) (st' := [.int (enc (cntIn M (M 17 0).toNat)), .int (enc (4)), .ref (qa7), .ref (qa7)]) rfl rfl rfl ?_
  refine Tst (st' := [.int (enc (M 18 0)), .int (enc (4)), .ref (qa7), .ref (qa7)]) (by rw [hF.2.2.2.2.2.2.2.2.1]) ?_
  refine tw_iast X (N := 10) (f := (ups (ups (ups (ups (fun _ => 0) (0) (M 20 0)) (1) (M 19 0)) (2) (M 16 0)) (3) (M 17 0))) (ws' := wP cy q M (0) kept far ++ [(qa7, arI cy 10 (ups (ups (ups (ups (ups (fun _ => 0) (0) (M 20 0)) (1) (M 19 0)) (2) (M 16 0)) (3) (M 17 0)) (4) (M 18 0)))]) 11 rfl (by decide) (by omega) dX5_digest_45 rfl ?_
  refine tw_dup X dX5_digest_46 rfl ?_
  refine tw_iconst X dX5_digest_47 ?_
  refine tw_aload_n X dX5_digest_48 0 rfl rfl ?_
  refine tw_callV X (As := []) (st := [.int (enc (5)), .ref (qa7), .ref (qa7)]) vw_X5_139 (m_X5_shut (q := q) M (0) kept far B hF hB2) ([]) ([(qa7, arI cy 10 (ups (ups (ups (ups (ups (fun _ => 0) (0) (M 20 0)) (1) (M 19 0)) (2) (M 16 0)) (3) (M 17 0)) (4) (M 18 0)))]) rfl rfl (q0 := 0) rfl rfl rfl ⟨rfl, rfl, Nat.le_of_ble_eq_true rfl, Nat.le_of_ble_eq_true rfl⟩ ⟨(show 0 + 1 + 0 ≤ 33 by omega), (show 0 + 10 + 0 ≤ 182 by omega)⟩ (Nat.le_of_ble_eq_true rfl) dX5_digest_49 (fun v w1 hp => ?_)
  obtain ⟨rfl, rfl⟩ := hp
  refine Teq (ws' := wP cy q M (0) kept far ++ [(qa7, arI cy 10 (ups (ups (ups (ups (ups (fun _ => 0) (0) (M 20 0)) (1) (M 19 0)) (2) (M 16 0)) (3) (M 17 0)) (4) (M 18 0)))]) (lv' := [(0, .ref (q 0))]) (st' := [.int (enc (cntC M (M 16 0).toNat)), .int (enc (5)), .ref (qa7), .ref (qa7)]) rfl rfl rfl ?_
  have r1 := cntC_rng M (M 16 0).toNat
  refine tw_iast X (N := 10) (f := (ups (ups (ups (ups (ups (fun _ => 0) (0) (M 20 0)) (1) (M 19 0)) (2) (M 16 0)) (3) (M 17 0)) (4) (M 18 0))) (ws' := wP cy q M (0) kept far ++ [(qa7, arI cy 10 (ups (ups (ups (ups (ups (ups (fun _ => 0) (0) (M 20 0)) (1) (M 19 0)) (2) (M 16 0)) (3) (M 17 0)) (4) (M 18 0)) (5) (cntC M (M 16 0).toNat)))]) 11 rfl (by decide) (by omega) dX5_digest_52 rfl ?_
  refine tw_dup X dX5_digest_53 rfl ?_
  refine tw_bipush X dX5_digest_54 (by decide) ?_
  refine tw_aload_n X dX5_digest_56 0 rfl rfl ?_
  refine tw_iconst X dX5_digest_57 ?_
  refine tw_callV X (As := [.int (enc (0))]) (st := [.int (enc (6)), .ref (qa7), .ref (qa7)]) vw_X5_148 (m_X5_frays_0 (q := q) M (0) kept far B hF (by omega)) ([]) ([(qa7, arI cy 10 (ups (ups (ups (ups (ups (ups (fun _ => 0) (0) (M 20 0)) (1) (M 19 0)) (2) (M 16 0)) (3) (M 17 0)) (4) (M 18 0)) (5) (cntC M (M 16 0).toNat)))]) rfl rfl (q0 := 0) rfl rfl rfl ⟨rfl, rfl, Nat.le_of_ble_eq_true rfl, Nat.le_of_ble_eq_true rfl⟩ ⟨(show 0 + 1 + 0 ≤ 33 by omega), (show 0 + 10 + 0 ≤ 182 by omega)⟩ (Nat.le_of_ble_eq_true rfl) dX5_digest_58 (fun v w1 hp => ?_)
  obtain ⟨rfl, rfl⟩ := hp
  refine Teq (ws' := wP cy q M (0) kept far ++ [(qa7, arI cy 10 (ups (ups (ups (ups (ups (ups (fun _ => 0) (0) (M 20 0)) (1) (M 19 0)) (2) (M 16 0)) (3) (M 17 0)) (4) (M 18 0)) (5) (cntC M (M 16 0).toNat)))]) (lv' := [(0, .ref (q 0))]) (st' := [.int (enc (frI M (M 17 0).toNat)), .int (enc (6)), .ref (qa7), .ref (qa7)]) rfl rfl rfl ?_
  have r2 := frI_rng hB (M 17 0).toNat
  refine tw_iast X (N := 10) (f := (ups (ups (ups (ups (ups (ups (fun _ => 0) (0) (M 20 0)) (1) (M 19 0)) (2) (M 16 0)) (3) (M 17 0)) (4) (M 18 0)) (5) (cntC M (M 16 0).toNat))) (ws' := wP cy q M (0) kept far ++ [(qa7, arI cy 10 (ups (ups (ups (ups (ups (ups (ups (fun _ => 0) (0) (M 20 0)) (1) (M 19 0)) (2) (M 16 0)) (3) (M 17 0)) (4) (M 18 0)) (5) (cntC M (M 16 0).toNat)) (6) (frI M (M 17 0).toNat)))]) 11 rfl (by decide) (by omega) dX5_digest_61 rfl ?_
  refine tw_dup X dX5_digest_62 rfl ?_
  refine tw_bipush X dX5_digest_63 (by decide) ?_
  refine tw_aload_n X dX5_digest_65 0 rfl rfl ?_
  refine tw_callV X (As := []) (st := [.int (enc (7)), .ref (qa7), .ref (qa7)]) vw_X5_155 (m_X5_worn (q := q) M (0) kept far B hF hB2) ([]) ([(qa7, arI cy 10 (ups (ups (ups (ups (ups (ups (ups (fun _ => 0) (0) (M 20 0)) (1) (M 19 0)) (2) (M 16 0)) (3) (M 17 0)) (4) (M 18 0)) (5) (cntC M (M 16 0).toNat)) (6) (frI M (M 17 0).toNat)))]) rfl rfl (q0 := 0) rfl rfl rfl ⟨rfl, rfl, Nat.le_of_ble_eq_true rfl, Nat.le_of_ble_eq_true rfl⟩ ⟨(show 0 + 1 + 0 ≤ 33 by omega), (show 0 + 10 + 0 ≤ 182 by omega)⟩ (Nat.le_of_ble_eq_true rfl) dX5_digest_66 (fun v w1 hp => ?_)
  obtain ⟨rfl, rfl⟩ := hp
  refine Teq (ws' := wP cy q M (0) kept far ++ [(qa7, arI cy 10 (ups (ups (ups (ups (ups (ups (ups (fun _ => 0) (0) (M 20 0)) (1) (M 19 0)) (2) (M 16 0)) (3) (M 17 0)) (4) (M 18 0)) (5) (cntC M (M 16 0).toNat)) (6) (frI M (M 17 0).toNat)))]) (lv' := [(0, .ref (q 0))]) (st' := [.int (enc ((mostW M (M 16 0).toNat).1)), .int (enc (7)), .ref (qa7), .ref (qa7)]) rfl rfl rfl ?_
  have r3 := mostW_rng M (M 16 0).toNat
  refine tw_iast X (N := 10) (f := (ups (ups (ups (ups (ups (ups (ups (fun _ => 0) (0) (M 20 0)) (1) (M 19 0)) (2) (M 16 0)) (3) (M 17 0)) (4) (M 18 0)) (5) (cntC M (M 16 0).toNat)) (6) (frI M (M 17 0).toNat))) (ws' := wP cy q M (0) kept far ++ [(qa7, arI cy 10 (ups (ups (ups (ups (ups (ups (ups (ups (fun _ => 0) (0) (M 20 0)) (1) (M 19 0)) (2) (M 16 0)) (3) (M 17 0)) (4) (M 18 0)) (5) (cntC M (M 16 0).toNat)) (6) (frI M (M 17 0).toNat)) (7) ((mostW M (M 16 0).toNat).1)))]) 11 rfl (by decide) (by omega) dX5_digest_69 rfl ?_
  refine tw_dup X dX5_digest_70 rfl ?_
  refine tw_bipush X dX5_digest_71 (by decide) ?_
  refine tw_aload_n X dX5_digest_73 0 rfl rfl ?_
  refine tw_callV X (As := []) (st := [.int (enc (8)), .ref (qa7), .ref (qa7)]) vw_X5_161 (m_X5_parted (q := q) M (0) kept far B hF hB2) ([]) ([(qa7, arI cy 10 (ups (ups (ups (ups (ups (ups (ups (ups (fun _ => 0) (0) (M 20 0)) (1) (M 19 0)) (2) (M 16 0)) (3) (M 17 0)) (4) (M 18 0)) (5) (cntC M (M 16 0).toNat)) (6) (frI M (M 17 0).toNat)) (7) ((mostW M (M 16 0).toNat).1)))]) rfl rfl (q0 := 0) rfl rfl rfl ⟨rfl, rfl, Nat.le_of_ble_eq_true rfl, Nat.le_of_ble_eq_true rfl⟩ ⟨(show 0 + 1 + 0 ≤ 33 by omega), (show 0 + 10 + 0 ≤ 182 by omega)⟩ (Nat.le_of_ble_eq_true rfl) dX5_digest_74 (fun v w1 hp => ?_)
  obtain ⟨rfl, fp, rfl⟩ := hp
  refine Teq (ws' := wP cy q M (0) kept fp ++ [(qa7, arI cy 10 (ups (ups (ups (ups (ups (ups (ups (ups (fun _ => 0) (0) (M 20 0)) (1) (M 19 0)) (2) (M 16 0)) (3) (M 17 0)) (4) (M 18 0)) (5) (cntC M (M 16 0).toNat)) (6) (frI M (M 17 0).toNat)) (7) ((mostW M (M 16 0).toNat).1)))]) (lv' := [(0, .ref (q 0))]) (st' := [.int (enc (pdP M (M 19 0).toNat)), .int (enc (8)), .ref (qa7), .ref (qa7)]) rfl rfl rfl ?_
  have r4 := pdP_rng M (M 19 0).toNat (by omega)
  refine tw_iast X (N := 10) (f := (ups (ups (ups (ups (ups (ups (ups (ups (fun _ => 0) (0) (M 20 0)) (1) (M 19 0)) (2) (M 16 0)) (3) (M 17 0)) (4) (M 18 0)) (5) (cntC M (M 16 0).toNat)) (6) (frI M (M 17 0).toNat)) (7) ((mostW M (M 16 0).toNat).1))) (ws' := wP cy q M (0) kept fp ++ [(qa7, arI cy 10 (ups (ups (ups (ups (ups (ups (ups (ups (ups (fun _ => 0) (0) (M 20 0)) (1) (M 19 0)) (2) (M 16 0)) (3) (M 17 0)) (4) (M 18 0)) (5) (cntC M (M 16 0).toNat)) (6) (frI M (M 17 0).toNat)) (7) ((mostW M (M 16 0).toNat).1)) (8) (pdP M (M 19 0).toNat)))]) 11 rfl (by decide) (by omega) dX5_digest_77 rfl ?_
  refine tw_dup X dX5_digest_78 rfl ?_
  refine tw_bipush X dX5_digest_79 (by decide) ?_
  refine tw_aload_n X dX5_digest_81 0 rfl rfl ?_
  refine tw_callV X (As := []) (st := [.int (enc (9)), .ref (qa7), .ref (qa7)]) vw_X5_179 (m_X5_toMend (q := q) M (0) kept fp B hF hB2) ([]) ([(qa7, arI cy 10 (ups (ups (ups (ups (ups (ups (ups (ups (ups (fun _ => 0) (0) (M 20 0)) (1) (M 19 0)) (2) (M 16 0)) (3) (M 17 0)) (4) (M 18 0)) (5) (cntC M (M 16 0).toNat)) (6) (frI M (M 17 0).toNat)) (7) ((mostW M (M 16 0).toNat).1)) (8) (pdP M (M 19 0).toNat)))]) rfl rfl (q0 := 0) rfl rfl rfl ⟨rfl, rfl, Nat.le_of_ble_eq_true rfl, Nat.le_of_ble_eq_true rfl⟩ ⟨(show 0 + 1 + 0 ≤ 33 by omega), (show 0 + 10 + 0 ≤ 182 by omega)⟩ (Nat.le_of_ble_eq_true rfl) dX5_digest_82 (fun v w1 hp => ?_)
  obtain ⟨rfl, kb, fb, rfl⟩ := hp
  refine Teq (ws' := wP cy q M (0) kb fb ++ [(qa7, arI cy 10 (ups (ups (ups (ups (ups (ups (ups (ups (ups (fun _ => 0) (0) (M 20 0)) (1) (M 19 0)) (2) (M 16 0)) (3) (M 17 0)) (4) (M 18 0)) (5) (cntC M (M 16 0).toNat)) (6) (frI M (M 17 0).toNat)) (7) ((mostW M (M 16 0).toNat).1)) (8) (pdP M (M 19 0).toNat)))]) (lv' := [(0, .ref (q 0))]) (st' := [.int (enc (bestM M)), .int (enc (9)), .ref (qa7), .ref (qa7)]) rfl rfl rfl ?_
  have r5 : -1 ≤ bestM M ∧ bestM M < (M 16 0).toNat := bestM_rng M (M 16 0).toNat
  refine tw_iast X (N := 10) (f := (ups (ups (ups (ups (ups (ups (ups (ups (ups (fun _ => 0) (0) (M 20 0)) (1) (M 19 0)) (2) (M 16 0)) (3) (M 17 0)) (4) (M 18 0)) (5) (cntC M (M 16 0).toNat)) (6) (frI M (M 17 0).toNat)) (7) ((mostW M (M 16 0).toNat).1)) (8) (pdP M (M 19 0).toNat))) (ws' := wP cy q M (0) kb fb ++ [(qa7, arI cy 10 (ups (ups (ups (ups (ups (ups (ups (ups (ups (ups (fun _ => 0) (0) (M 20 0)) (1) (M 19 0)) (2) (M 16 0)) (3) (M 17 0)) (4) (M 18 0)) (5) (cntC M (M 16 0).toNat)) (6) (frI M (M 17 0).toNat)) (7) ((mostW M (M 16 0).toNat).1)) (8) (pdP M (M 19 0).toNat)) (9) (bestM M)))]) 11 rfl (by decide) (by omega) dX5_digest_85 rfl ?_
  obtain ⟨F1, hF1⟩ : ∃ F : Int → Int, F = (ups (ups (ups (ups (ups (ups (ups (ups (ups (ups (fun _ => 0) (0) (M 20 0)) (1) (M 19 0)) (2) (M 16 0)) (3) (M 17 0)) (4) (M 18 0)) (5) (cntC M (M 16 0).toNat)) (6) (frI M (M 17 0).toNat)) (7) ((mostW M (M 16 0).toNat).1)) (8) (pdP M (M 19 0).toNat)) (9) (bestM M)) := ⟨_, rfl⟩
  have iF1 : ∀ j : Nat, j < 10 → In (F1 j) := by rw [hF1]; exact in10 (In_of (by omega) (by omega)) (In_of (by omega) (by omega)) (In_of (by omega) (by omega)) (In_of (by omega) (by omega)) (In_of (by omega) (by omega)) (In_of (by omega) (by omega)) (In_of (by omega) (by omega)) (In_of (by omega) (by omega)) (In_of (by omega) (by omega)) (In_of (by omega) (by omega))
  refine Tws (ws' := wP cy q M (0) kb fb ++ [(qa7, arI cy 10 F1)]) (by rw [hF1]) ?_
  refine tw_astore_n (lv' := [(1, .ref (qa7)), (0, .ref (q 0))]) X dX5_digest_86 rfl (by decide) rfl ?_
  refine tw_ldc2 X wk_X5_182 dX5_digest_87 ?_
  refine tw_lstore_n (lv' := [(2, .long ((2153 : Int64))), (1, .ref (qa7)), (0, .ref (q 0))]) X dX5_digest_90 rfl (by decide) rfl ?_
  refine tw_aload_n X dX5_digest_91 1 rfl rfl ?_
  refine tw_astore (lv' := [(4, .ref (qa7)), (2, .long ((2153 : Int64))), (1, .ref (qa7)), (0, .ref (q 0))]) X dX5_digest_92 (by decide) rfl ?_
  refine tw_aload X dX5_digest_94 0 rfl ?_
  refine tw_alen X (N := 10) (f := ea F1) 11 rfl dX5_digest_96 ?_
  refine tw_istore (lv' := [(5, .int (enc (10))), (4, .ref (qa7)), (2, .long ((2153 : Int64))), (1, .ref (qa7)), (0, .ref (q 0))]) X dX5_digest_97 (by decide) rfl ?_
  refine tw_iconst X dX5_digest_99 ?_
  refine tw_istore (lv' := [(6, .int (enc (0))), (5, .int (enc (10))), (4, .ref (qa7)), (2, .long ((2153 : Int64))), (1, .ref (qa7)), (0, .ref (q 0))]) X dX5_digest_100 (by decide) rfl ?_
  have L102 : ∀ (fu j : Nat), (j : Int) ≤ (10 : Int) → (10 : Int) + 1 ≤ (j : Int) + fu → T G c ({ frames := 8, cells := 33, slots := 182, locals := 185 } : Room) 10 (0 + 1) (0 + 10) (wP cy q M 0 kb fb ++ [(qa7, arI cy 10 F1)]) 102 [(0, .ref (q 0)), (2, .long (fld F1 ((2153 : Int64)) j)), (4, .ref (qa7)), (5, .int (enc (10))), (6, .int (enc ((j : Int))))] [] := by
    intro fu
    induction fu with
    | zero =>
      intro j  hi0 hi1
      exact absurd hi1 (by omega)
    | succ fu ih102 =>
      intro j  hi0_102 hi1_102 
      refine tw_iload X dX5_digest_102 4 rfl ?_
      refine tw_iload X dX5_digest_104 3 rfl ?_
      refine tw_icmp_ge (tgt := 132) X (In_of (by omega) (by omega)) (In_of (by omega) (by omega)) dX5_digest_106 (by decide) (fun c106 => ?_) (fun c106 => ?_)
      · skip
        have eD : fld F1 (2153 : Int64) j = dgR M (wv (wv (wv (wv (wv (wv (wv (wv (wv (wv (2153 : Int64) (M 20 0)) (M 19 0)) (M 16 0)) (M 17 0)) (M 18 0)) (cntC M (M 16 0).toNat)) (frI M (M 17 0).toNat)) (mostW M (M 16 0).toNat).1) (pdP M (M 19 0).toNat)) (bestM M)) 0 := by rw [show j = 10 by omega, hF1, fld10]; rfl
        refine Tlv (lv' := [(0, .ref (q 0)), (2, .long (dgR M (wv (wv (wv (wv (wv (wv (wv (wv (wv (wv (2153 : Int64) (M 20 0)) (M 19 0)) (M 16 0)) (M 17 0)) (M 18 0)) (cntC M (M 16 0).toNat)) (frI M (M 17 0).toNat)) (mostW M (M 16 0).toNat).1) (pdP M (M 19 0).toNat)) (bestM M)) 0)), (4, .ref (qa7)), (5, .int (enc (10))), (6, .int (enc ((j : Int))))]) (by rw [eD]) ?_
        refine Tdrop (ws' := wP cy q M 0 kb fb) ([(qa7, arI cy 10 F1)]) rfl ?_
        refine tw_iconst X dX5_digest_132 ?_
        refine tw_istore (lv' := [(4, .int (enc (0))), (0, .ref (q 0)), (2, .long (dgR M (wv (wv (wv (wv (wv (wv (wv (wv (wv (wv (2153 : Int64) (M 20 0)) (M 19 0)) (M 16 0)) (M 17 0)) (M 18 0)) (cntC M (M 16 0).toNat)) (frI M (M 17 0).toNat)) (mostW M (M 16 0).toNat).1) (pdP M (M 19 0).toNat)) (bestM M)) 0)), (5, .int (enc (10))), (6, .int (enc ((j : Int))))]) X dX5_digest_133 (by decide) rfl ?_
        have L135 : ∀ (fu i : Nat), (i : Int) ≤ M 16 0 → M 16 0 + 1 ≤ (i : Int) + fu → T G c ({ frames := 8, cells := 33, slots := 182, locals := 185 } : Room) 10 (1 + i) (10 + 5 * i) (wP cy q M 0 kb fb) 135 [(0, .ref (q 0)), (2, .long (dgR M (wv (wv (wv (wv (wv (wv (wv (wv (wv (wv (2153 : Int64) (M 20 0)) (M 19 0)) (M 16 0)) (M 17 0)) (M 18 0)) (cntC M (M 16 0).toNat)) (frI M (M 17 0).toNat)) (mostW M (M 16 0).toNat).1) (pdP M (M 19 0).toNat)) (bestM M)) i)), (4, .int (enc ((i : Int))))] [] := by
          intro fu
          induction fu with
          | zero =>
            intro i  hi0 hi1
            exact absurd hi1 (by omega)
          | succ fu ih135 =>
            intro i  hi0_135 hi1_135 
            refine tw_iload X dX5_digest_135 2 rfl ?_
            refine tw_aload_n X dX5_digest_137 0 rfl rfl ?_
            refine gf_X5_51 X (v := .int (enc (M 16 0))) 0 rfl rfl dX5_digest_138 ?_
            have b5 := hB 16 0
            refine tw_icmp_ge (tgt := 245) X (In_of (by omega) (by omega)) (In_of (by omega) (by omega)) dX5_digest_141 (by decide) (fun c141 => ?_) (fun c141 => ?_)
            · skip
              refine tw_iconst X dX5_digest_245 ?_
              refine tw_istore (lv' := [(4, .int (enc (0))), (0, .ref (q 0)), (2, .long (dgR M (wv (wv (wv (wv (wv (wv (wv (wv (wv (wv (2153 : Int64) (M 20 0)) (M 19 0)) (M 16 0)) (M 17 0)) (M 18 0)) (cntC M (M 16 0).toNat)) (frI M (M 17 0).toNat)) (mostW M (M 16 0).toNat).1) (pdP M (M 19 0).toNat)) (bestM M)) i))]) X dX5_digest_246 (by decide) rfl ?_
              have L248 : ∀ (fu t : Nat) (k2 : Int → Int) (f2 : Int → Int), (t : Int) ≤ M 17 0 → M 17 0 + 1 ≤ (t : Int) + fu → T G c ({ frames := 8, cells := 33, slots := 182, locals := 185 } : Room) 10 (21 + t) (110 + 6 * t) (wP cy q M 0 k2 f2) 248 [(0, .ref (q 0)), (2, .long (dgT M (dgR M (wv (wv (wv (wv (wv (wv (wv (wv (wv (wv (2153 : Int64) (M 20 0)) (M 19 0)) (M 16 0)) (M 17 0)) (M 18 0)) (cntC M (M 16 0).toNat)) (frI M (M 17 0).toNat)) (mostW M (M 16 0).toNat).1) (pdP M (M 19 0).toNat)) (bestM M)) (M 16 0).toNat) t)), (4, .int (enc ((t : Int))))] [] := by
                intro fu
                induction fu with
                | zero =>
                  intro t k2 f2 hi0 hi1
                  exact absurd hi1 (by omega)
                | succ fu ih248 =>
                  intro t k2 f2 hi0_248 hi1_248 
                  refine tw_iload X dX5_digest_248 2 rfl ?_
                  refine tw_aload_n X dX5_digest_250 0 rfl rfl ?_
                  refine gf_X5_54 X (v := .int (enc (M 17 0))) 0 rfl rfl dX5_digest_251 ?_
                  have b6 := hB 17 0
                  refine tw_icmp_ge (tgt := 378) X (In_of (by omega) (by omega)) (In_of (by omega) (by omega)) dX5_digest_254 (by decide) (fun c254 => ?_) (fun c254 => ?_)
                  · skip
                    refine tw_lload_n X dX5_digest_378 1 rfl rfl ?_
                    refine Twiden (k' := 33) (n' := 182) (by omega) (by omega) ?_
                    exact ret _ _ _ _ dX5_digest_379 ⟨by unfold digM; rw [show (M 17 0).toNat = t by omega], _, _, rfl⟩
                  · skip
                    refine tw_bipush X dX5_digest_257 (by decide) ?_
                    refine tw_newa X (N := 6) rfl (by decide) (show 21 + t + 1 ≤ 33 by omega) (show 110 + 6 * t + 6 ≤ 182 by omega) dX5_digest_259 (fun qa259 => ?_)
                    refine tw_dup X dX5_digest_261 rfl ?_
                    refine tw_iconst X dX5_digest_262 ?_
                    refine tw_aload_n X dX5_digest_263 0 rfl rfl ?_
                    refine tw_iload X dX5_digest_264 2 rfl ?_
                    refine tw_iconst X dX5_digest_266 ?_
                    refine tw_callV X (As := [.int (enc ((t : Int))), .int (enc (0))]) (st := [.int (enc (0)), .ref (qa259), .ref (qa259)]) vw_X5_67 (m_X5_to_0 (q := q) M 0 k2 f2 ((t : Int)) (by omega)) ([]) ([(qa259, arI cy 6 (fun _ => 0))]) rfl rfl (q0 := 0) rfl rfl rfl ⟨rfl, rfl, Nat.le_of_ble_eq_true rfl, Nat.le_of_ble_eq_true rfl⟩ ⟨(show 21 + t + 1 + 0 ≤ 33 by omega), (show 110 + 6 * t + 6 + 0 ≤ 182 by omega)⟩ (Nat.le_of_ble_eq_true rfl) dX5_digest_267 (fun v w1 hp => ?_)
                    obtain ⟨rfl, rfl⟩ := hp
                    refine Teq (ws' := wP cy q M 0 k2 f2 ++ [(qa259, arI cy 6 (fun _ => 0))]) (lv' := [(0, .ref (q 0)), (2, .long (dgT M (dgR M (wv (wv (wv (wv (wv (wv (wv (wv (wv (wv (2153 : Int64) (M 20 0)) (M 19 0)) (M 16 0)) (M 17 0)) (M 18 0)) (cntC M (M 16 0).toNat)) (frI M (M 17 0).toNat)) (mostW M (M 16 0).toNat).1) (pdP M (M 19 0).toNat)) (bestM M)) (M 16 0).toNat) t)), (4, .int (enc ((t : Int))))]) (st' := [.int (enc (M 7 (t : Int))), .int (enc (0)), .ref (qa259), .ref (qa259)]) rfl rfl rfl ?_
                    have b7 := hB 7 (t : Int)
                    refine tw_iast X (N := 6) (f := (fun _ => 0)) (ws' := wP cy q M 0 k2 f2 ++ [(qa259, arI cy 6 (ups (fun _ => 0) (0) (M 7 (t : Int))))]) 11 rfl (by decide) (by omega) dX5_digest_270 rfl ?_
                    refine tw_dup X dX5_digest_271 rfl ?_
                    refine tw_iconst X dX5_digest_272 ?_
                    refine tw_aload_n X dX5_digest_273 0 rfl rfl ?_
                    refine tw_iload X dX5_digest_274 2 rfl ?_
                    refine tw_iconst X dX5_digest_276 ?_
                    refine tw_callV X (As := [.int (enc ((t : Int))), .int (enc (1))]) (st := [.int (enc (1)), .ref (qa259), .ref (qa259)]) vw_X5_67 (m_X5_to_1 (q := q) M 0 k2 f2 ((t : Int)) (by omega)) ([]) ([(qa259, arI cy 6 (ups (fun _ => 0) (0) (M 7 (t : Int))))]) rfl rfl (q0 := 0) rfl rfl rfl ⟨rfl, rfl, Nat.le_of_ble_eq_true rfl, Nat.le_of_ble_eq_true rfl⟩ ⟨(show 21 + t + 1 + 0 ≤ 33 by omega), (show 110 + 6 * t + 6 + 0 ≤ 182 by omega)⟩ (Nat.le_of_ble_eq_true rfl) dX5_digest_277 (fun v w1 hp => ?_)
                    obtain ⟨rfl, rfl⟩ := hp
                    refine Teq (ws' := wP cy q M 0 k2 f2 ++ [(qa259, arI cy 6 (ups (fun _ => 0) (0) (M 7 (t : Int))))]) (lv' := [(0, .ref (q 0)), (2, .long (dgT M (dgR M (wv (wv (wv (wv (wv (wv (wv (wv (wv (wv (2153 : Int64) (M 20 0)) (M 19 0)) (M 16 0)) (M 17 0)) (M 18 0)) (cntC M (M 16 0).toNat)) (frI M (M 17 0).toNat)) (mostW M (M 16 0).toNat).1) (pdP M (M 19 0).toNat)) (bestM M)) (M 16 0).toNat) t)), (4, .int (enc ((t : Int))))]) (st' := [.int (enc (M 8 (t : Int))), .int (enc (1)), .ref (qa259), .ref (qa259)]) rfl rfl rfl ?_
                    have b8 := hB 8 (t : Int)
                    refine tw_iast X (N := 6) (f := (ups (fun _ => 0) (0) (M 7 (t : Int)))) (ws' := wP cy q M 0 k2 f2 ++ [(qa259, arI cy 6 (ups (ups (fun _ => 0) (0) (M 7 (t : Int))) (1) (M 8 (t : Int))))]) 11 rfl (by decide) (by omega) dX5_digest_280 rfl ?_
                    refine tw_dup X dX5_digest_281 rfl ?_
                    refine tw_iconst X dX5_digest_282 ?_
                    refine tw_aload_n X dX5_digest_283 0 rfl rfl ?_
                    refine tw_iload X dX5_digest_284 2 rfl ?_
                    refine tw_iconst X dX5_digest_286 ?_
                    refine tw_callV X (As := [.int (enc ((t : Int))), .int (enc (3))]) (st := [.int (enc (2)), .ref (qa259), .ref (qa259)]) vw_X5_67 (m_X5_to_3 (q := q) M 0 k2 f2 ((t : Int)) (by omega)) ([]) ([(qa259, arI cy 6 (ups (ups (fun _ => 0) (0) (M 7 (t : Int))) (1) (M 8 (t : Int))))]) rfl rfl (q0 := 0) rfl rfl rfl ⟨rfl, rfl, Nat.le_of_ble_eq_true rfl, Nat.le_of_ble_eq_true rfl⟩ ⟨(show 21 + t + 1 + 0 ≤ 33 by omega), (show 110 + 6 * t + 6 + 0 ≤ 182 by omega)⟩ (Nat.le_of_ble_eq_true rfl) dX5_digest_287 (fun v w1 hp => ?_)
                    obtain ⟨rfl, rfl⟩ := hp
                    refine Teq (ws' := wP cy q M 0 k2 f2 ++ [(qa259, arI cy 6 (ups (ups (fun _ => 0) (0) (M 7 (t : Int))) (1) (M 8 (t : Int))))]) (lv' := [(0, .ref (q 0)), (2, .long (dgT M (dgR M (wv (wv (wv (wv (wv (wv (wv (wv (wv (wv (2153 : Int64) (M 20 0)) (M 19 0)) (M 16 0)) (M 17 0)) (M 18 0)) (cntC M (M 16 0).toNat)) (frI M (M 17 0).toNat)) (mostW M (M 16 0).toNat).1) (pdP M (M 19 0).toNat)) (bestM M)) (M 16 0).toNat) t)), (4, .int (enc ((t : Int))))]) (st' := [.int (enc (M 12 (t : Int))), .int (enc (2)), .ref (qa259), .ref (qa259)]) rfl rfl rfl ?_
                    have b9 := hB 12 (t : Int)
                    refine tw_iast X (N := 6) (f := (ups (ups (fun _ => 0) (0) (M 7 (t : Int))) (1) (M 8 (t : Int)))) (ws' := wP cy q M 0 k2 f2 ++ [(qa259, arI cy 6 (ups (ups (ups (fun _ => 0) (0) (M 7 (t : Int))) (1) (M 8 (t : Int))) (2) (M 12 (t : Int))))]) 11 rfl (by decide) (by omega) dX5_digest_290 rfl ?_
                    refine tw_dup X dX5_digest_291 rfl ?_
                    refine tw_iconst X dX5_digest_292 ?_
                    refine tw_aload_n X dX5_digest_293 0 rfl rfl ?_
                    refine tw_iload X dX5_digest_294 2 rfl ?_
                    refine tw_callV X (As := [.int (enc ((t : Int)))]) (st := [.int (enc (3)), .ref (qa259), .ref (qa259)]) vw_X5_145 (m_X5_fray (q := q) M 0 k2 f2 ((t : Int)) B hF (by omega) (by omega)) ([]) ([(qa259, arI cy 6 (ups (ups (ups (fun _ => 0) (0) (M 7 (t : Int))) (1) (M 8 (t : Int))) (2) (M 12 (t : Int))))]) rfl rfl (q0 := 0) rfl rfl rfl ⟨rfl, rfl, Nat.le_of_ble_eq_true rfl, Nat.le_of_ble_eq_true rfl⟩ ⟨(show 21 + t + 1 + 0 ≤ 33 by omega), (show 110 + 6 * t + 6 + 0 ≤ 182 by omega)⟩ (Nat.le_of_ble_eq_true rfl) dX5_digest_296 (fun v w1 hp => ?_)
                    obtain ⟨rfl, rfl⟩ := hp
                    refine Teq (ws' := wP cy q M 0 k2 f2 ++ [(qa259, arI cy 6 (ups (ups (ups (fun _ => 0) (0) (M 7 (t : Int))) (1) (M 8 (t : Int))) (2) (M 12 (t : Int))))]) (lv' := [(0, .ref (q 0)), (2, .long (dgT M (dgR M (wv (wv (wv (wv (wv (wv (wv (wv (wv (wv (2153 : Int64) (M 20 0)) (M 19 0)) (M 16 0)) (M 17 0)) (M 18 0)) (cntC M (M 16 0).toNat)) (frI M (M 17 0).toNat)) (mostW M (M 16 0).toNat).1) (pdP M (M 19 0).toNat)) (bestM M)) (M 16 0).toNat) t)), (4, .int (enc ((t : Int))))]) (st' := [.int (enc (frayAt M (t : Int) (M 20 0))), .int (enc (3)), .ref (qa259), .ref (qa259)]) rfl rfl rfl ?_
                    have hfr := frayAt_rng (t := (t : Int)) (h := M 20 0) hB (by omega)
                    refine tw_iast X (N := 6) (f := (ups (ups (ups (fun _ => 0) (0) (M 7 (t : Int))) (1) (M 8 (t : Int))) (2) (M 12 (t : Int)))) (ws' := wP cy q M 0 k2 f2 ++ [(qa259, arI cy 6 (ups (ups (ups (ups (fun _ => 0) (0) (M 7 (t : Int))) (1) (M 8 (t : Int))) (2) (M 12 (t : Int))) (3) (frayAt M (t : Int) (M 20 0))))]) 11 rfl (by decide) (by omega) dX5_digest_299 rfl ?_
                    refine tw_dup X dX5_digest_300 rfl ?_
                    refine tw_iconst X dX5_digest_301 ?_
                    refine tw_aload_n X dX5_digest_302 0 rfl rfl ?_
                    refine tw_iload X dX5_digest_303 2 rfl ?_
                    refine tw_iconst X dX5_digest_305 ?_
                    refine tw_callV X (As := [.int (enc ((t : Int))), .int (enc (4))]) (st := [.int (enc (4)), .ref (qa259), .ref (qa259)]) vw_X5_67 (m_X5_to_4 (q := q) M 0 k2 f2 ((t : Int)) (by omega)) ([]) ([(qa259, arI cy 6 (ups (ups (ups (ups (fun _ => 0) (0) (M 7 (t : Int))) (1) (M 8 (t : Int))) (2) (M 12 (t : Int))) (3) (frayAt M (t : Int) (M 20 0))))]) rfl rfl (q0 := 0) rfl rfl rfl ⟨rfl, rfl, Nat.le_of_ble_eq_true rfl, Nat.le_of_ble_eq_true rfl⟩ ⟨(show 21 + t + 1 + 0 ≤ 33 by omega), (show 110 + 6 * t + 6 + 0 ≤ 182 by omega)⟩ (Nat.le_of_ble_eq_true rfl) dX5_digest_306 (fun v w1 hp => ?_)
                    obtain ⟨rfl, rfl⟩ := hp
                    refine Teq (ws' := wP cy q M 0 k2 f2 ++ [(qa259, arI cy 6 (ups (ups (ups (ups (fun _ => 0) (0) (M 7 (t : Int))) (1) (M 8 (t : Int))) (2) (M 12 (t : Int))) (3) (frayAt M (t : Int) (M 20 0))))]) (lv' := [(0, .ref (q 0)), (2, .long (dgT M (dgR M (wv (wv (wv (wv (wv (wv (wv (wv (wv (wv (2153 : Int64) (M 20 0)) (M 19 0)) (M 16 0)) (M 17 0)) (M 18 0)) (cntC M (M 16 0).toNat)) (frI M (M 17 0).toNat)) (mostW M (M 16 0).toNat).1) (pdP M (M 19 0).toNat)) (bestM M)) (M 16 0).toNat) t)), (4, .int (enc ((t : Int))))]) (st' := [.int (enc (dnM M (t : Int))), .int (enc (4)), .ref (qa259), .ref (qa259)]) rfl rfl rfl ?_
                    refine tw_iconst X dX5_digest_309 ?_
                    have hTI := hF.2.2.2.2.2.2.2.2.2.1 (t : Int) (by omega) (by omega)
                    unfold TI at hTI
                    have hdn := dn_no (M := M) (t := (t : Int)) (by omega)
                    refine tw_icmp_ne (tgt := 317) X (dn_In hB _) (In_of (by omega) (by omega)) dX5_digest_310 (by decide) (fun c310 => ?_) (fun c310 => ?_)
                    · skip
                      rw [ne_eq, hdn] at c310
                      refine tw_iconst X dX5_digest_317 ?_
                      refine tw_iast X (N := 6) (f := (ups (ups (ups (ups (fun _ => 0) (0) (M 7 (t : Int))) (1) (M 8 (t : Int))) (2) (M 12 (t : Int))) (3) (frayAt M (t : Int) (M 20 0)))) (ws' := wP cy q M 0 k2 f2 ++ [(qa259, arI cy 6 (ups (ups (ups (ups (ups (fun _ => 0) (0) (M 7 (t : Int))) (1) (M 8 (t : Int))) (2) (M 12 (t : Int))) (3) (frayAt M (t : Int) (M 20 0))) (4) (1)))]) 11 rfl (by decide) (by omega) dX5_digest_318 rfl ?_
                      refine tw_dup X dX5_digest_319 rfl ?_
                      refine tw_iconst X dX5_digest_320 ?_
                      refine tw_aload_n X dX5_digest_321 0 rfl rfl ?_
                      refine tw_iload X dX5_digest_322 2 rfl ?_
                      refine tw_callV X (As := [.int (enc ((t : Int)))]) (st := [.int (enc (5)), .ref (qa259), .ref (qa259)]) vw_X5_176 (m_X5_until (q := q) M 0 k2 f2 ((t : Int)) B hF hB2 (by omega)) ([]) ([(qa259, arI cy 6 (ups (ups (ups (ups (ups (fun _ => 0) (0) (M 7 (t : Int))) (1) (M 8 (t : Int))) (2) (M 12 (t : Int))) (3) (frayAt M (t : Int) (M 20 0))) (4) (1)))]) rfl rfl (q0 := 0) rfl rfl rfl ⟨rfl, rfl, Nat.le_of_ble_eq_true rfl, Nat.le_of_ble_eq_true rfl⟩ ⟨(show 21 + t + 1 + 0 ≤ 33 by omega), (show 110 + 6 * t + 6 + 0 ≤ 182 by omega)⟩ (Nat.le_of_ble_eq_true rfl) dX5_digest_324 (fun v w1 hp => ?_)
                      obtain ⟨rfl, ku2, fu2, rfl⟩ := hp
                      refine Teq (ws' := wP cy q M 0 ku2 fu2 ++ [(qa259, arI cy 6 (ups (ups (ups (ups (ups (fun _ => 0) (0) (M 7 (t : Int))) (1) (M 8 (t : Int))) (2) (M 12 (t : Int))) (3) (frayAt M (t : Int) (M 20 0))) (4) (1)))]) (lv' := [(0, .ref (q 0)), (2, .long (dgT M (dgR M (wv (wv (wv (wv (wv (wv (wv (wv (wv (wv (2153 : Int64) (M 20 0)) (M 19 0)) (M 16 0)) (M 17 0)) (M 18 0)) (cntC M (M 16 0).toNat)) (frI M (M 17 0).toNat)) (mostW M (M 16 0).toNat).1) (pdP M (M 19 0).toNat)) (bestM M)) (M 16 0).toNat) t)), (4, .int (enc ((t : Int))))]) (st' := [.int (enc (untilM M (t : Int))), .int (enc (5)), .ref (qa259), .ref (qa259)]) rfl rfl rfl ?_
                      have hun := untilM_rng hF hB2 (t : Int)
                      refine tw_iast X (N := 6) (f := (ups (ups (ups (ups (ups (fun _ => 0) (0) (M 7 (t : Int))) (1) (M 8 (t : Int))) (2) (M 12 (t : Int))) (3) (frayAt M (t : Int) (M 20 0))) (4) (1))) (ws' := wP cy q M 0 ku2 fu2 ++ [(qa259, arI cy 6 (ups (ups (ups (ups (ups (ups (fun _ => 0) (0) (M 7 (t : Int))) (1) (M 8 (t : Int))) (2) (M 12 (t : Int))) (3) (frayAt M (t : Int) (M 20 0))) (4) (1)) (5) (untilM M (t : Int))))]) 11 rfl (by decide) (by omega) dX5_digest_327 rfl ?_
                      obtain ⟨F3, hF3⟩ : ∃ F : Int → Int, F = (ups (ups (ups (ups (ups (ups (fun _ => 0) (0) (M 7 (t : Int))) (1) (M 8 (t : Int))) (2) (M 12 (t : Int))) (3) (frayAt M (t : Int) (M 20 0))) (4) (1)) (5) (untilM M (t : Int))) := ⟨_, rfl⟩
                      have iF3 : ∀ j : Nat, j < 6 → In (F3 j) := by rw [hF3]; exact in6 (In_of (by omega) (by omega)) (In_of (by omega) (by omega)) (In_of (by omega) (by omega)) (In_of (by omega) (by omega)) (In_of (by omega) (by omega)) (In_of (by omega) (by omega))
                      refine Tws (ws' := wP cy q M 0 ku2 fu2 ++ [(qa259, arI cy 6 F3)]) (by rw [hF3]) ?_
                      refine tw_astore (lv' := [(5, .ref (qa259)), (0, .ref (q 0)), (2, .long (dgT M (dgR M (wv (wv (wv (wv (wv (wv (wv (wv (wv (wv (2153 : Int64) (M 20 0)) (M 19 0)) (M 16 0)) (M 17 0)) (M 18 0)) (cntC M (M 16 0).toNat)) (frI M (M 17 0).toNat)) (mostW M (M 16 0).toNat).1) (pdP M (M 19 0).toNat)) (bestM M)) (M 16 0).toNat) t)), (4, .int (enc ((t : Int))))]) X dX5_digest_328 (by decide) rfl ?_
                      refine tw_aload X dX5_digest_330 0 rfl ?_
                      refine tw_astore (lv' := [(6, .ref (qa259)), (5, .ref (qa259)), (0, .ref (q 0)), (2, .long (dgT M (dgR M (wv (wv (wv (wv (wv (wv (wv (wv (wv (wv (2153 : Int64) (M 20 0)) (M 19 0)) (M 16 0)) (M 17 0)) (M 18 0)) (cntC M (M 16 0).toNat)) (frI M (M 17 0).toNat)) (mostW M (M 16 0).toNat).1) (pdP M (M 19 0).toNat)) (bestM M)) (M 16 0).toNat) t)), (4, .int (enc ((t : Int))))]) X dX5_digest_332 (by decide) rfl ?_
                      refine tw_aload X dX5_digest_334 0 rfl ?_
                      refine tw_alen X (N := 6) (f := ea F3) 11 rfl dX5_digest_336 ?_
                      refine tw_istore (lv' := [(7, .int (enc (6))), (6, .ref (qa259)), (5, .ref (qa259)), (0, .ref (q 0)), (2, .long (dgT M (dgR M (wv (wv (wv (wv (wv (wv (wv (wv (wv (wv (2153 : Int64) (M 20 0)) (M 19 0)) (M 16 0)) (M 17 0)) (M 18 0)) (cntC M (M 16 0).toNat)) (frI M (M 17 0).toNat)) (mostW M (M 16 0).toNat).1) (pdP M (M 19 0).toNat)) (bestM M)) (M 16 0).toNat) t)), (4, .int (enc ((t : Int))))]) X dX5_digest_337 (by decide) rfl ?_
                      refine tw_iconst X dX5_digest_339 ?_
                      refine tw_istore (lv' := [(8, .int (enc (0))), (7, .int (enc (6))), (6, .ref (qa259)), (5, .ref (qa259)), (0, .ref (q 0)), (2, .long (dgT M (dgR M (wv (wv (wv (wv (wv (wv (wv (wv (wv (wv (2153 : Int64) (M 20 0)) (M 19 0)) (M 16 0)) (M 17 0)) (M 18 0)) (cntC M (M 16 0).toNat)) (frI M (M 17 0).toNat)) (mostW M (M 16 0).toNat).1) (pdP M (M 19 0).toNat)) (bestM M)) (M 16 0).toNat) t)), (4, .int (enc ((t : Int))))]) X dX5_digest_340 (by decide) rfl ?_
                      have L342 : ∀ (fu j : Nat), (j : Int) ≤ (6 : Int) → (6 : Int) + 1 ≤ (j : Int) + fu → T G c ({ frames := 8, cells := 33, slots := 182, locals := 185 } : Room) 10 (21 + t + 1) (110 + 6 * t + 6) (wP cy q M 0 ku2 fu2 ++ [(qa259, arI cy 6 F3)]) 342 [(0, .ref (q 0)), (4, .int (enc ((t : Int)))), (2, .long (fld F3 (dgT M (dgR M (wv (wv (wv (wv (wv (wv (wv (wv (wv (wv (2153 : Int64) (M 20 0)) (M 19 0)) (M 16 0)) (M 17 0)) (M 18 0)) (cntC M (M 16 0).toNat)) (frI M (M 17 0).toNat)) (mostW M (M 16 0).toNat).1) (pdP M (M 19 0).toNat)) (bestM M)) (M 16 0).toNat) t) j)), (6, .ref (qa259)), (7, .int (enc (6))), (8, .int (enc ((j : Int))))] [] := by
                        intro fu
                        induction fu with
                        | zero =>
                          intro j  hi0 hi1
                          exact absurd hi1 (by omega)
                        | succ fu ih342 =>
                          intro j  hi0_342 hi1_342 
                          refine tw_iload X dX5_digest_342 5 rfl ?_
                          refine tw_iload X dX5_digest_344 4 rfl ?_
                          refine tw_icmp_ge (tgt := 372) X (In_of (by omega) (by omega)) (In_of (by omega) (by omega)) dX5_digest_346 (by decide) (fun c346 => ?_) (fun c346 => ?_)
                          · skip
                            have eD : fld F3 (dgT M (dgR M (wv (wv (wv (wv (wv (wv (wv (wv (wv (wv (2153 : Int64) (M 20 0)) (M 19 0)) (M 16 0)) (M 17 0)) (M 18 0)) (cntC M (M 16 0).toNat)) (frI M (M 17 0).toNat)) (mostW M (M 16 0).toNat).1) (pdP M (M 19 0).toNat)) (bestM M)) (M 16 0).toNat) t) j = dgT M (dgR M (wv (wv (wv (wv (wv (wv (wv (wv (wv (wv (2153 : Int64) (M 20 0)) (M 19 0)) (M 16 0)) (M 17 0)) (M 18 0)) (cntC M (M 16 0).toNat)) (frI M (M 17 0).toNat)) (mostW M (M 16 0).toNat).1) (pdP M (M 19 0).toNat)) (bestM M)) (M 16 0).toNat) (t + 1) := by rw [show j = 6 by omega, hF3, fld6, dgT_s]; first | rw [if_pos (show 0 ≤ M 15 (t : Int) by omega)] | rw [if_neg (show ¬ 0 ≤ M 15 (t : Int) by omega)]
                            refine Tlv (lv' := [(0, .ref (q 0)), (4, .int (enc ((t : Int)))), (2, .long (dgT M (dgR M (wv (wv (wv (wv (wv (wv (wv (wv (wv (wv (2153 : Int64) (M 20 0)) (M 19 0)) (M 16 0)) (M 17 0)) (M 18 0)) (cntC M (M 16 0).toNat)) (frI M (M 17 0).toNat)) (mostW M (M 16 0).toNat).1) (pdP M (M 19 0).toNat)) (bestM M)) (M 16 0).toNat) (t + 1))), (6, .ref (qa259)), (7, .int (enc (6))), (8, .int (enc ((j : Int))))]) (by rw [eD]) ?_
                            refine Tdrop (ws' := wP cy q M 0 ku2 fu2) ([(qa259, arI cy 6 F3)]) rfl ?_
                            refine tw_iinc (q := 1) (x := (t : Int)) (y := (t : Int) + 1) (lv' := [(4, .int (enc ((t : Int) + 1))), (0, .ref (q 0)), (2, .long (dgT M (dgR M (wv (wv (wv (wv (wv (wv (wv (wv (wv (wv (2153 : Int64) (M 20 0)) (M 19 0)) (M 16 0)) (M 17 0)) (M 18 0)) (cntC M (M 16 0).toNat)) (frI M (M 17 0).toNat)) (mostW M (M 16 0).toNat).1) (pdP M (M 19 0).toNat)) (bestM M)) (M 16 0).toNat) (t + 1))), (6, .ref (qa259)), (7, .int (enc (6))), (8, .int (enc ((j : Int))))]) X dX5_digest_372 rfl rfl (by decide) rfl ?_
                            refine tw_goto (tgt := 248) X dX5_digest_375 (by decide) ?_
                            refine Twiden (k' := 21 + (t + 1)) (n' := 110 + 6 * (t + 1)) (by omega) (by omega) ?_
                            refine Tsub (lv' := [(0, .ref (q 0)), (2, .long (dgT M (dgR M (wv (wv (wv (wv (wv (wv (wv (wv (wv (wv (2153 : Int64) (M 20 0)) (M 19 0)) (M 16 0)) (M 17 0)) (M 18 0)) (cntC M (M 16 0).toNat)) (frI M (M 17 0).toNat)) (mostW M (M 16 0).toNat).1) (pdP M (M 19 0).toNat)) (bestM M)) (M 16 0).toNat) (t + 1))), (4, .int (enc ((t : Int) + 1)))]) [1, 2, 0] rfl ?_
                            refine Teq (ws' := wP cy q M 0 (ku2) (fu2)) (lv' := [(0, .ref (q 0)), (2, .long (dgT M (dgR M (wv (wv (wv (wv (wv (wv (wv (wv (wv (wv (2153 : Int64) (M 20 0)) (M 19 0)) (M 16 0)) (M 17 0)) (M 18 0)) (cntC M (M 16 0).toNat)) (frI M (M 17 0).toNat)) (mostW M (M 16 0).toNat).1) (pdP M (M 19 0).toNat)) (bestM M)) (M 16 0).toNat) (t + 1))), (4, .int (enc (((t + 1 : Nat) : Int))))]) (st' := []) (rfl) (lvk (lvk (lvc (i_succ t) rfl))) rfl (ih248 (t + 1) (ku2) (fu2) (by omega) (by omega))
                          · skip
                            refine tw_aload X dX5_digest_349 3 rfl ?_
                            refine tw_iload X dX5_digest_351 5 rfl ?_
                            refine tw_iald X (N := 6) (f := F3) 11 rfl (by decide) (by omega) dX5_digest_353 ?_
                            refine Tst (st' := [.int (enc (F3 (j : Int)))]) rfl ?_
                            refine tw_istore (lv' := [(9, .int (enc (F3 (j : Int)))), (0, .ref (q 0)), (4, .int (enc ((t : Int)))), (2, .long (fld F3 (dgT M (dgR M (wv (wv (wv (wv (wv (wv (wv (wv (wv (wv (2153 : Int64) (M 20 0)) (M 19 0)) (M 16 0)) (M 17 0)) (M 18 0)) (cntC M (M 16 0).toNat)) (frI M (M 17 0).toNat)) (mostW M (M 16 0).toNat).1) (pdP M (M 19 0).toNat)) (bestM M)) (M 16 0).toNat) t) j)), (6, .ref (qa259)), (7, .int (enc (6))), (8, .int (enc ((j : Int))))]) X dX5_digest_354 (by decide) rfl ?_
                            refine tw_lload_n X dX5_digest_356 3 rfl rfl ?_
                            refine tw_ldc2 X wk_X5_184 dX5_digest_357 ?_
                            refine tw_lmul X dX5_digest_360 ?_
                            refine tw_iload X dX5_digest_361 0 rfl ?_
                            refine tw_i2l X (iF3 j (by omega)) dX5_digest_363 ?_
                            refine tw_ladd X dX5_digest_364 ?_
                            refine tw_lstore_n (lv' := [(2, .long (((fld F3 (dgT M (dgR M (wv (wv (wv (wv (wv (wv (wv (wv (wv (wv (2153 : Int64) (M 20 0)) (M 19 0)) (M 16 0)) (M 17 0)) (M 18 0)) (cntC M (M 16 0).toNat)) (frI M (M 17 0).toNat)) (mostW M (M 16 0).toNat).1) (pdP M (M 19 0).toNat)) (bestM M)) (M 16 0).toNat) t) j) * (31 : Int64)) + (Int64.ofInt (F3 (j : Int))))), (9, .int (enc (F3 (j : Int)))), (0, .ref (q 0)), (4, .int (enc ((t : Int)))), (6, .ref (qa259)), (7, .int (enc (6))), (8, .int (enc ((j : Int))))]) X dX5_digest_365 rfl (by decide) rfl ?_
                            refine tw_iinc (q := 6) (x := (j : Int)) (y := (j : Int) + 1) (lv' := [(8, .int (enc ((j : Int) + 1))), (2, .long (((fld F3 (dgT M (dgR M (wv (wv (wv (wv (wv (wv (wv (wv (wv (wv (2153 : Int64) (M 20 0)) (M 19 0)) (M 16 0)) (M 17 0)) (M 18 0)) (cntC M (M 16 0).toNat)) (frI M (M 17 0).toNat)) (mostW M (M 16 0).toNat).1) (pdP M (M 19 0).toNat)) (bestM M)) (M 16 0).toNat) t) j) * (31 : Int64)) + (Int64.ofInt (F3 (j : Int))))), (9, .int (enc (F3 (j : Int)))), (0, .ref (q 0)), (4, .int (enc ((t : Int)))), (6, .ref (qa259)), (7, .int (enc (6)))]) X dX5_digest_366 rfl rfl (by decide) rfl ?_
                            refine tw_goto (tgt := 342) X dX5_digest_369 (by decide) ?_
                            refine Tsub (lv' := [(0, .ref (q 0)), (4, .int (enc ((t : Int)))), (2, .long (((fld F3 (dgT M (dgR M (wv (wv (wv (wv (wv (wv (wv (wv (wv (wv (2153 : Int64) (M 20 0)) (M 19 0)) (M 16 0)) (M 17 0)) (M 18 0)) (cntC M (M 16 0).toNat)) (frI M (M 17 0).toNat)) (mostW M (M 16 0).toNat).1) (pdP M (M 19 0).toNat)) (bestM M)) (M 16 0).toNat) t) j) * (31 : Int64)) + (Int64.ofInt (F3 (j : Int))))), (6, .ref (qa259)), (7, .int (enc (6))), (8, .int (enc ((j : Int) + 1)))]) [3, 4, 1, 5, 6, 0] rfl ?_
                            refine Teq (ws' := wP cy q M 0 ku2 fu2 ++ [(qa259, arI cy 6 F3)]) (lv' := [(0, .ref (q 0)), (4, .int (enc ((t : Int)))), (2, .long (fld F3 (dgT M (dgR M (wv (wv (wv (wv (wv (wv (wv (wv (wv (wv (2153 : Int64) (M 20 0)) (M 19 0)) (M 16 0)) (M 17 0)) (M 18 0)) (cntC M (M 16 0).toNat)) (frI M (M 17 0).toNat)) (mostW M (M 16 0).toNat).1) (pdP M (M 19 0).toNat)) (bestM M)) (M 16 0).toNat) t) (j + 1))), (6, .ref (qa259)), (7, .int (enc (6))), (8, .int (enc (((j + 1 : Nat) : Int))))]) (st' := []) (rfl) (lvk (lvk (lvl (by rw [fld_s]; rfl) (lvk (lvk (lvc (i_succ j) rfl)))))) rfl (ih342 (j + 1) (by omega) (by omega))
                      refine Tsub (lv' := [(0, .ref (q 0)), (4, .int (enc ((t : Int)))), (2, .long (dgT M (dgR M (wv (wv (wv (wv (wv (wv (wv (wv (wv (wv (2153 : Int64) (M 20 0)) (M 19 0)) (M 16 0)) (M 17 0)) (M 18 0)) (cntC M (M 16 0).toNat)) (frI M (M 17 0).toNat)) (mostW M (M 16 0).toNat).1) (pdP M (M 19 0).toNat)) (bestM M)) (M 16 0).toNat) t)), (6, .ref (qa259)), (7, .int (enc (6))), (8, .int (enc (0)))]) [4, 6, 5, 2, 1, 0] rfl ?_
                      refine Teq (ws' := wP cy q M 0 ku2 fu2 ++ [(qa259, arI cy 6 F3)]) (lv' := [(0, .ref (q 0)), (4, .int (enc ((t : Int)))), (2, .long (fld F3 (dgT M (dgR M (wv (wv (wv (wv (wv (wv (wv (wv (wv (wv (2153 : Int64) (M 20 0)) (M 19 0)) (M 16 0)) (M 17 0)) (M 18 0)) (cntC M (M 16 0).toNat)) (frI M (M 17 0).toNat)) (mostW M (M 16 0).toNat).1) (pdP M (M 19 0).toNat)) (bestM M)) (M 16 0).toNat) t) 0)), (6, .ref (qa259)), (7, .int (enc (6))), (8, .int (enc (((0 : Nat) : Int))))]) (st' := []) (rfl) (rfl) rfl (L342 ((6 : Int) + 1).toNat 0 (by omega) (by omega))
                    · skip
                      rw [hdn] at c310
                      refine tw_iconst X dX5_digest_313 ?_
                      refine tw_goto (tgt := 318) X dX5_digest_314 (by decide) ?_
                      refine tw_iast X (N := 6) (f := (ups (ups (ups (ups (fun _ => 0) (0) (M 7 (t : Int))) (1) (M 8 (t : Int))) (2) (M 12 (t : Int))) (3) (frayAt M (t : Int) (M 20 0)))) (ws' := wP cy q M 0 k2 f2 ++ [(qa259, arI cy 6 (ups (ups (ups (ups (ups (fun _ => 0) (0) (M 7 (t : Int))) (1) (M 8 (t : Int))) (2) (M 12 (t : Int))) (3) (frayAt M (t : Int) (M 20 0))) (4) (0)))]) 11 rfl (by decide) (by omega) dX5_digest_318 rfl ?_
                      refine tw_dup X dX5_digest_319 rfl ?_
                      refine tw_iconst X dX5_digest_320 ?_
                      refine tw_aload_n X dX5_digest_321 0 rfl rfl ?_
                      refine tw_iload X dX5_digest_322 2 rfl ?_
                      refine tw_callV X (As := [.int (enc ((t : Int)))]) (st := [.int (enc (5)), .ref (qa259), .ref (qa259)]) vw_X5_176 (m_X5_until (q := q) M 0 k2 f2 ((t : Int)) B hF hB2 (by omega)) ([]) ([(qa259, arI cy 6 (ups (ups (ups (ups (ups (fun _ => 0) (0) (M 7 (t : Int))) (1) (M 8 (t : Int))) (2) (M 12 (t : Int))) (3) (frayAt M (t : Int) (M 20 0))) (4) (0)))]) rfl rfl (q0 := 0) rfl rfl rfl ⟨rfl, rfl, Nat.le_of_ble_eq_true rfl, Nat.le_of_ble_eq_true rfl⟩ ⟨(show 21 + t + 1 + 0 ≤ 33 by omega), (show 110 + 6 * t + 6 + 0 ≤ 182 by omega)⟩ (Nat.le_of_ble_eq_true rfl) dX5_digest_324 (fun v w1 hp => ?_)
                      obtain ⟨rfl, ku2, fu2, rfl⟩ := hp
                      refine Teq (ws' := wP cy q M 0 ku2 fu2 ++ [(qa259, arI cy 6 (ups (ups (ups (ups (ups (fun _ => 0) (0) (M 7 (t : Int))) (1) (M 8 (t : Int))) (2) (M 12 (t : Int))) (3) (frayAt M (t : Int) (M 20 0))) (4) (0)))]) (lv' := [(0, .ref (q 0)), (2, .long (dgT M (dgR M (wv (wv (wv (wv (wv (wv (wv (wv (wv (wv (2153 : Int64) (M 20 0)) (M 19 0)) (M 16 0)) (M 17 0)) (M 18 0)) (cntC M (M 16 0).toNat)) (frI M (M 17 0).toNat)) (mostW M (M 16 0).toNat).1) (pdP M (M 19 0).toNat)) (bestM M)) (M 16 0).toNat) t)), (4, .int (enc ((t : Int))))]) (st' := [.int (enc (untilM M (t : Int))), .int (enc (5)), .ref (qa259), .ref (qa259)]) rfl rfl rfl ?_
                      have hun := untilM_rng hF hB2 (t : Int)
                      refine tw_iast X (N := 6) (f := (ups (ups (ups (ups (ups (fun _ => 0) (0) (M 7 (t : Int))) (1) (M 8 (t : Int))) (2) (M 12 (t : Int))) (3) (frayAt M (t : Int) (M 20 0))) (4) (0))) (ws' := wP cy q M 0 ku2 fu2 ++ [(qa259, arI cy 6 (ups (ups (ups (ups (ups (ups (fun _ => 0) (0) (M 7 (t : Int))) (1) (M 8 (t : Int))) (2) (M 12 (t : Int))) (3) (frayAt M (t : Int) (M 20 0))) (4) (0)) (5) (untilM M (t : Int))))]) 11 rfl (by decide) (by omega) dX5_digest_327 rfl ?_
                      obtain ⟨F3, hF3⟩ : ∃ F : Int → Int, F = (ups (ups (ups (ups (ups (ups (fun _ => 0) (0) (M 7 (t : Int))) (1) (M 8 (t : Int))) (2) (M 12 (t : Int))) (3) (frayAt M (t : Int) (M 20 0))) (4) (0)) (5) (untilM M (t : Int))) := ⟨_, rfl⟩
                      have iF3 : ∀ j : Nat, j < 6 → In (F3 j) := by rw [hF3]; exact in6 (In_of (by omega) (by omega)) (In_of (by omega) (by omega)) (In_of (by omega) (by omega)) (In_of (by omega) (by omega)) (In_of (by omega) (by omega)) (In_of (by omega) (by omega))
                      refine Tws (ws' := wP cy q M 0 ku2 fu2 ++ [(qa259, arI cy 6 F3)]) (by rw [hF3]) ?_
                      refine tw_astore (lv' := [(5, .ref (qa259)), (0, .ref (q 0)), (2, .long (dgT M (dgR M (wv (wv (wv (wv (wv (wv (wv (wv (wv (wv (2153 : Int64) (M 20 0)) (M 19 0)) (M 16 0)) (M 17 0)) (M 18 0)) (cntC M (M 16 0).toNat)) (frI M (M 17 0).toNat)) (mostW M (M 16 0).toNat).1) (pdP M (M 19 0).toNat)) (bestM M)) (M 16 0).toNat) t)), (4, .int (enc ((t : Int))))]) X dX5_digest_328 (by decide) rfl ?_
                      refine tw_aload X dX5_digest_330 0 rfl ?_
                      refine tw_astore (lv' := [(6, .ref (qa259)), (5, .ref (qa259)), (0, .ref (q 0)), (2, .long (dgT M (dgR M (wv (wv (wv (wv (wv (wv (wv (wv (wv (wv (2153 : Int64) (M 20 0)) (M 19 0)) (M 16 0)) (M 17 0)) (M 18 0)) (cntC M (M 16 0).toNat)) (frI M (M 17 0).toNat)) (mostW M (M 16 0).toNat).1) (pdP M (M 19 0).toNat)) (bestM M)) (M 16 0).toNat) t)), (4, .int (enc ((t : Int))))]) X dX5_digest_332 (by decide) rfl ?_
                      refine tw_aload X dX5_digest_334 0 rfl ?_
                      refine tw_alen X (N := 6) (f := ea F3) 11 rfl dX5_digest_336 ?_
                      refine tw_istore (lv' := [(7, .int (enc (6))), (6, .ref (qa259)), (5, .ref (qa259)), (0, .ref (q 0)), (2, .long (dgT M (dgR M (wv (wv (wv (wv (wv (wv (wv (wv (wv (wv (2153 : Int64) (M 20 0)) (M 19 0)) (M 16 0)) (M 17 0)) (M 18 0)) (cntC M (M 16 0).toNat)) (frI M (M 17 0).toNat)) (mostW M (M 16 0).toNat).1) (pdP M (M 19 0).toNat)) (bestM M)) (M 16 0).toNat) t)), (4, .int (enc ((t : Int))))]) X dX5_digest_337 (by decide) rfl ?_
                      refine tw_iconst X dX5_digest_339 ?_
                      refine tw_istore (lv' := [(8, .int (enc (0))), (7, .int (enc (6))), (6, .ref (qa259)), (5, .ref (qa259)), (0, .ref (q 0)), (2, .long (dgT M (dgR M (wv (wv (wv (wv (wv (wv (wv (wv (wv (wv (2153 : Int64) (M 20 0)) (M 19 0)) (M 16 0)) (M 17 0)) (M 18 0)) (cntC M (M 16 0).toNat)) (frI M (M 17 0).toNat)) (mostW M (M 16 0).toNat).1) (pdP M (M 19 0).toNat)) (bestM M)) (M 16 0).toNat) t)), (4, .int (enc ((t : Int))))]) X dX5_digest_340 (by decide) rfl ?_
                      have L342 : ∀ (fu j : Nat), (j : Int) ≤ (6 : Int) → (6 : Int) + 1 ≤ (j : Int) + fu → T G c ({ frames := 8, cells := 33, slots := 182, locals := 185 } : Room) 10 (21 + t + 1) (110 + 6 * t + 6) (wP cy q M 0 ku2 fu2 ++ [(qa259, arI cy 6 F3)]) 342 [(0, .ref (q 0)), (4, .int (enc ((t : Int)))), (2, .long (fld F3 (dgT M (dgR M (wv (wv (wv (wv (wv (wv (wv (wv (wv (wv (2153 : Int64) (M 20 0)) (M 19 0)) (M 16 0)) (M 17 0)) (M 18 0)) (cntC M (M 16 0).toNat)) (frI M (M 17 0).toNat)) (mostW M (M 16 0).toNat).1) (pdP M (M 19 0).toNat)) (bestM M)) (M 16 0).toNat) t) j)), (6, .ref (qa259)), (7, .int (enc (6))), (8, .int (enc ((j : Int))))] [] := by
                        intro fu
                        induction fu with
                        | zero =>
                          intro j  hi0 hi1
                          exact absurd hi1 (by omega)
                        | succ fu ih342 =>
                          intro j  hi0_342 hi1_342 
                          refine tw_iload X dX5_digest_342 5 rfl ?_
                          refine tw_iload X dX5_digest_344 4 rfl ?_
                          refine tw_icmp_ge (tgt := 372) X (In_of (by omega) (by omega)) (In_of (by omega) (by omega)) dX5_digest_346 (by decide) (fun c346 => ?_) (fun c346 => ?_)
                          · skip
                            have eD : fld F3 (dgT M (dgR M (wv (wv (wv (wv (wv (wv (wv (wv (wv (wv (2153 : Int64) (M 20 0)) (M 19 0)) (M 16 0)) (M 17 0)) (M 18 0)) (cntC M (M 16 0).toNat)) (frI M (M 17 0).toNat)) (mostW M (M 16 0).toNat).1) (pdP M (M 19 0).toNat)) (bestM M)) (M 16 0).toNat) t) j = dgT M (dgR M (wv (wv (wv (wv (wv (wv (wv (wv (wv (wv (2153 : Int64) (M 20 0)) (M 19 0)) (M 16 0)) (M 17 0)) (M 18 0)) (cntC M (M 16 0).toNat)) (frI M (M 17 0).toNat)) (mostW M (M 16 0).toNat).1) (pdP M (M 19 0).toNat)) (bestM M)) (M 16 0).toNat) (t + 1) := by rw [show j = 6 by omega, hF3, fld6, dgT_s]; first | rw [if_pos (show 0 ≤ M 15 (t : Int) by omega)] | rw [if_neg (show ¬ 0 ≤ M 15 (t : Int) by omega)]
                            refine Tlv (lv' := [(0, .ref (q 0)), (4, .int (enc ((t : Int)))), (2, .long (dgT M (dgR M (wv (wv (wv (wv (wv (wv (wv (wv (wv (wv (2153 : Int64) (M 20 0)) (M 19 0)) (M 16 0)) (M 17 0)) (M 18 0)) (cntC M (M 16 0).toNat)) (frI M (M 17 0).toNat)) (mostW M (M 16 0).toNat).1) (pdP M (M 19 0).toNat)) (bestM M)) (M 16 0).toNat) (t + 1))), (6, .ref (qa259)), (7, .int (enc (6))), (8, .int (enc ((j : Int))))]) (by rw [eD]) ?_
                            refine Tdrop (ws' := wP cy q M 0 ku2 fu2) ([(qa259, arI cy 6 F3)]) rfl ?_
                            refine tw_iinc (q := 1) (x := (t : Int)) (y := (t : Int) + 1) (lv' := [(4, .int (enc ((t : Int) + 1))), (0, .ref (q 0)), (2, .long (dgT M (dgR M (wv (wv (wv (wv (wv (wv (wv (wv (wv (wv (2153 : Int64) (M 20 0)) (M 19 0)) (M 16 0)) (M 17 0)) (M 18 0)) (cntC M (M 16 0).toNat)) (frI M (M 17 0).toNat)) (mostW M (M 16 0).toNat).1) (pdP M (M 19 0).toNat)) (bestM M)) (M 16 0).toNat) (t + 1))), (6, .ref (qa259)), (7, .int (enc (6))), (8, .int (enc ((j : Int))))]) X dX5_digest_372 rfl rfl (by decide) rfl ?_
                            refine tw_goto (tgt := 248) X dX5_digest_375 (by decide) ?_
                            refine Twiden (k' := 21 + (t + 1)) (n' := 110 + 6 * (t + 1)) (by omega) (by omega) ?_
                            refine Tsub (lv' := [(0, .ref (q 0)), (2, .long (dgT M (dgR M (wv (wv (wv (wv (wv (wv (wv (wv (wv (wv (2153 : Int64) (M 20 0)) (M 19 0)) (M 16 0)) (M 17 0)) (M 18 0)) (cntC M (M 16 0).toNat)) (frI M (M 17 0).toNat)) (mostW M (M 16 0).toNat).1) (pdP M (M 19 0).toNat)) (bestM M)) (M 16 0).toNat) (t + 1))), (4, .int (enc ((t : Int) + 1)))]) [1, 2, 0] rfl ?_
                            refine Teq (ws' := wP cy q M 0 (ku2) (fu2)) (lv' := [(0, .ref (q 0)), (2, .long (dgT M (dgR M (wv (wv (wv (wv (wv (wv (wv (wv (wv (wv (2153 : Int64) (M 20 0)) (M 19 0)) (M 16 0)) (M 17 0)) (M 18 0)) (cntC M (M 16 0).toNat)) (frI M (M 17 0).toNat)) (mostW M (M 16 0).toNat).1) (pdP M (M 19 0).toNat)) (bestM M)) (M 16 0).toNat) (t + 1))), (4, .int (enc (((t + 1 : Nat) : Int))))]) (st' := []) (rfl) (lvk (lvk (lvc (i_succ t) rfl))) rfl (ih248 (t + 1) (ku2) (fu2) (by omega) (by omega))
                          · skip
                            refine tw_aload X dX5_digest_349 3 rfl ?_
                            refine tw_iload X dX5_digest_351 5 rfl ?_
                            refine tw_iald X (N := 6) (f := F3) 11 rfl (by decide) (by omega) dX5_digest_353 ?_
                            refine Tst (st' := [.int (enc (F3 (j : Int)))]) rfl ?_
                            refine tw_istore (lv' := [(9, .int (enc (F3 (j : Int)))), (0, .ref (q 0)), (4, .int (enc ((t : Int)))), (2, .long (fld F3 (dgT M (dgR M (wv (wv (wv (wv (wv (wv (wv (wv (wv (wv (2153 : Int64) (M 20 0)) (M 19 0)) (M 16 0)) (M 17 0)) (M 18 0)) (cntC M (M 16 0).toNat)) (frI M (M 17 0).toNat)) (mostW M (M 16 0).toNat).1) (pdP M (M 19 0).toNat)) (bestM M)) (M 16 0).toNat) t) j)), (6, .ref (qa259)), (7, .int (enc (6))), (8, .int (enc ((j : Int))))]) X dX5_digest_354 (by decide) rfl ?_
                            refine tw_lload_n X dX5_digest_356 3 rfl rfl ?_
                            refine tw_ldc2 X wk_X5_184 dX5_digest_357 ?_
                            refine tw_lmul X dX5_digest_360 ?_
                            refine tw_iload X dX5_digest_361 0 rfl ?_
                            refine tw_i2l X (iF3 j (by omega)) dX5_digest_363 ?_
                            refine tw_ladd X dX5_digest_364 ?_
                            refine tw_lstore_n (lv' := [(2, .long (((fld F3 (dgT M (dgR M (wv (wv (wv (wv (wv (wv (wv (wv (wv (wv (2153 : Int64) (M 20 0)) (M 19 0)) (M 16 0)) (M 17 0)) (M 18 0)) (cntC M (M 16 0).toNat)) (frI M (M 17 0).toNat)) (mostW M (M 16 0).toNat).1) (pdP M (M 19 0).toNat)) (bestM M)) (M 16 0).toNat) t) j) * (31 : Int64)) + (Int64.ofInt (F3 (j : Int))))), (9, .int (enc (F3 (j : Int)))), (0, .ref (q 0)), (4, .int (enc ((t : Int)))), (6, .ref (qa259)), (7, .int (enc (6))), (8, .int (enc ((j : Int))))]) X dX5_digest_365 rfl (by decide) rfl ?_
                            refine tw_iinc (q := 6) (x := (j : Int)) (y := (j : Int) + 1) (lv' := [(8, .int (enc ((j : Int) + 1))), (2, .long (((fld F3 (dgT M (dgR M (wv (wv (wv (wv (wv (wv (wv (wv (wv (wv (2153 : Int64) (M 20 0)) (M 19 0)) (M 16 0)) (M 17 0)) (M 18 0)) (cntC M (M 16 0).toNat)) (frI M (M 17 0).toNat)) (mostW M (M 16 0).toNat).1) (pdP M (M 19 0).toNat)) (bestM M)) (M 16 0).toNat) t) j) * (31 : Int64)) + (Int64.ofInt (F3 (j : Int))))), (9, .int (enc (F3 (j : Int)))), (0, .ref (q 0)), (4, .int (enc ((t : Int)))), (6, .ref (qa259)), (7, .int (enc (6)))]) X dX5_digest_366 rfl rfl (by decide) rfl ?_
                            refine tw_goto (tgt := 342) X dX5_digest_369 (by decide) ?_
                            refine Tsub (lv' := [(0, .ref (q 0)), (4, .int (enc ((t : Int)))), (2, .long (((fld F3 (dgT M (dgR M (wv (wv (wv (wv (wv (wv (wv (wv (wv (wv (2153 : Int64) (M 20 0)) (M 19 0)) (M 16 0)) (M 17 0)) (M 18 0)) (cntC M (M 16 0).toNat)) (frI M (M 17 0).toNat)) (mostW M (M 16 0).toNat).1) (pdP M (M 19 0).toNat)) (bestM M)) (M 16 0).toNat) t) j) * (31 : Int64)) + (Int64.ofInt (F3 (j : Int))))), (6, .ref (qa259)), (7, .int (enc (6))), (8, .int (enc ((j : Int) + 1)))]) [3, 4, 1, 5, 6, 0] rfl ?_
                            refine Teq (ws' := wP cy q M 0 ku2 fu2 ++ [(qa259, arI cy 6 F3)]) (lv' := [(0, .ref (q 0)), (4, .int (enc ((t : Int)))), (2, .long (fld F3 (dgT M (dgR M (wv (wv (wv (wv (wv (wv (wv (wv (wv (wv (2153 : Int64) (M 20 0)) (M 19 0)) (M 16 0)) (M 17 0)) (M 18 0)) (cntC M (M 16 0).toNat)) (frI M (M 17 0).toNat)) (mostW M (M 16 0).toNat).1) (pdP M (M 19 0).toNat)) (bestM M)) (M 16 0).toNat) t) (j + 1))), (6, .ref (qa259)), (7, .int (enc (6))), (8, .int (enc (((j + 1 : Nat) : Int))))]) (st' := []) (rfl) (lvk (lvk (lvl (by rw [fld_s]; rfl) (lvk (lvk (lvc (i_succ j) rfl)))))) rfl (ih342 (j + 1) (by omega) (by omega))
                      refine Tsub (lv' := [(0, .ref (q 0)), (4, .int (enc ((t : Int)))), (2, .long (dgT M (dgR M (wv (wv (wv (wv (wv (wv (wv (wv (wv (wv (2153 : Int64) (M 20 0)) (M 19 0)) (M 16 0)) (M 17 0)) (M 18 0)) (cntC M (M 16 0).toNat)) (frI M (M 17 0).toNat)) (mostW M (M 16 0).toNat).1) (pdP M (M 19 0).toNat)) (bestM M)) (M 16 0).toNat) t)), (6, .ref (qa259)), (7, .int (enc (6))), (8, .int (enc (0)))]) [4, 6, 5, 2, 1, 0] rfl ?_
                      refine Teq (ws' := wP cy q M 0 ku2 fu2 ++ [(qa259, arI cy 6 F3)]) (lv' := [(0, .ref (q 0)), (4, .int (enc ((t : Int)))), (2, .long (fld F3 (dgT M (dgR M (wv (wv (wv (wv (wv (wv (wv (wv (wv (wv (2153 : Int64) (M 20 0)) (M 19 0)) (M 16 0)) (M 17 0)) (M 18 0)) (cntC M (M 16 0).toNat)) (frI M (M 17 0).toNat)) (mostW M (M 16 0).toNat).1) (pdP M (M 19 0).toNat)) (bestM M)) (M 16 0).toNat) t) 0)), (6, .ref (qa259)), (7, .int (enc (6))), (8, .int (enc (((0 : Nat) : Int))))]) (st' := []) (rfl) (rfl) rfl (L342 ((6 : Int) + 1).toNat 0 (by omega) (by omega))
              refine Twiden (k' := 21 + 0) (n' := 110 + 6 * 0) (by omega) (by omega) ?_
              refine Tsub (lv' := [(0, .ref (q 0)), (2, .long (dgR M (wv (wv (wv (wv (wv (wv (wv (wv (wv (wv (2153 : Int64) (M 20 0)) (M 19 0)) (M 16 0)) (M 17 0)) (M 18 0)) (cntC M (M 16 0).toNat)) (frI M (M 17 0).toNat)) (mostW M (M 16 0).toNat).1) (pdP M (M 19 0).toNat)) (bestM M)) i)), (4, .int (enc (0)))]) [1, 2, 0] rfl ?_
              refine Teq (ws' := wP cy q M 0 (kb) (fb)) (lv' := [(0, .ref (q 0)), (2, .long (dgT M (dgR M (wv (wv (wv (wv (wv (wv (wv (wv (wv (wv (2153 : Int64) (M 20 0)) (M 19 0)) (M 16 0)) (M 17 0)) (M 18 0)) (cntC M (M 16 0).toNat)) (frI M (M 17 0).toNat)) (mostW M (M 16 0).toNat).1) (pdP M (M 19 0).toNat)) (bestM M)) (M 16 0).toNat) 0)), (4, .int (enc (((0 : Nat) : Int))))]) (st' := []) (rfl) (lvk (lvl (by rw [show (M 16 0).toNat = i by omega]; rfl) rfl)) rfl (L248 (M 17 0 + 1).toNat 0 (kb) (fb) (by omega) (by omega))
            · skip
              refine tw_iconst X dX5_digest_144 ?_
              refine tw_newa X (N := 5) rfl (by decide) (show 1 + i + 1 ≤ 33 by omega) (show 10 + 5 * i + 5 ≤ 182 by omega) dX5_digest_145 (fun qa145 => ?_)
              refine tw_dup X dX5_digest_147 rfl ?_
              refine tw_iconst X dX5_digest_148 ?_
              refine tw_aload_n X dX5_digest_149 0 rfl rfl ?_
              refine tw_iload X dX5_digest_150 2 rfl ?_
              refine tw_callV X (As := [.int (enc ((i : Int)))]) (st := [.int (enc (0)), .ref (qa145), .ref (qa145)]) vw_X5_74 (m_X5_longNow (q := q) M 0 kb fb ((i : Int)) (by omega)) ([]) ([(qa145, arI cy 5 (fun _ => 0))]) rfl rfl (q0 := 0) rfl rfl rfl ⟨rfl, rfl, Nat.le_of_ble_eq_true rfl, Nat.le_of_ble_eq_true rfl⟩ ⟨(show 1 + i + 1 + 0 ≤ 33 by omega), (show 10 + 5 * i + 5 + 0 ≤ 182 by omega)⟩ (Nat.le_of_ble_eq_true rfl) dX5_digest_152 (fun v w1 hp => ?_)
              obtain ⟨rfl, rfl⟩ := hp
              refine Teq (ws' := wP cy q M 0 kb fb ++ [(qa145, arI cy 5 (fun _ => 0))]) (lv' := [(0, .ref (q 0)), (2, .long (dgR M (wv (wv (wv (wv (wv (wv (wv (wv (wv (wv (2153 : Int64) (M 20 0)) (M 19 0)) (M 16 0)) (M 17 0)) (M 18 0)) (cntC M (M 16 0).toNat)) (frI M (M 17 0).toNat)) (mostW M (M 16 0).toNat).1) (pdP M (M 19 0).toNat)) (bestM M)) i)), (4, .int (enc ((i : Int))))]) (st' := [.int (enc (len M (i : Int))), .int (enc (0)), .ref (qa145), .ref (qa145)]) rfl rfl rfl ?_
              have hl := hF.r.ln (r := (i : Int)) (by omega) (by omega)
              refine tw_iast X (N := 5) (f := (fun _ => 0)) (ws' := wP cy q M 0 kb fb ++ [(qa145, arI cy 5 (ups (fun _ => 0) (0) (len M (i : Int))))]) 11 rfl (by decide) (by omega) dX5_digest_155 rfl ?_
              refine tw_dup X dX5_digest_156 rfl ?_
              refine tw_iconst X dX5_digest_157 ?_
              refine tw_aload_n X dX5_digest_158 0 rfl rfl ?_
              refine tw_iload X dX5_digest_159 2 rfl ?_
              refine tw_iconst X dX5_digest_161 ?_
              refine tw_callV X (As := [.int (enc ((i : Int))), .int (enc (1))]) (st := [.int (enc (1)), .ref (qa145), .ref (qa145)]) vw_X5_63 (m_X5_ro_1 (q := q) M 0 kb fb ((i : Int)) (by omega)) ([]) ([(qa145, arI cy 5 (ups (fun _ => 0) (0) (len M (i : Int))))]) rfl rfl (q0 := 0) rfl rfl rfl ⟨rfl, rfl, Nat.le_of_ble_eq_true rfl, Nat.le_of_ble_eq_true rfl⟩ ⟨(show 1 + i + 1 + 0 ≤ 33 by omega), (show 10 + 5 * i + 5 + 0 ≤ 182 by omega)⟩ (Nat.le_of_ble_eq_true rfl) dX5_digest_162 (fun v w1 hp => ?_)
              obtain ⟨rfl, rfl⟩ := hp
              refine Teq (ws' := wP cy q M 0 kb fb ++ [(qa145, arI cy 5 (ups (fun _ => 0) (0) (len M (i : Int))))]) (lv' := [(0, .ref (q 0)), (2, .long (dgR M (wv (wv (wv (wv (wv (wv (wv (wv (wv (wv (2153 : Int64) (M 20 0)) (M 19 0)) (M 16 0)) (M 17 0)) (M 18 0)) (cntC M (M 16 0).toNat)) (frI M (M 17 0).toNat)) (mostW M (M 16 0).toNat).1) (pdP M (M 19 0).toNat)) (bestM M)) i)), (4, .int (enc ((i : Int))))]) (st' := [.int (enc (M 4 (i : Int))), .int (enc (1)), .ref (qa145), .ref (qa145)]) rfl rfl rfl ?_
              have b10 := hB 4 (i : Int)
              refine tw_iast X (N := 5) (f := (ups (fun _ => 0) (0) (len M (i : Int)))) (ws' := wP cy q M 0 kb fb ++ [(qa145, arI cy 5 (ups (ups (fun _ => 0) (0) (len M (i : Int))) (1) (M 4 (i : Int))))]) 11 rfl (by decide) (by omega) dX5_digest_165 rfl ?_
              refine tw_dup X dX5_digest_166 rfl ?_
              refine tw_iconst X dX5_digest_167 ?_
              refine tw_aload_n X dX5_digest_168 0 rfl rfl ?_
              refine tw_iload X dX5_digest_169 2 rfl ?_
              refine tw_iconst X dX5_digest_171 ?_
              refine tw_callV X (As := [.int (enc ((i : Int))), .int (enc (2))]) (st := [.int (enc (2)), .ref (qa145), .ref (qa145)]) vw_X5_63 (m_X5_ro_2 (q := q) M 0 kb fb ((i : Int)) (by omega)) ([]) ([(qa145, arI cy 5 (ups (ups (fun _ => 0) (0) (len M (i : Int))) (1) (M 4 (i : Int))))]) rfl rfl (q0 := 0) rfl rfl rfl ⟨rfl, rfl, Nat.le_of_ble_eq_true rfl, Nat.le_of_ble_eq_true rfl⟩ ⟨(show 1 + i + 1 + 0 ≤ 33 by omega), (show 10 + 5 * i + 5 + 0 ≤ 182 by omega)⟩ (Nat.le_of_ble_eq_true rfl) dX5_digest_172 (fun v w1 hp => ?_)
              obtain ⟨rfl, rfl⟩ := hp
              refine Teq (ws' := wP cy q M 0 kb fb ++ [(qa145, arI cy 5 (ups (ups (fun _ => 0) (0) (len M (i : Int))) (1) (M 4 (i : Int))))]) (lv' := [(0, .ref (q 0)), (2, .long (dgR M (wv (wv (wv (wv (wv (wv (wv (wv (wv (wv (2153 : Int64) (M 20 0)) (M 19 0)) (M 16 0)) (M 17 0)) (M 18 0)) (cntC M (M 16 0).toNat)) (frI M (M 17 0).toNat)) (mostW M (M 16 0).toNat).1) (pdP M (M 19 0).toNat)) (bestM M)) i)), (4, .int (enc ((i : Int))))]) (st' := [.int (enc (M 5 (i : Int))), .int (enc (2)), .ref (qa145), .ref (qa145)]) rfl rfl rfl ?_
              have b11 := hB 5 (i : Int)
              refine tw_iast X (N := 5) (f := (ups (ups (fun _ => 0) (0) (len M (i : Int))) (1) (M 4 (i : Int)))) (ws' := wP cy q M 0 kb fb ++ [(qa145, arI cy 5 (ups (ups (ups (fun _ => 0) (0) (len M (i : Int))) (1) (M 4 (i : Int))) (2) (M 5 (i : Int))))]) 11 rfl (by decide) (by omega) dX5_digest_175 rfl ?_
              refine tw_dup X dX5_digest_176 rfl ?_
              refine tw_iconst X dX5_digest_177 ?_
              refine tw_aload_n X dX5_digest_178 0 rfl rfl ?_
              refine tw_iload X dX5_digest_179 2 rfl ?_
              refine tw_iconst X dX5_digest_181 ?_
              refine tw_callV X (As := [.int (enc ((i : Int))), .int (enc (0))]) (st := [.int (enc (3)), .ref (qa145), .ref (qa145)]) vw_X5_63 (m_X5_ro_0 (q := q) M 0 kb fb ((i : Int)) (by omega)) ([]) ([(qa145, arI cy 5 (ups (ups (ups (fun _ => 0) (0) (len M (i : Int))) (1) (M 4 (i : Int))) (2) (M 5 (i : Int))))]) rfl rfl (q0 := 0) rfl rfl rfl ⟨rfl, rfl, Nat.le_of_ble_eq_true rfl, Nat.le_of_ble_eq_true rfl⟩ ⟨(show 1 + i + 1 + 0 ≤ 33 by omega), (show 10 + 5 * i + 5 + 0 ≤ 182 by omega)⟩ (Nat.le_of_ble_eq_true rfl) dX5_digest_182 (fun v w1 hp => ?_)
              obtain ⟨rfl, rfl⟩ := hp
              refine Teq (ws' := wP cy q M 0 kb fb ++ [(qa145, arI cy 5 (ups (ups (ups (fun _ => 0) (0) (len M (i : Int))) (1) (M 4 (i : Int))) (2) (M 5 (i : Int))))]) (lv' := [(0, .ref (q 0)), (2, .long (dgR M (wv (wv (wv (wv (wv (wv (wv (wv (wv (wv (2153 : Int64) (M 20 0)) (M 19 0)) (M 16 0)) (M 17 0)) (M 18 0)) (cntC M (M 16 0).toNat)) (frI M (M 17 0).toNat)) (mostW M (M 16 0).toNat).1) (pdP M (M 19 0).toNat)) (bestM M)) i)), (4, .int (enc ((i : Int))))]) (st' := [.int (enc (M 6 (i : Int))), .int (enc (3)), .ref (qa145), .ref (qa145)]) rfl rfl rfl ?_
              have b12 := hB 6 (i : Int)
              refine tw_iast X (N := 5) (f := (ups (ups (ups (fun _ => 0) (0) (len M (i : Int))) (1) (M 4 (i : Int))) (2) (M 5 (i : Int)))) (ws' := wP cy q M 0 kb fb ++ [(qa145, arI cy 5 (ups (ups (ups (ups (fun _ => 0) (0) (len M (i : Int))) (1) (M 4 (i : Int))) (2) (M 5 (i : Int))) (3) (M 6 (i : Int))))]) 11 rfl (by decide) (by omega) dX5_digest_185 rfl ?_
              refine tw_dup X dX5_digest_186 rfl ?_
              refine tw_iconst X dX5_digest_187 ?_
              refine tw_aload_n X dX5_digest_188 0 rfl rfl ?_
              refine tw_iload X dX5_digest_189 2 rfl ?_
              refine tw_callV X (As := [.int (enc ((i : Int)))]) (st := [.int (enc (4)), .ref (qa145), .ref (qa145)]) vw_X5_110 (m_X5_on (q := q) M 0 kb fb ((i : Int)) hB (by omega) (by omega)) ([]) ([(qa145, arI cy 5 (ups (ups (ups (ups (fun _ => 0) (0) (len M (i : Int))) (1) (M 4 (i : Int))) (2) (M 5 (i : Int))) (3) (M 6 (i : Int))))]) rfl rfl (q0 := 0) rfl rfl rfl ⟨rfl, rfl, Nat.le_of_ble_eq_true rfl, Nat.le_of_ble_eq_true rfl⟩ ⟨(show 1 + i + 1 + 0 ≤ 33 by omega), (show 10 + 5 * i + 5 + 0 ≤ 182 by omega)⟩ (Nat.le_of_ble_eq_true rfl) dX5_digest_191 (fun v w1 hp => ?_)
              obtain ⟨rfl, rfl⟩ := hp
              refine Teq (ws' := wP cy q M 0 kb fb ++ [(qa145, arI cy 5 (ups (ups (ups (ups (fun _ => 0) (0) (len M (i : Int))) (1) (M 4 (i : Int))) (2) (M 5 (i : Int))) (3) (M 6 (i : Int))))]) (lv' := [(0, .ref (q 0)), (2, .long (dgR M (wv (wv (wv (wv (wv (wv (wv (wv (wv (wv (2153 : Int64) (M 20 0)) (M 19 0)) (M 16 0)) (M 17 0)) (M 18 0)) (cntC M (M 16 0).toNat)) (frI M (M 17 0).toNat)) (mostW M (M 16 0).toNat).1) (pdP M (M 19 0).toNat)) (bestM M)) i)), (4, .int (enc ((i : Int))))]) (st' := [.int (enc (onR M (i : Int) (M 17 0).toNat)), .int (enc (4)), .ref (qa145), .ref (qa145)]) rfl rfl rfl ?_
              have hon := onR_rng M (i : Int) (M 17 0).toNat
              refine tw_iast X (N := 5) (f := (ups (ups (ups (ups (fun _ => 0) (0) (len M (i : Int))) (1) (M 4 (i : Int))) (2) (M 5 (i : Int))) (3) (M 6 (i : Int)))) (ws' := wP cy q M 0 kb fb ++ [(qa145, arI cy 5 (ups (ups (ups (ups (ups (fun _ => 0) (0) (len M (i : Int))) (1) (M 4 (i : Int))) (2) (M 5 (i : Int))) (3) (M 6 (i : Int))) (4) (onR M (i : Int) (M 17 0).toNat)))]) 11 rfl (by decide) (by omega) dX5_digest_194 rfl ?_
              obtain ⟨F2, hF2⟩ : ∃ F : Int → Int, F = (ups (ups (ups (ups (ups (fun _ => 0) (0) (len M (i : Int))) (1) (M 4 (i : Int))) (2) (M 5 (i : Int))) (3) (M 6 (i : Int))) (4) (onR M (i : Int) (M 17 0).toNat)) := ⟨_, rfl⟩
              have iF2 : ∀ j : Nat, j < 5 → In (F2 j) := by rw [hF2]; exact in5 (In_of (by omega) (by omega)) (In_of (by omega) (by omega)) (In_of (by omega) (by omega)) (In_of (by omega) (by omega)) (In_of (by omega) (by omega))
              refine Tws (ws' := wP cy q M 0 kb fb ++ [(qa145, arI cy 5 F2)]) (by rw [hF2]) ?_
              refine tw_astore (lv' := [(5, .ref (qa145)), (0, .ref (q 0)), (2, .long (dgR M (wv (wv (wv (wv (wv (wv (wv (wv (wv (wv (2153 : Int64) (M 20 0)) (M 19 0)) (M 16 0)) (M 17 0)) (M 18 0)) (cntC M (M 16 0).toNat)) (frI M (M 17 0).toNat)) (mostW M (M 16 0).toNat).1) (pdP M (M 19 0).toNat)) (bestM M)) i)), (4, .int (enc ((i : Int))))]) X dX5_digest_195 (by decide) rfl ?_
              refine tw_aload X dX5_digest_197 0 rfl ?_
              refine tw_astore (lv' := [(6, .ref (qa145)), (5, .ref (qa145)), (0, .ref (q 0)), (2, .long (dgR M (wv (wv (wv (wv (wv (wv (wv (wv (wv (wv (2153 : Int64) (M 20 0)) (M 19 0)) (M 16 0)) (M 17 0)) (M 18 0)) (cntC M (M 16 0).toNat)) (frI M (M 17 0).toNat)) (mostW M (M 16 0).toNat).1) (pdP M (M 19 0).toNat)) (bestM M)) i)), (4, .int (enc ((i : Int))))]) X dX5_digest_199 (by decide) rfl ?_
              refine tw_aload X dX5_digest_201 0 rfl ?_
              refine tw_alen X (N := 5) (f := ea F2) 11 rfl dX5_digest_203 ?_
              refine tw_istore (lv' := [(7, .int (enc (5))), (6, .ref (qa145)), (5, .ref (qa145)), (0, .ref (q 0)), (2, .long (dgR M (wv (wv (wv (wv (wv (wv (wv (wv (wv (wv (2153 : Int64) (M 20 0)) (M 19 0)) (M 16 0)) (M 17 0)) (M 18 0)) (cntC M (M 16 0).toNat)) (frI M (M 17 0).toNat)) (mostW M (M 16 0).toNat).1) (pdP M (M 19 0).toNat)) (bestM M)) i)), (4, .int (enc ((i : Int))))]) X dX5_digest_204 (by decide) rfl ?_
              refine tw_iconst X dX5_digest_206 ?_
              refine tw_istore (lv' := [(8, .int (enc (0))), (7, .int (enc (5))), (6, .ref (qa145)), (5, .ref (qa145)), (0, .ref (q 0)), (2, .long (dgR M (wv (wv (wv (wv (wv (wv (wv (wv (wv (wv (2153 : Int64) (M 20 0)) (M 19 0)) (M 16 0)) (M 17 0)) (M 18 0)) (cntC M (M 16 0).toNat)) (frI M (M 17 0).toNat)) (mostW M (M 16 0).toNat).1) (pdP M (M 19 0).toNat)) (bestM M)) i)), (4, .int (enc ((i : Int))))]) X dX5_digest_207 (by decide) rfl ?_
              have L209 : ∀ (fu j : Nat), (j : Int) ≤ (5 : Int) → (5 : Int) + 1 ≤ (j : Int) + fu → T G c ({ frames := 8, cells := 33, slots := 182, locals := 185 } : Room) 10 (1 + i + 1) (10 + 5 * i + 5) (wP cy q M 0 kb fb ++ [(qa145, arI cy 5 F2)]) 209 [(0, .ref (q 0)), (4, .int (enc ((i : Int)))), (2, .long (fld F2 (dgR M (wv (wv (wv (wv (wv (wv (wv (wv (wv (wv (2153 : Int64) (M 20 0)) (M 19 0)) (M 16 0)) (M 17 0)) (M 18 0)) (cntC M (M 16 0).toNat)) (frI M (M 17 0).toNat)) (mostW M (M 16 0).toNat).1) (pdP M (M 19 0).toNat)) (bestM M)) i) j)), (6, .ref (qa145)), (7, .int (enc (5))), (8, .int (enc ((j : Int))))] [] := by
                intro fu
                induction fu with
                | zero =>
                  intro j  hi0 hi1
                  exact absurd hi1 (by omega)
                | succ fu ih209 =>
                  intro j  hi0_209 hi1_209 
                  refine tw_iload X dX5_digest_209 5 rfl ?_
                  refine tw_iload X dX5_digest_211 4 rfl ?_
                  refine tw_icmp_ge (tgt := 239) X (In_of (by omega) (by omega)) (In_of (by omega) (by omega)) dX5_digest_213 (by decide) (fun c213 => ?_) (fun c213 => ?_)
                  · skip
                    have eD : fld F2 (dgR M (wv (wv (wv (wv (wv (wv (wv (wv (wv (wv (2153 : Int64) (M 20 0)) (M 19 0)) (M 16 0)) (M 17 0)) (M 18 0)) (cntC M (M 16 0).toNat)) (frI M (M 17 0).toNat)) (mostW M (M 16 0).toNat).1) (pdP M (M 19 0).toNat)) (bestM M)) i) j = dgR M (wv (wv (wv (wv (wv (wv (wv (wv (wv (wv (2153 : Int64) (M 20 0)) (M 19 0)) (M 16 0)) (M 17 0)) (M 18 0)) (cntC M (M 16 0).toNat)) (frI M (M 17 0).toNat)) (mostW M (M 16 0).toNat).1) (pdP M (M 19 0).toNat)) (bestM M)) (i + 1) := by rw [show j = 5 by omega, hF2, fld5, dgR_s]
                    refine Tlv (lv' := [(0, .ref (q 0)), (4, .int (enc ((i : Int)))), (2, .long (dgR M (wv (wv (wv (wv (wv (wv (wv (wv (wv (wv (2153 : Int64) (M 20 0)) (M 19 0)) (M 16 0)) (M 17 0)) (M 18 0)) (cntC M (M 16 0).toNat)) (frI M (M 17 0).toNat)) (mostW M (M 16 0).toNat).1) (pdP M (M 19 0).toNat)) (bestM M)) (i + 1))), (6, .ref (qa145)), (7, .int (enc (5))), (8, .int (enc ((j : Int))))]) (by rw [eD]) ?_
                    refine Tdrop (ws' := wP cy q M 0 kb fb) ([(qa145, arI cy 5 F2)]) rfl ?_
                    refine tw_iinc (q := 1) (x := (i : Int)) (y := (i : Int) + 1) (lv' := [(4, .int (enc ((i : Int) + 1))), (0, .ref (q 0)), (2, .long (dgR M (wv (wv (wv (wv (wv (wv (wv (wv (wv (wv (2153 : Int64) (M 20 0)) (M 19 0)) (M 16 0)) (M 17 0)) (M 18 0)) (cntC M (M 16 0).toNat)) (frI M (M 17 0).toNat)) (mostW M (M 16 0).toNat).1) (pdP M (M 19 0).toNat)) (bestM M)) (i + 1))), (6, .ref (qa145)), (7, .int (enc (5))), (8, .int (enc ((j : Int))))]) X dX5_digest_239 rfl rfl (by decide) rfl ?_
                    refine tw_goto (tgt := 135) X dX5_digest_242 (by decide) ?_
                    refine Twiden (k' := 1 + (i + 1)) (n' := 10 + 5 * (i + 1)) (by omega) (by omega) ?_
                    refine Tsub (lv' := [(0, .ref (q 0)), (2, .long (dgR M (wv (wv (wv (wv (wv (wv (wv (wv (wv (wv (2153 : Int64) (M 20 0)) (M 19 0)) (M 16 0)) (M 17 0)) (M 18 0)) (cntC M (M 16 0).toNat)) (frI M (M 17 0).toNat)) (mostW M (M 16 0).toNat).1) (pdP M (M 19 0).toNat)) (bestM M)) (i + 1))), (4, .int (enc ((i : Int) + 1)))]) [1, 2, 0] rfl ?_
                    refine Teq (ws' := wP cy q M 0 kb fb) (lv' := [(0, .ref (q 0)), (2, .long (dgR M (wv (wv (wv (wv (wv (wv (wv (wv (wv (wv (2153 : Int64) (M 20 0)) (M 19 0)) (M 16 0)) (M 17 0)) (M 18 0)) (cntC M (M 16 0).toNat)) (frI M (M 17 0).toNat)) (mostW M (M 16 0).toNat).1) (pdP M (M 19 0).toNat)) (bestM M)) (i + 1))), (4, .int (enc (((i + 1 : Nat) : Int))))]) (st' := []) (rfl) (lvk (lvk (lvc (i_succ i) rfl))) rfl (ih135 (i + 1) (by omega) (by omega))
                  · skip
                    refine tw_aload X dX5_digest_216 3 rfl ?_
                    refine tw_iload X dX5_digest_218 5 rfl ?_
                    refine tw_iald X (N := 5) (f := F2) 11 rfl (by decide) (by omega) dX5_digest_220 ?_
                    refine Tst (st' := [.int (enc (F2 (j : Int)))]) rfl ?_
                    refine tw_istore (lv' := [(9, .int (enc (F2 (j : Int)))), (0, .ref (q 0)), (4, .int (enc ((i : Int)))), (2, .long (fld F2 (dgR M (wv (wv (wv (wv (wv (wv (wv (wv (wv (wv (2153 : Int64) (M 20 0)) (M 19 0)) (M 16 0)) (M 17 0)) (M 18 0)) (cntC M (M 16 0).toNat)) (frI M (M 17 0).toNat)) (mostW M (M 16 0).toNat).1) (pdP M (M 19 0).toNat)) (bestM M)) i) j)), (6, .ref (qa145)), (7, .int (enc (5))), (8, .int (enc ((j : Int))))]) X dX5_digest_221 (by decide) rfl ?_
                    refine tw_lload_n X dX5_digest_223 3 rfl rfl ?_
                    refine tw_ldc2 X wk_X5_184 dX5_digest_224 ?_
                    refine tw_lmul X dX5_digest_227 ?_
                    refine tw_iload X dX5_digest_228 0 rfl ?_
                    refine tw_i2l X (iF2 j (by omega)) dX5_digest_230 ?_
                    refine tw_ladd X dX5_digest_231 ?_
                    refine tw_lstore_n (lv' := [(2, .long (((fld F2 (dgR M (wv (wv (wv (wv (wv (wv (wv (wv (wv (wv (2153 : Int64) (M 20 0)) (M 19 0)) (M 16 0)) (M 17 0)) (M 18 0)) (cntC M (M 16 0).toNat)) (frI M (M 17 0).toNat)) (mostW M (M 16 0).toNat).1) (pdP M (M 19 0).toNat)) (bestM M)) i) j) * (31 : Int64)) + (Int64.ofInt (F2 (j : Int))))), (9, .int (enc (F2 (j : Int)))), (0, .ref (q 0)), (4, .int (enc ((i : Int)))), (6, .ref (qa145)), (7, .int (enc (5))), (8, .int (enc ((j : Int))))]) X dX5_digest_232 rfl (by decide) rfl ?_
                    refine tw_iinc (q := 6) (x := (j : Int)) (y := (j : Int) + 1) (lv' := [(8, .int (enc ((j : Int) + 1))), (2, .long (((fld F2 (dgR M (wv (wv (wv (wv (wv (wv (wv (wv (wv (wv (2153 : Int64) (M 20 0)) (M 19 0)) (M 16 0)) (M 17 0)) (M 18 0)) (cntC M (M 16 0).toNat)) (frI M (M 17 0).toNat)) (mostW M (M 16 0).toNat).1) (pdP M (M 19 0).toNat)) (bestM M)) i) j) * (31 : Int64)) + (Int64.ofInt (F2 (j : Int))))), (9, .int (enc (F2 (j : Int)))), (0, .ref (q 0)), (4, .int (enc ((i : Int)))), (6, .ref (qa145)), (7, .int (enc (5)))]) X dX5_digest_233 rfl rfl (by decide) rfl ?_
                    refine tw_goto (tgt := 209) X dX5_digest_236 (by decide) ?_
                    refine Tsub (lv' := [(0, .ref (q 0)), (4, .int (enc ((i : Int)))), (2, .long (((fld F2 (dgR M (wv (wv (wv (wv (wv (wv (wv (wv (wv (wv (2153 : Int64) (M 20 0)) (M 19 0)) (M 16 0)) (M 17 0)) (M 18 0)) (cntC M (M 16 0).toNat)) (frI M (M 17 0).toNat)) (mostW M (M 16 0).toNat).1) (pdP M (M 19 0).toNat)) (bestM M)) i) j) * (31 : Int64)) + (Int64.ofInt (F2 (j : Int))))), (6, .ref (qa145)), (7, .int (enc (5))), (8, .int (enc ((j : Int) + 1)))]) [3, 4, 1, 5, 6, 0] rfl ?_
                    refine Teq (ws' := wP cy q M 0 kb fb ++ [(qa145, arI cy 5 F2)]) (lv' := [(0, .ref (q 0)), (4, .int (enc ((i : Int)))), (2, .long (fld F2 (dgR M (wv (wv (wv (wv (wv (wv (wv (wv (wv (wv (2153 : Int64) (M 20 0)) (M 19 0)) (M 16 0)) (M 17 0)) (M 18 0)) (cntC M (M 16 0).toNat)) (frI M (M 17 0).toNat)) (mostW M (M 16 0).toNat).1) (pdP M (M 19 0).toNat)) (bestM M)) i) (j + 1))), (6, .ref (qa145)), (7, .int (enc (5))), (8, .int (enc (((j + 1 : Nat) : Int))))]) (st' := []) (rfl) (lvk (lvk (lvl (by rw [fld_s]; rfl) (lvk (lvk (lvc (i_succ j) rfl)))))) rfl (ih209 (j + 1) (by omega) (by omega))
              refine Tsub (lv' := [(0, .ref (q 0)), (4, .int (enc ((i : Int)))), (2, .long (dgR M (wv (wv (wv (wv (wv (wv (wv (wv (wv (wv (2153 : Int64) (M 20 0)) (M 19 0)) (M 16 0)) (M 17 0)) (M 18 0)) (cntC M (M 16 0).toNat)) (frI M (M 17 0).toNat)) (mostW M (M 16 0).toNat).1) (pdP M (M 19 0).toNat)) (bestM M)) i)), (6, .ref (qa145)), (7, .int (enc (5))), (8, .int (enc (0)))]) [4, 6, 5, 2, 1, 0] rfl ?_
              refine Teq (ws' := wP cy q M 0 kb fb ++ [(qa145, arI cy 5 F2)]) (lv' := [(0, .ref (q 0)), (4, .int (enc ((i : Int)))), (2, .long (fld F2 (dgR M (wv (wv (wv (wv (wv (wv (wv (wv (wv (wv (2153 : Int64) (M 20 0)) (M 19 0)) (M 16 0)) (M 17 0)) (M 18 0)) (cntC M (M 16 0).toNat)) (frI M (M 17 0).toNat)) (mostW M (M 16 0).toNat).1) (pdP M (M 19 0).toNat)) (bestM M)) i) 0)), (6, .ref (qa145)), (7, .int (enc (5))), (8, .int (enc (((0 : Nat) : Int))))]) (st' := []) (rfl) (rfl) rfl (L209 ((5 : Int) + 1).toNat 0 (by omega) (by omega))
        refine Twiden (k' := 1 + 0) (n' := 10 + 5 * 0) (by omega) (by omega) ?_
        refine Tsub (lv' := [(0, .ref (q 0)), (2, .long (dgR M (wv (wv (wv (wv (wv (wv (wv (wv (wv (wv (2153 : Int64) (M 20 0)) (M 19 0)) (M 16 0)) (M 17 0)) (M 18 0)) (cntC M (M 16 0).toNat)) (frI M (M 17 0).toNat)) (mostW M (M 16 0).toNat).1) (pdP M (M 19 0).toNat)) (bestM M)) 0)), (4, .int (enc (0)))]) [1, 2, 0] rfl ?_
        refine Teq (ws' := wP cy q M 0 kb fb) (lv' := [(0, .ref (q 0)), (2, .long (dgR M (wv (wv (wv (wv (wv (wv (wv (wv (wv (wv (2153 : Int64) (M 20 0)) (M 19 0)) (M 16 0)) (M 17 0)) (M 18 0)) (cntC M (M 16 0).toNat)) (frI M (M 17 0).toNat)) (mostW M (M 16 0).toNat).1) (pdP M (M 19 0).toNat)) (bestM M)) 0)), (4, .int (enc (((0 : Nat) : Int))))]) (st' := []) (rfl) (rfl) rfl (L135 (M 16 0 + 1).toNat 0 (by omega) (by omega))
      · skip
        refine tw_aload X dX5_digest_109 2 rfl ?_
        refine tw_iload X dX5_digest_111 4 rfl ?_
        refine tw_iald X (N := 10) (f := F1) 11 rfl (by decide) (by omega) dX5_digest_113 ?_
        refine Tst (st' := [.int (enc (F1 (j : Int)))]) rfl ?_
        refine tw_istore (lv' := [(7, .int (enc (F1 (j : Int)))), (0, .ref (q 0)), (2, .long (fld F1 ((2153 : Int64)) j)), (4, .ref (qa7)), (5, .int (enc (10))), (6, .int (enc ((j : Int))))]) X dX5_digest_114 (by decide) rfl ?_
        refine tw_lload_n X dX5_digest_116 2 rfl rfl ?_
        refine tw_ldc2 X wk_X5_184 dX5_digest_117 ?_
        refine tw_lmul X dX5_digest_120 ?_
        refine tw_iload X dX5_digest_121 0 rfl ?_
        refine tw_i2l X (iF1 j (by omega)) dX5_digest_123 ?_
        refine tw_ladd X dX5_digest_124 ?_
        refine tw_lstore_n (lv' := [(2, .long (((fld F1 ((2153 : Int64)) j) * (31 : Int64)) + (Int64.ofInt (F1 (j : Int))))), (7, .int (enc (F1 (j : Int)))), (0, .ref (q 0)), (4, .ref (qa7)), (5, .int (enc (10))), (6, .int (enc ((j : Int))))]) X dX5_digest_125 rfl (by decide) rfl ?_
        refine tw_iinc (q := 5) (x := (j : Int)) (y := (j : Int) + 1) (lv' := [(6, .int (enc ((j : Int) + 1))), (2, .long (((fld F1 ((2153 : Int64)) j) * (31 : Int64)) + (Int64.ofInt (F1 (j : Int))))), (7, .int (enc (F1 (j : Int)))), (0, .ref (q 0)), (4, .ref (qa7)), (5, .int (enc (10)))]) X dX5_digest_126 rfl rfl (by decide) rfl ?_
        refine tw_goto (tgt := 102) X dX5_digest_129 (by decide) ?_
        refine Tsub (lv' := [(0, .ref (q 0)), (2, .long (((fld F1 ((2153 : Int64)) j) * (31 : Int64)) + (Int64.ofInt (F1 (j : Int))))), (4, .ref (qa7)), (5, .int (enc (10))), (6, .int (enc ((j : Int) + 1)))]) [3, 1, 4, 5, 0] rfl ?_
        refine Teq (ws' := wP cy q M 0 kb fb ++ [(qa7, arI cy 10 F1)]) (lv' := [(0, .ref (q 0)), (2, .long (fld F1 ((2153 : Int64)) (j + 1))), (4, .ref (qa7)), (5, .int (enc (10))), (6, .int (enc (((j + 1 : Nat) : Int))))]) (st' := []) (rfl) (lvk (lvl (by rw [fld_s]; rfl) (lvk (lvk (lvc (i_succ j) rfl))))) rfl (ih102 (j + 1) (by omega) (by omega))
  refine Tsub (lv' := [(0, .ref (q 0)), (2, .long ((2153 : Int64))), (4, .ref (qa7)), (5, .int (enc (10))), (6, .int (enc (0)))]) [5, 3, 2, 1, 0] rfl ?_
  refine Teq (ws' := wP cy q M 0 kb fb ++ [(qa7, arI cy 10 F1)]) (lv' := [(0, .ref (q 0)), (2, .long (fld F1 ((2153 : Int64)) 0)), (4, .ref (qa7)), (5, .int (enc (10))), (6, .int (enc (((0 : Nat) : Int))))]) (st' := []) (rfl) (rfl) rfl (L102 ((10 : Int) + 1).toNat 0 (by omega) (by omega))
