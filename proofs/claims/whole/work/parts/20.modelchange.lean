/-! THE MODEL: what changes it -/
theorem exY {cy : ClassId} {q : Nat → Nat} {K : Int} {N M : MT} {k f : Int → Int} (h : K = 0) : ∃ k' f', wP cy q N 0 k f = wP cy q (if K = 0 then N else M) K k' f' := ⟨k, f, by rw [if_pos h, h]⟩
theorem exN {cy : ClassId} {q : Nat → Nat} {K a : Int} {N M : MT} {k f : Int → Int} (h : K = a) (h2 : a ≠ 0) : ∃ k' f', wP cy q M a k f = wP cy q (if K = 0 then N else M) K k' f' := ⟨k, f, by rw [if_neg (by rw [h]; exact h2), h]⟩
theorem kM_1 {M : MT} {r h : Int} (k : kR M r = 1) : kM M r h = 1 := if_pos k
theorem kM_2 {M : MT} {r h : Int} (k : kR M r = 0) (h2 : ¬ (1 ≤ h ∧ h ≤ 20)) : kM M r h = 2 := by
  unfold kM
  rw [if_neg (by rw [k]; decide), if_pos h2]
theorem kM_3 {M : MT} {r h : Int} (k : kR M r = 0) (h2 : 1 ≤ h ∧ h ≤ 20) : kM M r h = if M 6 r = 0 then 0 else 3 := by
  unfold kM
  rw [if_neg (by rw [k]; decide), if_neg (fun z => z h2)]
theorem kX_1 {M : MT} {r : Int} (k : kR M r = 1) : kX M r = 1 := if_pos k
theorem kX_2 {M : MT} {r : Int} (k : kR M r = 0) (h2 : M 6 r ≠ 0 ∨ 0 < onR M r (M 17 0).toNat) : kX M r = 2 := by
  unfold kX
  rw [if_neg (by rw [k]; decide), if_pos h2]
theorem kX_0 {M : MT} {r : Int} (k : kR M r = 0) (h2 : M 6 r = 0) (h3 : ¬ 0 < onR M r (M 17 0).toNat) : kX M r = 0 := by
  unfold kX
  rw [if_neg (by rw [k]; decide), if_neg (by omega)]
theorem kAR_1 {M : MT} {a b l d : Int} (k : kC M a b = 1) : kAR M a b l d = 1 := if_pos k
theorem kAR_2 {M : MT} {a b l d : Int} (k : kC M a b = 0) (h : a = b ∨ ¬ (1 ≤ l ∧ l ≤ 9) ∨ ¬ (0 ≤ d ∧ d ≤ 3)) : kAR M a b l d = 2 := by
  unfold kAR
  rw [if_neg (by rw [k]; decide), if_pos h]
theorem kAR_3 {M : MT} {a b l d : Int} (k : kC M a b = 0) (h : ¬ (a = b ∨ ¬ (1 ≤ l ∧ l ≤ 9) ∨ ¬ (0 ≤ d ∧ d ≤ 3))) : kAR M a b l d = if M 16 0 = 20 then 3 else 0 := by
  unfold kAR
  rw [if_neg (by rw [k]; decide), if_neg h]
theorem kAT_1 {M : MT} {a b : Int} (k : kC M a b = 1) : kAT M a b = 1 := if_pos k
theorem kAT_2 {M : MT} {a b : Int} (k : kC M a b = 0) (h : a = b) : kAT M a b = 2 := by
  unfold kAT
  rw [if_neg (by rw [k]; decide), if_pos h]
theorem kAT_3 {M : MT} {a b : Int} (k : kC M a b = 0) (h : a ≠ b) (h2 : M 17 0 = 12 ∨ dO M false a b = -1) : kAT M a b = 3 := by
  unfold kAT
  rw [if_neg (by rw [k]; decide), if_neg h, if_pos h2]
theorem kAT_0 {M : MT} {a b : Int} (k : kC M a b = 0) (h : a ≠ b) (h2 : ¬ (M 17 0 = 12 ∨ dO M false a b = -1)) : kAT M a b = 0 := by
  unfold kAT
  rw [if_neg (by rw [k]; decide), if_neg h, if_neg h2]
theorem dO_rng {M : MT} (hW : WFR M) {o : Bool} {a b : Int} (ha : 0 ≤ a ∧ a < M 19 0) : -1 ≤ dO M o a b ∧ dO M o a b ≤ 108 := by
  have d := dst_ok (o := o) hW a b
  have d0 := d.1
  unfold dO
  by_cases z : dst M o a b < 1000000
  · have := dst_108 hW ha.1 ha.2 z
    rw [if_pos z]; omega
  · rw [if_neg z]; omega
/-- the rows of the model behind a tourist's coming -/
theorem wM_put {cy : ClassId} {q : Nat → Nat} {M : MT} {a g s : Int} {kept far : Int → Int} (h17 : 0 ≤ M 17 0 ∧ M 17 0 < 12) (h12 : M 12 (M 17 0) = 0) : wM cy q (upc (up (up (up M 11 (M 17 0) g) 13 (M 17 0) (M 20 0)) 14 (M 17 0) s) 17 (M 17 0 + 1)) (ups (ups (ups (pack M) (61 + 6 * M 17 0 + 0) a) (61 + 6 * M 17 0 + 1) (-1)) (61 + 6 * M 17 0 + 4) (-1)) 0 kept far = wP cy q (putT M a g s (M 20 0)) 0 kept far := by
  unfold wP
  rw [pack_st0 M h17, pack_st1 _ h17, pack_st4n _ h17]
  have e : pack (up (up (up M 7 (M 17 0) a) 8 (M 17 0) (-1)) 15 (M 17 0) (-1)) = pack (putT M a g s (M 20 0)) := by
    funext j
    refine pack_congr (fun _ => rfl) (fun _ _ => rfl) (fun _ _ => rfl) (fun _ _ => rfl) (fun _ _ => rfl) (fun _ _ => rfl) (fun _ _ => rfl) (fun _ _ => ?_) (fun _ _ => ?_) (fun _ _ => rfl)
    · show M 12 ((j - 61) / 6) = ups (M 12) (M 17 0) 0 ((j - 61) / 6)
      by_cases z : (j - 61) / 6 = M 17 0
      · rw [z, ups_same, h12]
      · rw [ups_ne _ z]
    · unfold dnM
      show (if ups (M 15) (M 17 0) (-1) ((j - 61) / 6) < 0 then (-1 : Int) else M 13 ((j - 61) / 6) + ups (M 15) (M 17 0) (-1) ((j - 61) / 6)) = (if ups (M 15) (M 17 0) (-1) ((j - 61) / 6) < 0 then (-1 : Int) else ups (M 13) (M 17 0) (M 20 0) ((j - 61) / 6) + ups (M 15) (M 17 0) (-1) ((j - 61) / 6))
      by_cases z : (j - 61) / 6 = M 17 0
      · rw [z, ups_same, if_pos (by decide), if_pos (by decide)]
      · rw [ups_ne _ z, ups_ne _ z]
  rw [e]
  rfl
set_option maxRecDepth 100000 in
set_option maxHeartbeats 4000000 in
theorem m_X5_addCrossing {G : va_G} {cy : ClassId} {q : Nat → Nat} (M : MT) (th : Int) (kept far : Int → Int) (B : Int) (hF : WF M B) (hB2 : B ≤ 800000) : Ct G cy yX5_addCrossing cX5_addCrossing 1 (some .int) ({ frames := 1, cells := 0, slots := 0, locals := 21 } : Room) 0 0 [.ref (q 0)] (wP cy q M th kept far) (fun v w1 => v = some (.int (enc (if kAC M = 0 then M 19 0 else 0))) ∧ ∃ k' f', w1 = wP cy q (if kAC M = 0 then upc M 19 (M 19 0 + 1) else M) (kAC M) k' f') := by
  refine Ct.ofI (by decide) (Nat.le_of_ble_eq_true rfl) rfl rfl (fun _ _ _ => rfl) ?_
  intro c X ret
  have hB := hF.bd (by omega)
  obtain ⟨w0, w1, w2, w3, w4⟩ := hF.r
  have h17 := hF.2.2.2.2.2.1
  have h172 := hF.2.2.2.2.2.2.1
  have h20 := hF.2.2.2.2.2.2.2.1
  refine Tlv (lv' := [(0, .ref (q 0))]) rfl ?_
  refine tw_aload_n X dX5_addCrossing_0 0 rfl rfl ?_
  refine tw_iconst X dX5_addCrossing_1 ?_
  refine pf_X5_40 X (ws' := wP cy q M (0) kept far) 0 rfl (Nat.le_of_ble_eq_true rfl) rfl rfl dX5_addCrossing_2 rfl ?_
  refine tw_aload_n X dX5_addCrossing_5 0 rfl rfl ?_
  refine gf_X5_44 X (v := .int (enc (M 19 0))) 0 rfl rfl dX5_addCrossing_6 ?_
  have b1 := hB 19 0
  refine tw_bipush X dX5_addCrossing_9 (by decide) ?_
  refine tw_icmp_ne (tgt := 20) X (In_of (by omega) (by omega)) (In_of (by omega) (by omega)) dX5_addCrossing_11 (by decide) (fun c11 => ?_) (fun c11 => ?_)
  · skip
    have hk : kAC M = 0 := if_neg c11
    refine tw_aload_n X dX5_addCrossing_20 0 rfl rfl ?_
    refine tw_dup X dX5_addCrossing_21 rfl ?_
    refine gf_X5_44 X (v := .int (enc (M 19 0))) 0 rfl rfl dX5_addCrossing_22 ?_
    have b2 := hB 19 0
    refine tw_iconst X dX5_addCrossing_25 ?_
    refine tw_iadd (z := (M 19 0) + 1) X dX5_addCrossing_26 rfl ?_
    refine pf_X5_44 X (ws' := wP cy q (upc M 19 ((M 19 0) + 1)) (0) kept far) 0 rfl (Nat.le_of_ble_eq_true rfl) rfl rfl dX5_addCrossing_27 rfl ?_
    refine tw_aload_n X dX5_addCrossing_30 0 rfl rfl ?_
    refine gf_X5_44 X (v := .int (enc ((M 19 0) + 1))) 0 rfl rfl dX5_addCrossing_31 ?_
    refine tw_iconst X dX5_addCrossing_34 ?_
    refine tw_isub (z := M 19 0) X dX5_addCrossing_35 (by omega) ?_
    exact ret _ _ _ _ dX5_addCrossing_36 (by first | exact ⟨ansY hk, exY hk⟩ | exact ⟨ansN hk (by decide), exN hk (by decide)⟩)
  · skip
    have hk : kAC M = 1 := if_pos c11
    refine tw_aload_n X dX5_addCrossing_14 0 rfl rfl ?_
    refine tw_iconst X dX5_addCrossing_15 ?_
    refine tw_callV X (As := [.int (enc (1))]) (st := []) vw_X5_116 (m_X5_fail (q := q) M (0) kept far (1)) ([]) ([]) rfl rfl (q0 := 0) rfl rfl rfl ⟨rfl, rfl, Nat.le_of_ble_eq_true rfl, Nat.le_of_ble_eq_true rfl⟩ ⟨Nat.le_of_ble_eq_true rfl, Nat.le_of_ble_eq_true rfl⟩ (Nat.le_of_ble_eq_true rfl) dX5_addCrossing_16 (fun v w1 hp => ?_)
    obtain ⟨rfl, rfl⟩ := hp
    refine Teq (ws' := wP cy q M 1 kept far) (lv' := [(0, .ref (q 0))]) (st' := [.int (enc (0))]) rfl rfl rfl ?_
    exact ret _ _ _ _ dX5_addCrossing_19 (by first | exact ⟨ansY hk, exY hk⟩ | exact ⟨ansN hk (by decide), exN hk (by decide)⟩)
set_option maxRecDepth 100000 in
set_option maxHeartbeats 4000000 in
theorem m_X5_addRoad {G : va_G} {cy : ClassId} {q : Nat → Nat} (M : MT) (th : Int) (kept far : Int → Int) (x y z u : Int) (hx : In x) (hy : In y) (hz : In z) (hu : In u) (B : Int) (hF : WF M B) (hB2 : B ≤ 800000) : Ct G cy yX5_addRoad cX5_addRoad 5 (some .int) ({ frames := 2, cells := 0, slots := 0, locals := 43 } : Room) 0 0 [.ref (q 0), .int (enc (x)), .int (enc (y)), .int (enc (z)), .int (enc (u))] (wP cy q M th kept far) (fun v w1 => v = some (.int (enc (if kAR M x y z u = 0 then M 16 0 else 0))) ∧ ∃ k' f', w1 = wP cy q (if kAR M x y z u = 0 then putR M x y z u else M) (kAR M x y z u) k' f') := by
  refine Ct.ofI (by decide) (Nat.le_of_ble_eq_true rfl) rfl rfl (fun _ _ _ => rfl) ?_
  intro c X ret
  have hB := hF.bd (by omega)
  obtain ⟨w0, w1, w2, w3, w4⟩ := hF.r
  have h17 := hF.2.2.2.2.2.1
  have h172 := hF.2.2.2.2.2.2.1
  have h20 := hF.2.2.2.2.2.2.2.1
  refine Tlv (lv' := [(0, .ref (q 0)), (1, .int (enc (x))), (2, .int (enc (y))), (3, .int (enc (z))), (4, .int (enc (u)))]) rfl ?_
  refine tw_aload_n X dX5_addRoad_0 0 rfl rfl ?_
  refine tw_iconst X dX5_addRoad_1 ?_
  refine pf_X5_40 X (ws' := wP cy q M (0) kept far) 0 rfl (Nat.le_of_ble_eq_true rfl) rfl rfl dX5_addRoad_2 rfl ?_
  refine tw_aload_n X dX5_addRoad_5 0 rfl rfl ?_
  refine tw_iload_n X dX5_addRoad_6 1 rfl rfl ?_
  refine tw_callV X (As := [.int (enc (x))]) (st := []) vw_X5_119 (m_X5_isCrossing (q := q) M (0) kept far (x) hx hB) ([]) ([]) rfl rfl (q0 := 0) rfl rfl rfl ⟨rfl, rfl, Nat.le_of_ble_eq_true rfl, Nat.le_of_ble_eq_true rfl⟩ ⟨Nat.le_of_ble_eq_true rfl, Nat.le_of_ble_eq_true rfl⟩ (Nat.le_of_ble_eq_true rfl) dX5_addRoad_7 (fun v w1 hp => ?_)
  obtain ⟨rfl, rfl⟩ := hp
  refine Teq (ws' := wP cy q M (0) kept far) (lv' := [(0, .ref (q 0)), (1, .int (enc (x))), (2, .int (enc (y))), (3, .int (enc (z))), (4, .int (enc (u)))]) (st' := [.int (enc (if 0 ≤ x ∧ x ≤ M 19 0 - 1 then 1 else 0))]) rfl rfl rfl ?_
  refine tw_if_eq (tgt := 21) X In_b dX5_addRoad_10 (by decide) (fun c10 => ?_) (fun c10 => ?_)
  · skip
    have c10 := b01.mp c10
    have hk : kAR M x y z u = 1 := kAR_1 (kC_n (Or.inl c10))
    refine tw_aload_n X dX5_addRoad_21 0 rfl rfl ?_
    refine tw_iconst X dX5_addRoad_22 ?_
    refine tw_callV X (As := [.int (enc (1))]) (st := []) vw_X5_116 (m_X5_fail (q := q) M (0) kept far (1)) ([]) ([]) rfl rfl (q0 := 0) rfl rfl rfl ⟨rfl, rfl, Nat.le_of_ble_eq_true rfl, Nat.le_of_ble_eq_true rfl⟩ ⟨Nat.le_of_ble_eq_true rfl, Nat.le_of_ble_eq_true rfl⟩ (Nat.le_of_ble_eq_true rfl) dX5_addRoad_23 (fun v w1 hp => ?_)
    obtain ⟨rfl, rfl⟩ := hp
    refine Teq (ws' := wP cy q M 1 kept far) (lv' := [(0, .ref (q 0)), (1, .int (enc (x))), (2, .int (enc (y))), (3, .int (enc (z))), (4, .int (enc (u)))]) (st' := [.int (enc (0))]) rfl rfl rfl ?_
    exact ret _ _ _ _ dX5_addRoad_26 (by first | exact ⟨ansY hk, exY hk⟩ | exact ⟨ansN hk (by decide), exN hk (by decide)⟩)
  · skip
    have c10 := b01n.mp c10
    refine tw_aload_n X dX5_addRoad_13 0 rfl rfl ?_
    refine tw_iload_n X dX5_addRoad_14 2 rfl rfl ?_
    refine tw_callV X (As := [.int (enc (y))]) (st := []) vw_X5_119 (m_X5_isCrossing (q := q) M (0) kept far (y) hy hB) ([]) ([]) rfl rfl (q0 := 0) rfl rfl rfl ⟨rfl, rfl, Nat.le_of_ble_eq_true rfl, Nat.le_of_ble_eq_true rfl⟩ ⟨Nat.le_of_ble_eq_true rfl, Nat.le_of_ble_eq_true rfl⟩ (Nat.le_of_ble_eq_true rfl) dX5_addRoad_15 (fun v w1 hp => ?_)
    obtain ⟨rfl, rfl⟩ := hp
    refine Teq (ws' := wP cy q M (0) kept far) (lv' := [(0, .ref (q 0)), (1, .int (enc (x))), (2, .int (enc (y))), (3, .int (enc (z))), (4, .int (enc (u)))]) (st' := [.int (enc (if 0 ≤ y ∧ y ≤ M 19 0 - 1 then 1 else 0))]) rfl rfl rfl ?_
    refine tw_if_ne (tgt := 27) X In_b dX5_addRoad_18 (by decide) (fun c18 => ?_) (fun c18 => ?_)
    · skip
      have c18 := b01n.mp c18
      have hc := kC_y c10 c18
      refine tw_iload_n X dX5_addRoad_27 1 rfl rfl ?_
      refine tw_iload_n X dX5_addRoad_28 2 rfl rfl ?_
      refine tw_icmp_eq (tgt := 52) X hx hy dX5_addRoad_29 (by decide) (fun c29 => ?_) (fun c29 => ?_)
      · skip
        have hk : kAR M x y z u = 2 := kAR_2 hc (Or.inl c29)
        refine tw_aload_n X dX5_addRoad_52 0 rfl rfl ?_
        refine tw_iconst X dX5_addRoad_53 ?_
        refine tw_callV X (As := [.int (enc (2))]) (st := []) vw_X5_116 (m_X5_fail (q := q) M (0) kept far (2)) ([]) ([]) rfl rfl (q0 := 0) rfl rfl rfl ⟨rfl, rfl, Nat.le_of_ble_eq_true rfl, Nat.le_of_ble_eq_true rfl⟩ ⟨Nat.le_of_ble_eq_true rfl, Nat.le_of_ble_eq_true rfl⟩ (Nat.le_of_ble_eq_true rfl) dX5_addRoad_54 (fun v w1 hp => ?_)
        obtain ⟨rfl, rfl⟩ := hp
        refine Teq (ws' := wP cy q M 2 kept far) (lv' := [(0, .ref (q 0)), (1, .int (enc (x))), (2, .int (enc (y))), (3, .int (enc (z))), (4, .int (enc (u)))]) (st' := [.int (enc (0))]) rfl rfl rfl ?_
        exact ret _ _ _ _ dX5_addRoad_57 (by first | exact ⟨ansY hk, exY hk⟩ | exact ⟨ansN hk (by decide), exN hk (by decide)⟩)
      · skip
        refine tw_iload_n X dX5_addRoad_32 3 rfl rfl ?_
        refine tw_iconst X dX5_addRoad_33 ?_
        refine tw_bipush X dX5_addRoad_34 (by decide) ?_
        refine tw_callS X (As := [.int (enc (z)), .int (enc (1)), .int (enc (9))]) (st := []) sw_X5_47 (m_X5_isIn (z) (1) (9) hz (In_of (by decide) (by decide)) (In_of (by decide) (by decide))) ([]) (wP cy q M (0) kept far) rfl rfl rfl ⟨rfl, rfl, Nat.le_of_ble_eq_true rfl, Nat.le_of_ble_eq_true rfl⟩ ⟨Nat.le_of_ble_eq_true rfl, Nat.le_of_ble_eq_true rfl⟩ (Nat.le_of_ble_eq_true rfl) dX5_addRoad_36 (fun v w1 hp => ?_)
        obtain ⟨rfl, rfl⟩ := hp
        refine Teq (ws' := wP cy q M (0) kept far) (lv' := [(0, .ref (q 0)), (1, .int (enc (x))), (2, .int (enc (y))), (3, .int (enc (z))), (4, .int (enc (u)))]) (st' := [.int (enc (if 1 ≤ z ∧ z ≤ 9 then 1 else 0))]) rfl rfl rfl ?_
        refine tw_if_eq (tgt := 52) X In_b dX5_addRoad_39 (by decide) (fun c39 => ?_) (fun c39 => ?_)
        · skip
          have c39 := b01.mp c39
          have hk : kAR M x y z u = 2 := kAR_2 hc (Or.inr (Or.inl c39))
          refine tw_aload_n X dX5_addRoad_52 0 rfl rfl ?_
          refine tw_iconst X dX5_addRoad_53 ?_
          refine tw_callV X (As := [.int (enc (2))]) (st := []) vw_X5_116 (m_X5_fail (q := q) M (0) kept far (2)) ([]) ([]) rfl rfl (q0 := 0) rfl rfl rfl ⟨rfl, rfl, Nat.le_of_ble_eq_true rfl, Nat.le_of_ble_eq_true rfl⟩ ⟨Nat.le_of_ble_eq_true rfl, Nat.le_of_ble_eq_true rfl⟩ (Nat.le_of_ble_eq_true rfl) dX5_addRoad_54 (fun v w1 hp => ?_)
          obtain ⟨rfl, rfl⟩ := hp
          refine Teq (ws' := wP cy q M 2 kept far) (lv' := [(0, .ref (q 0)), (1, .int (enc (x))), (2, .int (enc (y))), (3, .int (enc (z))), (4, .int (enc (u)))]) (st' := [.int (enc (0))]) rfl rfl rfl ?_
          exact ret _ _ _ _ dX5_addRoad_57 (by first | exact ⟨ansY hk, exY hk⟩ | exact ⟨ansN hk (by decide), exN hk (by decide)⟩)
        · skip
          have c39 := b01n.mp c39
          refine tw_iload X dX5_addRoad_42 4 rfl ?_
          refine tw_iconst X dX5_addRoad_44 ?_
          refine tw_iconst X dX5_addRoad_45 ?_
          refine tw_callS X (As := [.int (enc (u)), .int (enc (0)), .int (enc (3))]) (st := []) sw_X5_47 (m_X5_isIn (u) (0) (3) hu (In_of (by decide) (by decide)) (In_of (by decide) (by decide))) ([]) (wP cy q M (0) kept far) rfl rfl rfl ⟨rfl, rfl, Nat.le_of_ble_eq_true rfl, Nat.le_of_ble_eq_true rfl⟩ ⟨Nat.le_of_ble_eq_true rfl, Nat.le_of_ble_eq_true rfl⟩ (Nat.le_of_ble_eq_true rfl) dX5_addRoad_46 (fun v w1 hp => ?_)
          obtain ⟨rfl, rfl⟩ := hp
          refine Teq (ws' := wP cy q M (0) kept far) (lv' := [(0, .ref (q 0)), (1, .int (enc (x))), (2, .int (enc (y))), (3, .int (enc (z))), (4, .int (enc (u)))]) (st' := [.int (enc (if 0 ≤ u ∧ u ≤ 3 then 1 else 0))]) rfl rfl rfl ?_
          refine tw_if_ne (tgt := 58) X In_b dX5_addRoad_49 (by decide) (fun c49 => ?_) (fun c49 => ?_)
          · skip
            have c49 := b01n.mp c49
            have hk3 := kAR_3 hc (show ¬ (x = y ∨ ¬ (1 ≤ z ∧ z ≤ 9) ∨ ¬ (0 ≤ u ∧ u ≤ 3)) by omega)
            refine tw_aload_n X dX5_addRoad_58 0 rfl rfl ?_
            refine gf_X5_51 X (v := .int (enc (M 16 0))) 0 rfl rfl dX5_addRoad_59 ?_
            have b1 := hB 16 0
            refine tw_bipush X dX5_addRoad_62 (by decide) ?_
            refine tw_icmp_ne (tgt := 73) X (In_of (by omega) (by omega)) (In_of (by omega) (by omega)) dX5_addRoad_64 (by decide) (fun c64 => ?_) (fun c64 => ?_)
            · skip
              have hk : kAR M x y z u = 0 := by rw [hk3, if_neg c64]
              refine tw_aload_n X dX5_addRoad_73 0 rfl rfl ?_
              refine gf_X5_9 X (v := .ref (q 1)) 0 rfl rfl dX5_addRoad_74 ?_
              refine tw_aload_n X dX5_addRoad_77 0 rfl rfl ?_
              refine gf_X5_51 X (v := .int (enc (M 16 0))) 0 rfl rfl dX5_addRoad_78 ?_
              have b2 := hB 16 0
              refine tw_iload_n X dX5_addRoad_81 1 rfl rfl ?_
              refine tw_iast X (N := 20) (f := (M 0)) (ws' := wP cy q (up M 0 (M 16 0) (x)) (0) kept far) 1 rfl (by decide) (by omega) dX5_addRoad_82 rfl ?_
              refine tw_aload_n X dX5_addRoad_83 0 rfl rfl ?_
              refine gf_X5_13 X (v := .ref (q 2)) 0 rfl rfl dX5_addRoad_84 ?_
              refine tw_aload_n X dX5_addRoad_87 0 rfl rfl ?_
              refine gf_X5_51 X (v := .int (enc (M 16 0))) 0 rfl rfl dX5_addRoad_88 ?_
              have b3 := hB 16 0
              refine tw_iload_n X dX5_addRoad_91 2 rfl rfl ?_
              refine tw_iast X (N := 20) (f := (M 1)) (ws' := wP cy q (up (up M 0 (M 16 0) (x)) 1 (M 16 0) (y)) (0) kept far) 2 rfl (by decide) (by omega) dX5_addRoad_92 rfl ?_
              refine tw_aload_n X dX5_addRoad_93 0 rfl rfl ?_
              refine gf_X5_16 X (v := .ref (q 3)) 0 rfl rfl dX5_addRoad_94 ?_
              refine tw_aload_n X dX5_addRoad_97 0 rfl rfl ?_
              refine gf_X5_51 X (v := .int (enc (M 16 0))) 0 rfl rfl dX5_addRoad_98 ?_
              have b4 := hB 16 0
              refine tw_iload_n X dX5_addRoad_101 3 rfl rfl ?_
              refine tw_iast X (N := 20) (f := (M 2)) (ws' := wP cy q (up (up (up M 0 (M 16 0) (x)) 1 (M 16 0) (y)) 2 (M 16 0) (z)) (0) kept far) 3 rfl (by decide) (by omega) dX5_addRoad_102 rfl ?_
              refine tw_aload_n X dX5_addRoad_103 0 rfl rfl ?_
              refine gf_X5_19 X (v := .ref (q 4)) 0 rfl rfl dX5_addRoad_104 ?_
              refine tw_aload_n X dX5_addRoad_107 0 rfl rfl ?_
              refine gf_X5_51 X (v := .int (enc (M 16 0))) 0 rfl rfl dX5_addRoad_108 ?_
              have b5 := hB 16 0
              refine tw_iload X dX5_addRoad_111 4 rfl ?_
              refine tw_iast X (N := 20) (f := (M 3)) (ws' := wP cy q (up (up (up (up M 0 (M 16 0) (x)) 1 (M 16 0) (y)) 2 (M 16 0) (z)) 3 (M 16 0) (u)) (0) kept far) 4 rfl (by decide) (by omega) dX5_addRoad_113 rfl ?_
              refine tw_aload_n X dX5_addRoad_114 0 rfl rfl ?_
              refine tw_dup X dX5_addRoad_115 rfl ?_
              refine gf_X5_51 X (v := .int (enc (M 16 0))) 0 rfl rfl dX5_addRoad_116 ?_
              have b6 := hB 16 0
              refine tw_iconst X dX5_addRoad_119 ?_
              refine tw_iadd (z := (M 16 0) + 1) X dX5_addRoad_120 rfl ?_
              refine pf_X5_51 X (ws' := wP cy q (upc (up (up (up (up M 0 (M 16 0) (x)) 1 (M 16 0) (y)) 2 (M 16 0) (z)) 3 (M 16 0) (u)) 16 ((M 16 0) + 1)) (0) kept far) 0 rfl (Nat.le_of_ble_eq_true rfl) rfl rfl dX5_addRoad_121 rfl ?_
              refine tw_aload_n X dX5_addRoad_124 0 rfl rfl ?_
              refine gf_X5_51 X (v := .int (enc ((M 16 0) + 1))) 0 rfl rfl dX5_addRoad_125 ?_
              refine tw_iconst X dX5_addRoad_128 ?_
              refine tw_isub (z := M 16 0) X dX5_addRoad_129 (by omega) ?_
              exact ret _ _ _ _ dX5_addRoad_130 (by first | exact ⟨ansY hk, exY hk⟩ | exact ⟨ansN hk (by decide), exN hk (by decide)⟩)
            · skip
              have hk : kAR M x y z u = 3 := by rw [hk3, if_pos c64]
              refine tw_aload_n X dX5_addRoad_67 0 rfl rfl ?_
              refine tw_iconst X dX5_addRoad_68 ?_
              refine tw_callV X (As := [.int (enc (3))]) (st := []) vw_X5_116 (m_X5_fail (q := q) M (0) kept far (3)) ([]) ([]) rfl rfl (q0 := 0) rfl rfl rfl ⟨rfl, rfl, Nat.le_of_ble_eq_true rfl, Nat.le_of_ble_eq_true rfl⟩ ⟨Nat.le_of_ble_eq_true rfl, Nat.le_of_ble_eq_true rfl⟩ (Nat.le_of_ble_eq_true rfl) dX5_addRoad_69 (fun v w1 hp => ?_)
              obtain ⟨rfl, rfl⟩ := hp
              refine Teq (ws' := wP cy q M 3 kept far) (lv' := [(0, .ref (q 0)), (1, .int (enc (x))), (2, .int (enc (y))), (3, .int (enc (z))), (4, .int (enc (u)))]) (st' := [.int (enc (0))]) rfl rfl rfl ?_
              exact ret _ _ _ _ dX5_addRoad_72 (by first | exact ⟨ansY hk, exY hk⟩ | exact ⟨ansN hk (by decide), exN hk (by decide)⟩)
          · skip
            have c49 := b01.mp c49
            have hk : kAR M x y z u = 2 := kAR_2 hc (Or.inr (Or.inr c49))
            refine tw_aload_n X dX5_addRoad_52 0 rfl rfl ?_
            refine tw_iconst X dX5_addRoad_53 ?_
            refine tw_callV X (As := [.int (enc (2))]) (st := []) vw_X5_116 (m_X5_fail (q := q) M (0) kept far (2)) ([]) ([]) rfl rfl (q0 := 0) rfl rfl rfl ⟨rfl, rfl, Nat.le_of_ble_eq_true rfl, Nat.le_of_ble_eq_true rfl⟩ ⟨Nat.le_of_ble_eq_true rfl, Nat.le_of_ble_eq_true rfl⟩ (Nat.le_of_ble_eq_true rfl) dX5_addRoad_54 (fun v w1 hp => ?_)
            obtain ⟨rfl, rfl⟩ := hp
            refine Teq (ws' := wP cy q M 2 kept far) (lv' := [(0, .ref (q 0)), (1, .int (enc (x))), (2, .int (enc (y))), (3, .int (enc (z))), (4, .int (enc (u)))]) (st' := [.int (enc (0))]) rfl rfl rfl ?_
            exact ret _ _ _ _ dX5_addRoad_57 (by first | exact ⟨ansY hk, exY hk⟩ | exact ⟨ansN hk (by decide), exN hk (by decide)⟩)
    · skip
      have c18 := b01.mp c18
      have hk : kAR M x y z u = 1 := kAR_1 (kC_n (Or.inr c18))
      refine tw_aload_n X dX5_addRoad_21 0 rfl rfl ?_
      refine tw_iconst X dX5_addRoad_22 ?_
      refine tw_callV X (As := [.int (enc (1))]) (st := []) vw_X5_116 (m_X5_fail (q := q) M (0) kept far (1)) ([]) ([]) rfl rfl (q0 := 0) rfl rfl rfl ⟨rfl, rfl, Nat.le_of_ble_eq_true rfl, Nat.le_of_ble_eq_true rfl⟩ ⟨Nat.le_of_ble_eq_true rfl, Nat.le_of_ble_eq_true rfl⟩ (Nat.le_of_ble_eq_true rfl) dX5_addRoad_23 (fun v w1 hp => ?_)
      obtain ⟨rfl, rfl⟩ := hp
      refine Teq (ws' := wP cy q M 1 kept far) (lv' := [(0, .ref (q 0)), (1, .int (enc (x))), (2, .int (enc (y))), (3, .int (enc (z))), (4, .int (enc (u)))]) (st' := [.int (enc (0))]) rfl rfl rfl ?_
      exact ret _ _ _ _ dX5_addRoad_26 (by first | exact ⟨ansY hk, exY hk⟩ | exact ⟨ansN hk (by decide), exN hk (by decide)⟩)
set_option maxRecDepth 100000 in
set_option maxHeartbeats 4000000 in
theorem m_X5_mend {G : va_G} {cy : ClassId} {q : Nat → Nat} (M : MT) (th : Int) (kept far : Int → Int) (x y : Int) (hx : In x) (hy : In y) (B : Int) (hF : WF M B) (hB2 : B ≤ 800000) : Ct G cy yX5_mend cX5_mend 3 (some .int) ({ frames := 2, cells := 0, slots := 0, locals := 43 } : Room) 0 0 [.ref (q 0), .int (enc (x)), .int (enc (y))] (wP cy q M th kept far) (fun v w1 => v = some (.int (enc (if kM M x y = 0 then M 4 x else 0))) ∧ ∃ k' f', w1 = wP cy q (if kM M x y = 0 then up M 6 x y else M) (kM M x y) k' f') := by
  refine Ct.ofI (by decide) (Nat.le_of_ble_eq_true rfl) rfl rfl (fun _ _ _ => rfl) ?_
  intro c X ret
  have hB := hF.bd (by omega)
  obtain ⟨w0, w1, w2, w3, w4⟩ := hF.r
  have h17 := hF.2.2.2.2.2.1
  have h172 := hF.2.2.2.2.2.2.1
  have h20 := hF.2.2.2.2.2.2.2.1
  refine Tlv (lv' := [(0, .ref (q 0)), (1, .int (enc (x))), (2, .int (enc (y)))]) rfl ?_
  refine tw_aload_n X dX5_mend_0 0 rfl rfl ?_
  refine tw_iconst X dX5_mend_1 ?_
  refine pf_X5_40 X (ws' := wP cy q M (0) kept far) 0 rfl (Nat.le_of_ble_eq_true rfl) rfl rfl dX5_mend_2 rfl ?_
  refine tw_aload_n X dX5_mend_5 0 rfl rfl ?_
  refine tw_iload_n X dX5_mend_6 1 rfl rfl ?_
  refine tw_callV X (As := [.int (enc (x))]) (st := []) vw_X5_126 (m_X5_isRoad (q := q) M (0) kept far (x) hx hB) ([]) ([]) rfl rfl (q0 := 0) rfl rfl rfl ⟨rfl, rfl, Nat.le_of_ble_eq_true rfl, Nat.le_of_ble_eq_true rfl⟩ ⟨Nat.le_of_ble_eq_true rfl, Nat.le_of_ble_eq_true rfl⟩ (Nat.le_of_ble_eq_true rfl) dX5_mend_7 (fun v w1 hp => ?_)
  obtain ⟨rfl, rfl⟩ := hp
  refine Teq (ws' := wP cy q M (0) kept far) (lv' := [(0, .ref (q 0)), (1, .int (enc (x))), (2, .int (enc (y)))]) (st' := [.int (enc (if 0 ≤ x ∧ x ≤ M 16 0 - 1 then 1 else 0))]) rfl rfl rfl ?_
  refine tw_if_ne (tgt := 19) X In_b dX5_mend_10 (by decide) (fun c10 => ?_) (fun c10 => ?_)
  · skip
    have c10 := b01n.mp c10
    have hr : kR M x = 0 := if_pos c10
    refine tw_iload_n X dX5_mend_19 2 rfl rfl ?_
    refine tw_iconst X dX5_mend_20 ?_
    refine tw_bipush X dX5_mend_21 (by decide) ?_
    refine tw_callS X (As := [.int (enc (y)), .int (enc (1)), .int (enc (20))]) (st := []) sw_X5_47 (m_X5_isIn (y) (1) (20) hy (In_of (by decide) (by decide)) (In_of (by decide) (by decide))) ([]) (wP cy q M (0) kept far) rfl rfl rfl ⟨rfl, rfl, Nat.le_of_ble_eq_true rfl, Nat.le_of_ble_eq_true rfl⟩ ⟨Nat.le_of_ble_eq_true rfl, Nat.le_of_ble_eq_true rfl⟩ (Nat.le_of_ble_eq_true rfl) dX5_mend_23 (fun v w1 hp => ?_)
    obtain ⟨rfl, rfl⟩ := hp
    refine Teq (ws' := wP cy q M (0) kept far) (lv' := [(0, .ref (q 0)), (1, .int (enc (x))), (2, .int (enc (y)))]) (st' := [.int (enc (if 1 ≤ y ∧ y ≤ 20 then 1 else 0))]) rfl rfl rfl ?_
    refine tw_if_ne (tgt := 35) X In_b dX5_mend_26 (by decide) (fun c26 => ?_) (fun c26 => ?_)
    · skip
      have c26 := b01n.mp c26
      have hk3 := kM_3 hr c26
      refine tw_aload_n X dX5_mend_35 0 rfl rfl ?_
      refine tw_iload_n X dX5_mend_36 1 rfl rfl ?_
      refine tw_callV X (As := [.int (enc (x))]) (st := []) vw_X5_70 (m_X5_isOpen (q := q) M (0) kept far (x) hB (by omega)) ([]) ([]) rfl rfl (q0 := 0) rfl rfl rfl ⟨rfl, rfl, Nat.le_of_ble_eq_true rfl, Nat.le_of_ble_eq_true rfl⟩ ⟨Nat.le_of_ble_eq_true rfl, Nat.le_of_ble_eq_true rfl⟩ (Nat.le_of_ble_eq_true rfl) dX5_mend_37 (fun v w1 hp => ?_)
      obtain ⟨rfl, rfl⟩ := hp
      refine Teq (ws' := wP cy q M (0) kept far) (lv' := [(0, .ref (q 0)), (1, .int (enc (x))), (2, .int (enc (y)))]) (st' := [.int (enc (if M 6 x = 0 then 1 else 0))]) rfl rfl rfl ?_
      refine tw_if_ne (tgt := 49) X In_b dX5_mend_40 (by decide) (fun c40 => ?_) (fun c40 => ?_)
      · skip
        have c40 := b01n.mp c40
        have hk : kM M x y = 0 := by rw [hk3, if_pos c40]
        refine tw_aload_n X dX5_mend_49 0 rfl rfl ?_
        refine tw_iload_n X dX5_mend_50 1 rfl rfl ?_
        refine tw_iconst X dX5_mend_51 ?_
        refine tw_iload_n X dX5_mend_52 2 rfl rfl ?_
        refine tw_callV X (As := [.int (enc (x)), .int (enc (0)), .int (enc (y))]) (st := []) vw_X5_90 (m_X5_lay_0 (q := q) M (0) kept far (x) (y) (by omega)) ([]) ([]) rfl rfl (q0 := 0) rfl rfl rfl ⟨rfl, rfl, Nat.le_of_ble_eq_true rfl, Nat.le_of_ble_eq_true rfl⟩ ⟨Nat.le_of_ble_eq_true rfl, Nat.le_of_ble_eq_true rfl⟩ (Nat.le_of_ble_eq_true rfl) dX5_mend_53 (fun v w1 hp => ?_)
        obtain ⟨rfl, rfl⟩ := hp
        refine Teq (ws' := wP cy q (up M 6 (x) (y)) (0) kept far) (lv' := [(0, .ref (q 0)), (1, .int (enc (x))), (2, .int (enc (y)))]) (st' := []) rfl rfl rfl ?_
        refine tw_aload_n X dX5_mend_56 0 rfl rfl ?_
        refine tw_iload_n X dX5_mend_57 1 rfl rfl ?_
        refine tw_iconst X dX5_mend_58 ?_
        refine tw_callV X (As := [.int (enc (x)), .int (enc (1))]) (st := []) vw_X5_63 (m_X5_ro_1 (q := q) (up M 6 (x) (y)) (0) kept far (x) (by omega)) ([]) ([]) rfl rfl (q0 := 0) rfl rfl rfl ⟨rfl, rfl, Nat.le_of_ble_eq_true rfl, Nat.le_of_ble_eq_true rfl⟩ ⟨Nat.le_of_ble_eq_true rfl, Nat.le_of_ble_eq_true rfl⟩ (Nat.le_of_ble_eq_true rfl) dX5_mend_59 (fun v w1 hp => ?_)
        obtain ⟨rfl, rfl⟩ := hp
        refine Teq (ws' := wP cy q (up M 6 (x) (y)) (0) kept far) (lv' := [(0, .ref (q 0)), (1, .int (enc (x))), (2, .int (enc (y)))]) (st' := [.int (enc (M 4 x))]) rfl rfl rfl ?_
        have b1 := hB 4 x
        exact ret _ _ _ _ dX5_mend_62 (by first | exact ⟨ansY hk, exY hk⟩ | exact ⟨ansN hk (by decide), exN hk (by decide)⟩)
      · skip
        have c40 := b01.mp c40
        have hk : kM M x y = 3 := by rw [hk3, if_neg c40]
        refine tw_aload_n X dX5_mend_43 0 rfl rfl ?_
        refine tw_iconst X dX5_mend_44 ?_
        refine tw_callV X (As := [.int (enc (3))]) (st := []) vw_X5_116 (m_X5_fail (q := q) M (0) kept far (3)) ([]) ([]) rfl rfl (q0 := 0) rfl rfl rfl ⟨rfl, rfl, Nat.le_of_ble_eq_true rfl, Nat.le_of_ble_eq_true rfl⟩ ⟨Nat.le_of_ble_eq_true rfl, Nat.le_of_ble_eq_true rfl⟩ (Nat.le_of_ble_eq_true rfl) dX5_mend_45 (fun v w1 hp => ?_)
        obtain ⟨rfl, rfl⟩ := hp
        refine Teq (ws' := wP cy q M 3 kept far) (lv' := [(0, .ref (q 0)), (1, .int (enc (x))), (2, .int (enc (y)))]) (st' := [.int (enc (0))]) rfl rfl rfl ?_
        exact ret _ _ _ _ dX5_mend_48 (by first | exact ⟨ansY hk, exY hk⟩ | exact ⟨ansN hk (by decide), exN hk (by decide)⟩)
    · skip
      have c26 := b01.mp c26
      have hk : kM M x y = 2 := kM_2 hr c26
      refine tw_aload_n X dX5_mend_29 0 rfl rfl ?_
      refine tw_iconst X dX5_mend_30 ?_
      refine tw_callV X (As := [.int (enc (2))]) (st := []) vw_X5_116 (m_X5_fail (q := q) M (0) kept far (2)) ([]) ([]) rfl rfl (q0 := 0) rfl rfl rfl ⟨rfl, rfl, Nat.le_of_ble_eq_true rfl, Nat.le_of_ble_eq_true rfl⟩ ⟨Nat.le_of_ble_eq_true rfl, Nat.le_of_ble_eq_true rfl⟩ (Nat.le_of_ble_eq_true rfl) dX5_mend_31 (fun v w1 hp => ?_)
      obtain ⟨rfl, rfl⟩ := hp
      refine Teq (ws' := wP cy q M 2 kept far) (lv' := [(0, .ref (q 0)), (1, .int (enc (x))), (2, .int (enc (y)))]) (st' := [.int (enc (0))]) rfl rfl rfl ?_
      exact ret _ _ _ _ dX5_mend_34 (by first | exact ⟨ansY hk, exY hk⟩ | exact ⟨ansN hk (by decide), exN hk (by decide)⟩)
  · skip
    have c10 := b01.mp c10
    have hk : kM M x y = 1 := kM_1 (if_neg c10)
    refine tw_aload_n X dX5_mend_13 0 rfl rfl ?_
    refine tw_iconst X dX5_mend_14 ?_
    refine tw_callV X (As := [.int (enc (1))]) (st := []) vw_X5_116 (m_X5_fail (q := q) M (0) kept far (1)) ([]) ([]) rfl rfl (q0 := 0) rfl rfl rfl ⟨rfl, rfl, Nat.le_of_ble_eq_true rfl, Nat.le_of_ble_eq_true rfl⟩ ⟨Nat.le_of_ble_eq_true rfl, Nat.le_of_ble_eq_true rfl⟩ (Nat.le_of_ble_eq_true rfl) dX5_mend_15 (fun v w1 hp => ?_)
    obtain ⟨rfl, rfl⟩ := hp
    refine Teq (ws' := wP cy q M 1 kept far) (lv' := [(0, .ref (q 0)), (1, .int (enc (x))), (2, .int (enc (y)))]) (st' := [.int (enc (0))]) rfl rfl rfl ?_
    exact ret _ _ _ _ dX5_mend_18 (by first | exact ⟨ansY hk, exY hk⟩ | exact ⟨ansN hk (by decide), exN hk (by decide)⟩)
set_option maxRecDepth 100000 in
set_option maxHeartbeats 4000000 in
theorem m_X5_cutKnots {G : va_G} {cy : ClassId} {q : Nat → Nat} (M : MT) (th : Int) (kept far : Int → Int) (x : Int) (hx : In x) (B : Int) (hF : WF M B) (hB2 : B ≤ 800000) : Ct G cy yX5_cutKnots cX5_cutKnots 3 (some .int) ({ frames := 2, cells := 0, slots := 0, locals := 45 } : Room) 0 0 [.ref (q 0), .int (enc (x))] (wP cy q M th kept far) (fun v w1 => v = some (.int (enc (if kX M x = 0 then M 5 x else 0))) ∧ ∃ k' f', w1 = wP cy q (if kX M x = 0 then up M 5 x 0 else M) (kX M x) k' f') := by
  refine Ct.ofI (by decide) (Nat.le_of_ble_eq_true rfl) rfl rfl (fun _ _ _ => rfl) ?_
  intro c X ret
  have hB := hF.bd (by omega)
  obtain ⟨w0, w1, w2, w3, w4⟩ := hF.r
  have h17 := hF.2.2.2.2.2.1
  have h172 := hF.2.2.2.2.2.2.1
  have h20 := hF.2.2.2.2.2.2.2.1
  refine Tlv (lv' := [(0, .ref (q 0)), (1, .int (enc (x)))]) rfl ?_
  refine tw_aload_n X dX5_cutKnots_0 0 rfl rfl ?_
  refine tw_iconst X dX5_cutKnots_1 ?_
  refine pf_X5_40 X (ws' := wP cy q M (0) kept far) 0 rfl (Nat.le_of_ble_eq_true rfl) rfl rfl dX5_cutKnots_2 rfl ?_
  refine tw_aload_n X dX5_cutKnots_5 0 rfl rfl ?_
  refine tw_iload_n X dX5_cutKnots_6 1 rfl rfl ?_
  refine tw_callV X (As := [.int (enc (x))]) (st := []) vw_X5_126 (m_X5_isRoad (q := q) M (0) kept far (x) hx hB) ([]) ([]) rfl rfl (q0 := 0) rfl rfl rfl ⟨rfl, rfl, Nat.le_of_ble_eq_true rfl, Nat.le_of_ble_eq_true rfl⟩ ⟨Nat.le_of_ble_eq_true rfl, Nat.le_of_ble_eq_true rfl⟩ (Nat.le_of_ble_eq_true rfl) dX5_cutKnots_7 (fun v w1 hp => ?_)
  obtain ⟨rfl, rfl⟩ := hp
  refine Teq (ws' := wP cy q M (0) kept far) (lv' := [(0, .ref (q 0)), (1, .int (enc (x)))]) (st' := [.int (enc (if 0 ≤ x ∧ x ≤ M 16 0 - 1 then 1 else 0))]) rfl rfl rfl ?_
  refine tw_if_ne (tgt := 19) X In_b dX5_cutKnots_10 (by decide) (fun c10 => ?_) (fun c10 => ?_)
  · skip
    have c10 := b01n.mp c10
    have hr : kR M x = 0 := if_pos c10
    refine tw_aload_n X dX5_cutKnots_19 0 rfl rfl ?_
    refine tw_iload_n X dX5_cutKnots_20 1 rfl rfl ?_
    refine tw_callV X (As := [.int (enc (x))]) (st := []) vw_X5_70 (m_X5_isOpen (q := q) M (0) kept far (x) hB (by omega)) ([]) ([]) rfl rfl (q0 := 0) rfl rfl rfl ⟨rfl, rfl, Nat.le_of_ble_eq_true rfl, Nat.le_of_ble_eq_true rfl⟩ ⟨Nat.le_of_ble_eq_true rfl, Nat.le_of_ble_eq_true rfl⟩ (Nat.le_of_ble_eq_true rfl) dX5_cutKnots_21 (fun v w1 hp => ?_)
    obtain ⟨rfl, rfl⟩ := hp
    refine Teq (ws' := wP cy q M (0) kept far) (lv' := [(0, .ref (q 0)), (1, .int (enc (x)))]) (st' := [.int (enc (if M 6 x = 0 then 1 else 0))]) rfl rfl rfl ?_
    refine tw_if_eq (tgt := 35) X In_b dX5_cutKnots_24 (by decide) (fun c24 => ?_) (fun c24 => ?_)
    · skip
      have c24 := b01.mp c24
      have hk : kX M x = 2 := kX_2 hr (Or.inl c24)
      refine tw_aload_n X dX5_cutKnots_35 0 rfl rfl ?_
      refine tw_iconst X dX5_cutKnots_36 ?_
      refine tw_callV X (As := [.int (enc (2))]) (st := []) vw_X5_116 (m_X5_fail (q := q) M (0) kept far (2)) ([]) ([]) rfl rfl (q0 := 0) rfl rfl rfl ⟨rfl, rfl, Nat.le_of_ble_eq_true rfl, Nat.le_of_ble_eq_true rfl⟩ ⟨Nat.le_of_ble_eq_true rfl, Nat.le_of_ble_eq_true rfl⟩ (Nat.le_of_ble_eq_true rfl) dX5_cutKnots_37 (fun v w1 hp => ?_)
      obtain ⟨rfl, rfl⟩ := hp
      refine Teq (ws' := wP cy q M 2 kept far) (lv' := [(0, .ref (q 0)), (1, .int (enc (x)))]) (st' := [.int (enc (0))]) rfl rfl rfl ?_
      exact ret _ _ _ _ dX5_cutKnots_40 (by first | exact ⟨ansY hk, exY hk⟩ | exact ⟨ansN hk (by decide), exN hk (by decide)⟩)
    · skip
      have c24 := b01n.mp c24
      refine tw_aload_n X dX5_cutKnots_27 0 rfl rfl ?_
      refine tw_iload_n X dX5_cutKnots_28 1 rfl rfl ?_
      refine tw_callV X (As := [.int (enc (x))]) (st := []) vw_X5_110 (m_X5_on (q := q) M (0) kept far (x) hB (by omega) (by omega)) ([]) ([]) rfl rfl (q0 := 0) rfl rfl rfl ⟨rfl, rfl, Nat.le_of_ble_eq_true rfl, Nat.le_of_ble_eq_true rfl⟩ ⟨Nat.le_of_ble_eq_true rfl, Nat.le_of_ble_eq_true rfl⟩ (Nat.le_of_ble_eq_true rfl) dX5_cutKnots_29 (fun v w1 hp => ?_)
      obtain ⟨rfl, rfl⟩ := hp
      refine Teq (ws' := wP cy q M (0) kept far) (lv' := [(0, .ref (q 0)), (1, .int (enc (x)))]) (st' := [.int (enc (onR M x (M 17 0).toNat))]) rfl rfl rfl ?_
      have hon := onR_rng M x (M 17 0).toNat
      refine tw_if_le (tgt := 41) X (In_of (by omega) (by omega)) dX5_cutKnots_32 (by decide) (fun c32 => ?_) (fun c32 => ?_)
      · skip
        have hk : kX M x = 0 := kX_0 hr c24 (by omega)
        refine tw_aload_n X dX5_cutKnots_41 0 rfl rfl ?_
        refine tw_iload_n X dX5_cutKnots_42 1 rfl rfl ?_
        refine tw_iconst X dX5_cutKnots_43 ?_
        refine tw_callV X (As := [.int (enc (x)), .int (enc (2))]) (st := []) vw_X5_63 (m_X5_ro_2 (q := q) M (0) kept far (x) (by omega)) ([]) ([]) rfl rfl (q0 := 0) rfl rfl rfl ⟨rfl, rfl, Nat.le_of_ble_eq_true rfl, Nat.le_of_ble_eq_true rfl⟩ ⟨Nat.le_of_ble_eq_true rfl, Nat.le_of_ble_eq_true rfl⟩ (Nat.le_of_ble_eq_true rfl) dX5_cutKnots_44 (fun v w1 hp => ?_)
        obtain ⟨rfl, rfl⟩ := hp
        refine Teq (ws' := wP cy q M (0) kept far) (lv' := [(0, .ref (q 0)), (1, .int (enc (x)))]) (st' := [.int (enc (M 5 x))]) rfl rfl rfl ?_
        have b1 := hB 5 x
        refine tw_istore_n (lv' := [(2, .int (enc (M 5 x))), (0, .ref (q 0)), (1, .int (enc (x)))]) X dX5_cutKnots_47 rfl (by decide) rfl ?_
        refine tw_aload_n X dX5_cutKnots_48 1 rfl rfl ?_
        refine tw_iload_n X dX5_cutKnots_49 2 rfl rfl ?_
        refine tw_iconst X dX5_cutKnots_50 ?_
        refine tw_iconst X dX5_cutKnots_51 ?_
        refine tw_callV X (As := [.int (enc (x)), .int (enc (2)), .int (enc (0))]) (st := []) vw_X5_90 (m_X5_lay_2 (q := q) M (0) kept far (x) (0) (by omega)) ([]) ([]) rfl rfl (q0 := 0) rfl rfl rfl ⟨rfl, rfl, Nat.le_of_ble_eq_true rfl, Nat.le_of_ble_eq_true rfl⟩ ⟨Nat.le_of_ble_eq_true rfl, Nat.le_of_ble_eq_true rfl⟩ (Nat.le_of_ble_eq_true rfl) dX5_cutKnots_52 (fun v w1 hp => ?_)
        obtain ⟨rfl, rfl⟩ := hp
        refine Teq (ws' := wP cy q (up M 5 (x) (0)) (0) kept far) (lv' := [(2, .int (enc (M 5 x))), (0, .ref (q 0)), (1, .int (enc (x)))]) (st' := []) rfl rfl rfl ?_
        refine tw_iload_n X dX5_cutKnots_55 0 rfl rfl ?_
        exact ret _ _ _ _ dX5_cutKnots_56 (by first | exact ⟨ansY hk, exY hk⟩ | exact ⟨ansN hk (by decide), exN hk (by decide)⟩)
      · skip
        have hk : kX M x = 2 := kX_2 hr (Or.inr (by omega))
        refine tw_aload_n X dX5_cutKnots_35 0 rfl rfl ?_
        refine tw_iconst X dX5_cutKnots_36 ?_
        refine tw_callV X (As := [.int (enc (2))]) (st := []) vw_X5_116 (m_X5_fail (q := q) M (0) kept far (2)) ([]) ([]) rfl rfl (q0 := 0) rfl rfl rfl ⟨rfl, rfl, Nat.le_of_ble_eq_true rfl, Nat.le_of_ble_eq_true rfl⟩ ⟨Nat.le_of_ble_eq_true rfl, Nat.le_of_ble_eq_true rfl⟩ (Nat.le_of_ble_eq_true rfl) dX5_cutKnots_37 (fun v w1 hp => ?_)
        obtain ⟨rfl, rfl⟩ := hp
        refine Teq (ws' := wP cy q M 2 kept far) (lv' := [(0, .ref (q 0)), (1, .int (enc (x)))]) (st' := [.int (enc (0))]) rfl rfl rfl ?_
        exact ret _ _ _ _ dX5_cutKnots_40 (by first | exact ⟨ansY hk, exY hk⟩ | exact ⟨ansN hk (by decide), exN hk (by decide)⟩)
  · skip
    have c10 := b01.mp c10
    have hk : kX M x = 1 := kX_1 (if_neg c10)
    refine tw_aload_n X dX5_cutKnots_13 0 rfl rfl ?_
    refine tw_iconst X dX5_cutKnots_14 ?_
    refine tw_callV X (As := [.int (enc (1))]) (st := []) vw_X5_116 (m_X5_fail (q := q) M (0) kept far (1)) ([]) ([]) rfl rfl (q0 := 0) rfl rfl rfl ⟨rfl, rfl, Nat.le_of_ble_eq_true rfl, Nat.le_of_ble_eq_true rfl⟩ ⟨Nat.le_of_ble_eq_true rfl, Nat.le_of_ble_eq_true rfl⟩ (Nat.le_of_ble_eq_true rfl) dX5_cutKnots_15 (fun v w1 hp => ?_)
    obtain ⟨rfl, rfl⟩ := hp
    refine Teq (ws' := wP cy q M 1 kept far) (lv' := [(0, .ref (q 0)), (1, .int (enc (x)))]) (st' := [.int (enc (0))]) rfl rfl rfl ?_
    exact ret _ _ _ _ dX5_cutKnots_18 (by first | exact ⟨ansY hk, exY hk⟩ | exact ⟨ansN hk (by decide), exN hk (by decide)⟩)
set_option maxRecDepth 100000 in
set_option maxHeartbeats 4000000 in
theorem m_X5_pass {G : va_G} {cy : ClassId} {q : Nat → Nat} (M : MT) (th : Int) (kept far : Int → Int) (x : Int) (hx : In x) (B : Int) (hF : WF M B) (hB2 : B ≤ 800000) : Ct G cy yX5_pass cX5_pass 3 (some .int) ({ frames := 7, cells := 0, slots := 0, locals := 161 } : Room) 0 0 [.ref (q 0), .int (enc (x))] (wP cy q M th kept far) (fun v w1 => v = some (.int (enc (if kP x = 0 then hoursM M x.toNat 18 0 - M 18 0 else 0))) ∧ ∃ k' f', w1 = wP cy q (if kP x = 0 then hoursM M x.toNat else M) (kP x) k' f') := by
  refine Ct.ofI (by decide) (Nat.le_of_ble_eq_true rfl) rfl rfl (fun _ _ _ => rfl) ?_
  intro c X ret
  have hB := hF.bd (by omega)
  obtain ⟨w0, w1, w2, w3, w4⟩ := hF.r
  have h17 := hF.2.2.2.2.2.1
  have h172 := hF.2.2.2.2.2.2.1
  have h20 := hF.2.2.2.2.2.2.2.1
  refine Tlv (lv' := [(0, .ref (q 0)), (1, .int (enc (x)))]) rfl ?_
  refine tw_aload_n X dX5_pass_0 0 rfl rfl ?_
  refine tw_iconst X dX5_pass_1 ?_
  refine pf_X5_40 X (ws' := wP cy q M (0) kept far) 0 rfl (Nat.le_of_ble_eq_true rfl) rfl rfl dX5_pass_2 rfl ?_
  refine tw_iload_n X dX5_pass_5 1 rfl rfl ?_
  refine tw_iconst X dX5_pass_6 ?_
  refine tw_bipush X dX5_pass_7 (by decide) ?_
  refine tw_callS X (As := [.int (enc (x)), .int (enc (1)), .int (enc (50))]) (st := []) sw_X5_47 (m_X5_isIn (x) (1) (50) hx (In_of (by decide) (by decide)) (In_of (by decide) (by decide))) ([]) (wP cy q M (0) kept far) rfl rfl rfl ⟨rfl, rfl, Nat.le_of_ble_eq_true rfl, Nat.le_of_ble_eq_true rfl⟩ ⟨Nat.le_of_ble_eq_true rfl, Nat.le_of_ble_eq_true rfl⟩ (Nat.le_of_ble_eq_true rfl) dX5_pass_9 (fun v w1 hp => ?_)
  obtain ⟨rfl, rfl⟩ := hp
  refine Teq (ws' := wP cy q M (0) kept far) (lv' := [(0, .ref (q 0)), (1, .int (enc (x)))]) (st' := [.int (enc (if 1 ≤ x ∧ x ≤ 50 then 1 else 0))]) rfl rfl rfl ?_
  refine tw_if_ne (tgt := 21) X In_b dX5_pass_12 (by decide) (fun c12 => ?_) (fun c12 => ?_)
  · skip
    have c12 := b01n.mp c12
    have hk : kP x = 0 := if_pos c12
    have hWn := hF.hours x.toNat
    refine tw_aload_n X dX5_pass_21 0 rfl rfl ?_
    refine tw_callV X (As := []) (st := []) vw_X5_129 (m_X5_came (q := q) M (0) kept far B hF (by omega)) ([]) ([]) rfl rfl (q0 := 0) rfl rfl rfl ⟨rfl, rfl, Nat.le_of_ble_eq_true rfl, Nat.le_of_ble_eq_true rfl⟩ ⟨Nat.le_of_ble_eq_true rfl, Nat.le_of_ble_eq_true rfl⟩ (Nat.le_of_ble_eq_true rfl) dX5_pass_22 (fun v w1 hp => ?_)
    obtain ⟨rfl, rfl⟩ := hp
    refine Teq (ws' := wP cy q M (0) kept far) (lv' := [(0, .ref (q 0)), (1, .int (enc (x)))]) (st' := [.int (enc (cntIn M (M 17 0).toNat))]) rfl rfl rfl ?_
    refine Tst (st' := [.int (enc (M 18 0))]) (by rw [hF.2.2.2.2.2.2.2.2.1]) ?_
    refine tw_istore_n (lv' := [(2, .int (enc (M 18 0))), (0, .ref (q 0)), (1, .int (enc (x)))]) X dX5_pass_25 rfl (by decide) rfl ?_
    refine tw_aload_n X dX5_pass_26 1 rfl rfl ?_
    refine tw_iload_n X dX5_pass_27 2 rfl rfl ?_
    refine tw_callV X (As := [.int (enc (x))]) (st := []) vw_X5_133 (m_X5_hoursOn (q := q) M (0) kept far (x) x.toNat (by omega) (by omega) B hF hB2) ([]) ([]) rfl rfl (q0 := 0) rfl rfl rfl ⟨rfl, rfl, Nat.le_of_ble_eq_true rfl, Nat.le_of_ble_eq_true rfl⟩ ⟨Nat.le_of_ble_eq_true rfl, Nat.le_of_ble_eq_true rfl⟩ (Nat.le_of_ble_eq_true rfl) dX5_pass_28 (fun v w1 hp => ?_)
    obtain ⟨rfl, fh, rfl⟩ := hp
    refine Teq (ws' := wP cy q (hoursM M x.toNat) (0) kept fh) (lv' := [(2, .int (enc (M 18 0))), (0, .ref (q 0)), (1, .int (enc (x)))]) (st' := []) rfl rfl rfl ?_
    refine tw_aload_n X dX5_pass_31 1 rfl rfl ?_
    refine tw_callV X (As := []) (st := []) vw_X5_129 (m_X5_came (q := q) (hoursM M x.toNat) (0) kept fh (B + 26 * (x.toNat : Nat)) hWn (by omega)) ([]) ([]) rfl rfl (q0 := 0) rfl rfl rfl ⟨rfl, rfl, Nat.le_of_ble_eq_true rfl, Nat.le_of_ble_eq_true rfl⟩ ⟨Nat.le_of_ble_eq_true rfl, Nat.le_of_ble_eq_true rfl⟩ (Nat.le_of_ble_eq_true rfl) dX5_pass_32 (fun v w1 hp => ?_)
    obtain ⟨rfl, rfl⟩ := hp
    refine Teq (ws' := wP cy q (hoursM M x.toNat) (0) kept fh) (lv' := [(2, .int (enc (M 18 0))), (0, .ref (q 0)), (1, .int (enc (x)))]) (st' := [.int (enc (cntIn (hoursM M x.toNat) ((hoursM M x.toNat) 17 0).toNat))]) rfl rfl rfl ?_
    refine Tst (st' := [.int (enc (hoursM M x.toNat 18 0))]) (by rw [hWn.2.2.2.2.2.2.2.2.1]) ?_
    refine tw_iload_n X dX5_pass_35 0 rfl rfl ?_
    refine tw_isub (z := (hoursM M x.toNat 18 0) - (M 18 0)) X dX5_pass_36 rfl ?_
    exact ret _ _ _ _ dX5_pass_37 (by first | exact ⟨ansY hk, exY hk⟩ | exact ⟨ansN hk (by decide), exN hk (by decide)⟩)
  · skip
    have c12 := b01.mp c12
    have hk : kP x = 1 := if_neg c12
    refine tw_aload_n X dX5_pass_15 0 rfl rfl ?_
    refine tw_iconst X dX5_pass_16 ?_
    refine tw_callV X (As := [.int (enc (1))]) (st := []) vw_X5_116 (m_X5_fail (q := q) M (0) kept far (1)) ([]) ([]) rfl rfl (q0 := 0) rfl rfl rfl ⟨rfl, rfl, Nat.le_of_ble_eq_true rfl, Nat.le_of_ble_eq_true rfl⟩ ⟨Nat.le_of_ble_eq_true rfl, Nat.le_of_ble_eq_true rfl⟩ (Nat.le_of_ble_eq_true rfl) dX5_pass_17 (fun v w1 hp => ?_)
    obtain ⟨rfl, rfl⟩ := hp
    refine Teq (ws' := wP cy q M 1 kept far) (lv' := [(0, .ref (q 0)), (1, .int (enc (x)))]) (st' := [.int (enc (0))]) rfl rfl rfl ?_
    exact ret _ _ _ _ dX5_pass_20 (by first | exact ⟨ansY hk, exY hk⟩ | exact ⟨ansN hk (by decide), exN hk (by decide)⟩)
set_option maxRecDepth 100000 in
set_option maxHeartbeats 4000000 in
theorem m_X5_addTourist {G : va_G} {cy : ClassId} {q : Nat → Nat} (M : MT) (th : Int) (kept far : Int → Int) (x y : Int) (hx : In x) (hy : In y) (B : Int) (hF : WF M B) (hB2 : B ≤ 800000) : Ct G cy yX5_addTourist cX5_addTourist 4 (some .int) ({ frames := 4, cells := 0, slots := 0, locals := 92 } : Room) 0 0 [.ref (q 0), .int (enc (x)), .int (enc (y))] (wP cy q M th kept far) (fun v w1 => v = some (.int (enc (if kAT M x y = 0 then M 17 0 else 0))) ∧ ∃ k' f', w1 = wP cy q (if kAT M x y = 0 then putT M x y (dO M false x y) (M 20 0) else M) (kAT M x y) k' f') := by
  refine Ct.ofI (by decide) (Nat.le_of_ble_eq_true rfl) rfl rfl (fun _ _ _ => rfl) ?_
  intro c X ret
  have hB := hF.bd (by omega)
  obtain ⟨w0, w1, w2, w3, w4⟩ := hF.r
  have h17 := hF.2.2.2.2.2.1
  have h172 := hF.2.2.2.2.2.2.1
  have h20 := hF.2.2.2.2.2.2.2.1
  refine Tlv (lv' := [(0, .ref (q 0)), (1, .int (enc (x))), (2, .int (enc (y)))]) rfl ?_
  refine tw_aload_n X dX5_addTourist_0 0 rfl rfl ?_
  refine tw_iconst X dX5_addTourist_1 ?_
  refine pf_X5_40 X (ws' := wP cy q M (0) kept far) 0 rfl (Nat.le_of_ble_eq_true rfl) rfl rfl dX5_addTourist_2 rfl ?_
  refine tw_aload_n X dX5_addTourist_5 0 rfl rfl ?_
  refine tw_iload_n X dX5_addTourist_6 1 rfl rfl ?_
  refine tw_callV X (As := [.int (enc (x))]) (st := []) vw_X5_119 (m_X5_isCrossing (q := q) M (0) kept far (x) hx hB) ([]) ([]) rfl rfl (q0 := 0) rfl rfl rfl ⟨rfl, rfl, Nat.le_of_ble_eq_true rfl, Nat.le_of_ble_eq_true rfl⟩ ⟨Nat.le_of_ble_eq_true rfl, Nat.le_of_ble_eq_true rfl⟩ (Nat.le_of_ble_eq_true rfl) dX5_addTourist_7 (fun v w1 hp => ?_)
  obtain ⟨rfl, rfl⟩ := hp
  refine Teq (ws' := wP cy q M (0) kept far) (lv' := [(0, .ref (q 0)), (1, .int (enc (x))), (2, .int (enc (y)))]) (st' := [.int (enc (if 0 ≤ x ∧ x ≤ M 19 0 - 1 then 1 else 0))]) rfl rfl rfl ?_
  refine tw_if_eq (tgt := 21) X In_b dX5_addTourist_10 (by decide) (fun c10 => ?_) (fun c10 => ?_)
  · skip
    have c10 := b01.mp c10
    have hk : kAT M x y = 1 := kAT_1 (kC_n (Or.inl c10))
    refine tw_aload_n X dX5_addTourist_21 0 rfl rfl ?_
    refine tw_iconst X dX5_addTourist_22 ?_
    refine tw_callV X (As := [.int (enc (1))]) (st := []) vw_X5_116 (m_X5_fail (q := q) M (0) kept far (1)) ([]) ([]) rfl rfl (q0 := 0) rfl rfl rfl ⟨rfl, rfl, Nat.le_of_ble_eq_true rfl, Nat.le_of_ble_eq_true rfl⟩ ⟨Nat.le_of_ble_eq_true rfl, Nat.le_of_ble_eq_true rfl⟩ (Nat.le_of_ble_eq_true rfl) dX5_addTourist_23 (fun v w1 hp => ?_)
    obtain ⟨rfl, rfl⟩ := hp
    refine Teq (ws' := wP cy q M 1 kept far) (lv' := [(0, .ref (q 0)), (1, .int (enc (x))), (2, .int (enc (y)))]) (st' := [.int (enc (0))]) rfl rfl rfl ?_
    exact ret _ _ _ _ dX5_addTourist_26 (by first | exact ⟨ansY hk, exY hk⟩ | exact ⟨ansN hk (by decide), exN hk (by decide)⟩)
  · skip
    have c10 := b01n.mp c10
    refine tw_aload_n X dX5_addTourist_13 0 rfl rfl ?_
    refine tw_iload_n X dX5_addTourist_14 2 rfl rfl ?_
    refine tw_callV X (As := [.int (enc (y))]) (st := []) vw_X5_119 (m_X5_isCrossing (q := q) M (0) kept far (y) hy hB) ([]) ([]) rfl rfl (q0 := 0) rfl rfl rfl ⟨rfl, rfl, Nat.le_of_ble_eq_true rfl, Nat.le_of_ble_eq_true rfl⟩ ⟨Nat.le_of_ble_eq_true rfl, Nat.le_of_ble_eq_true rfl⟩ (Nat.le_of_ble_eq_true rfl) dX5_addTourist_15 (fun v w1 hp => ?_)
    obtain ⟨rfl, rfl⟩ := hp
    refine Teq (ws' := wP cy q M (0) kept far) (lv' := [(0, .ref (q 0)), (1, .int (enc (x))), (2, .int (enc (y)))]) (st' := [.int (enc (if 0 ≤ y ∧ y ≤ M 19 0 - 1 then 1 else 0))]) rfl rfl rfl ?_
    refine tw_if_ne (tgt := 27) X In_b dX5_addTourist_18 (by decide) (fun c18 => ?_) (fun c18 => ?_)
    · skip
      have c18 := b01n.mp c18
      have hc := kC_y c10 c18
      refine tw_iload_n X dX5_addTourist_27 1 rfl rfl ?_
      refine tw_iload_n X dX5_addTourist_28 2 rfl rfl ?_
      refine tw_icmp_ne (tgt := 38) X hx hy dX5_addTourist_29 (by decide) (fun c29 => ?_) (fun c29 => ?_)
      · skip
        refine tw_aload_n X dX5_addTourist_38 0 rfl rfl ?_
        refine tw_iload_n X dX5_addTourist_39 1 rfl rfl ?_
        refine tw_iload_n X dX5_addTourist_40 2 rfl rfl ?_
        refine tw_iconst X dX5_addTourist_41 ?_
        refine tw_callV X (As := [.int (enc (x)), .int (enc (y)), .int (enc (1))]) (st := []) vw_X5_122 (m_X5_apart (q := q) M (0) kept far (x) (y) false hF.r hB (by omega) (by omega)) ([]) ([]) rfl rfl (q0 := 0) rfl rfl rfl ⟨rfl, rfl, Nat.le_of_ble_eq_true rfl, Nat.le_of_ble_eq_true rfl⟩ ⟨Nat.le_of_ble_eq_true rfl, Nat.le_of_ble_eq_true rfl⟩ (Nat.le_of_ble_eq_true rfl) dX5_addTourist_42 (fun v w1 hp => ?_)
        obtain ⟨rfl, fm, rfl⟩ := hp
        refine Teq (ws' := wP cy q M (0) kept fm) (lv' := [(0, .ref (q 0)), (1, .int (enc (x))), (2, .int (enc (y)))]) (st' := [.int (enc (dO M false x y))]) rfl rfl rfl ?_
        have hdo := dO_rng hF.r (o := false) (a := x) (b := y) (by omega)
        refine tw_istore_n (lv' := [(3, .int (enc (dO M false x y))), (0, .ref (q 0)), (1, .int (enc (x))), (2, .int (enc (y)))]) X dX5_addTourist_45 rfl (by decide) rfl ?_
        refine tw_aload_n X dX5_addTourist_46 1 rfl rfl ?_
        refine gf_X5_54 X (v := .int (enc (M 17 0))) 0 rfl rfl dX5_addTourist_47 ?_
        have b1 := hB 17 0
        refine tw_bipush X dX5_addTourist_50 (by decide) ?_
        refine tw_icmp_eq (tgt := 60) X (In_of (by omega) (by omega)) (In_of (by omega) (by omega)) dX5_addTourist_52 (by decide) (fun c52 => ?_) (fun c52 => ?_)
        · skip
          have hk : kAT M x y = 3 := kAT_3 hc c29 (Or.inl c52)
          refine tw_aload_n X dX5_addTourist_60 1 rfl rfl ?_
          refine tw_iconst X dX5_addTourist_61 ?_
          refine tw_callV X (As := [.int (enc (3))]) (st := []) vw_X5_116 (m_X5_fail (q := q) M (0) kept fm (3)) ([]) ([]) rfl rfl (q0 := 0) rfl rfl rfl ⟨rfl, rfl, Nat.le_of_ble_eq_true rfl, Nat.le_of_ble_eq_true rfl⟩ ⟨Nat.le_of_ble_eq_true rfl, Nat.le_of_ble_eq_true rfl⟩ (Nat.le_of_ble_eq_true rfl) dX5_addTourist_62 (fun v w1 hp => ?_)
          obtain ⟨rfl, rfl⟩ := hp
          refine Teq (ws' := wP cy q M 3 kept fm) (lv' := [(3, .int (enc (dO M false x y))), (0, .ref (q 0)), (1, .int (enc (x))), (2, .int (enc (y)))]) (st' := [.int (enc (0))]) rfl rfl rfl ?_
          exact ret _ _ _ _ dX5_addTourist_65 (by first | exact ⟨ansY hk, exY hk⟩ | exact ⟨ansN hk (by decide), exN hk (by decide)⟩)
        · skip
          refine tw_iload_n X dX5_addTourist_55 0 rfl rfl ?_
          refine tw_iconst X dX5_addTourist_56 ?_
          refine tw_icmp_ne (tgt := 66) X (In_of (by omega) (by omega)) (In_of (by omega) (by omega)) dX5_addTourist_57 (by decide) (fun c57 => ?_) (fun c57 => ?_)
          · skip
            have hk : kAT M x y = 0 := kAT_0 hc c29 (by omega)
            refine Tws (ws' := wM cy q M (pack M) (0) kept fm) rfl ?_
            refine tw_aload_n X dX5_addTourist_66 1 rfl rfl ?_
            refine gf_X5_22 X (v := .ref (q 5)) 0 rfl rfl dX5_addTourist_67 ?_
            refine tw_aload_n X dX5_addTourist_70 1 rfl rfl ?_
            refine gf_X5_54 X (v := .int (enc (M 17 0))) 0 rfl rfl dX5_addTourist_71 ?_
            have b2 := hB 17 0
            refine tw_iload_n X dX5_addTourist_74 3 rfl rfl ?_
            refine tw_iast X (N := 12) (f := (M 11)) (ws' := wM cy q (up M 11 (M 17 0) (y)) (pack M) (0) kept fm) 5 rfl (by decide) (by omega) dX5_addTourist_75 rfl ?_
            refine tw_aload_n X dX5_addTourist_76 1 rfl rfl ?_
            refine gf_X5_25 X (v := .ref (q 6)) 0 rfl rfl dX5_addTourist_77 ?_
            refine tw_aload_n X dX5_addTourist_80 1 rfl rfl ?_
            refine gf_X5_54 X (v := .int (enc (M 17 0))) 0 rfl rfl dX5_addTourist_81 ?_
            have b3 := hB 17 0
            refine tw_aload_n X dX5_addTourist_84 1 rfl rfl ?_
            refine gf_X5_31 X (v := .ref (q 8)) 0 rfl rfl dX5_addTourist_85 ?_
            refine tw_iconst X dX5_addTourist_88 ?_
            refine tw_iald X (N := 133) (f := (pack M)) 8 rfl (by decide) (by omega) dX5_addTourist_89 ?_
            refine Tst (st' := [.int (enc (M 20 0)), .int (enc (M 17 0)), .ref (q 6)]) rfl ?_
            have b4 := hB 20 0
            refine tw_iast X (N := 12) (f := (M 13)) (ws' := wM cy q (up (up M 11 (M 17 0) (y)) 13 (M 17 0) (M 20 0)) (pack M) (0) kept fm) 6 rfl (by decide) (by omega) dX5_addTourist_90 rfl ?_
            refine tw_aload_n X dX5_addTourist_91 1 rfl rfl ?_
            refine gf_X5_28 X (v := .ref (q 7)) 0 rfl rfl dX5_addTourist_92 ?_
            refine tw_aload_n X dX5_addTourist_95 1 rfl rfl ?_
            refine gf_X5_54 X (v := .int (enc (M 17 0))) 0 rfl rfl dX5_addTourist_96 ?_
            have b5 := hB 17 0
            refine tw_iload_n X dX5_addTourist_99 0 rfl rfl ?_
            refine tw_iast X (N := 12) (f := (M 14)) (ws' := wM cy q (up (up (up M 11 (M 17 0) (y)) 13 (M 17 0) (M 20 0)) 14 (M 17 0) (dO M false x y)) (pack M) (0) kept fm) 7 rfl (by decide) (by omega) dX5_addTourist_100 rfl ?_
            refine tw_aload_n X dX5_addTourist_101 1 rfl rfl ?_
            refine tw_aload_n X dX5_addTourist_102 1 rfl rfl ?_
            refine gf_X5_54 X (v := .int (enc (M 17 0))) 0 rfl rfl dX5_addTourist_103 ?_
            have b6 := hB 17 0
            refine tw_iconst X dX5_addTourist_106 ?_
            refine tw_iload_n X dX5_addTourist_107 2 rfl rfl ?_
            refine tw_callV X (As := [.int (enc (M 17 0)), .int (enc (0)), .int (enc (x))]) (st := []) vw_X5_97 (m_X5_let (q := q) (up (up (up M 11 (M 17 0) (y)) 13 (M 17 0) (M 20 0)) 14 (M 17 0) (dO M false x y)) (pack M) (0) kept fm (M 17 0) 0 (x) (by omega) (by decide)) ([]) ([]) rfl rfl (q0 := 0) rfl rfl rfl ⟨rfl, rfl, Nat.le_of_ble_eq_true rfl, Nat.le_of_ble_eq_true rfl⟩ ⟨Nat.le_of_ble_eq_true rfl, Nat.le_of_ble_eq_true rfl⟩ (Nat.le_of_ble_eq_true rfl) dX5_addTourist_108 (fun v w1 hp => ?_)
            obtain ⟨rfl, rfl⟩ := hp
            refine Teq (ws' := wM cy q (up (up (up M 11 (M 17 0) (y)) 13 (M 17 0) (M 20 0)) 14 (M 17 0) (dO M false x y)) (ups (pack M) (61 + 6 * (M 17 0) + 0) (x)) (0) kept fm) (lv' := [(3, .int (enc (dO M false x y))), (0, .ref (q 0)), (1, .int (enc (x))), (2, .int (enc (y)))]) (st' := []) rfl rfl rfl ?_
            refine tw_aload_n X dX5_addTourist_111 1 rfl rfl ?_
            refine tw_aload_n X dX5_addTourist_112 1 rfl rfl ?_
            refine gf_X5_54 X (v := .int (enc (M 17 0))) 0 rfl rfl dX5_addTourist_113 ?_
            have b7 := hB 17 0
            refine tw_iconst X dX5_addTourist_116 ?_
            refine tw_iconst X dX5_addTourist_117 ?_
            refine tw_callV X (As := [.int (enc (M 17 0)), .int (enc (1)), .int (enc (-1))]) (st := []) vw_X5_97 (m_X5_let (q := q) (up (up (up M 11 (M 17 0) (y)) 13 (M 17 0) (M 20 0)) 14 (M 17 0) (dO M false x y)) (ups (pack M) (61 + 6 * (M 17 0) + 0) (x)) (0) kept fm (M 17 0) 1 (-1) (by omega) (by decide)) ([]) ([]) rfl rfl (q0 := 0) rfl rfl rfl ⟨rfl, rfl, Nat.le_of_ble_eq_true rfl, Nat.le_of_ble_eq_true rfl⟩ ⟨Nat.le_of_ble_eq_true rfl, Nat.le_of_ble_eq_true rfl⟩ (Nat.le_of_ble_eq_true rfl) dX5_addTourist_118 (fun v w1 hp => ?_)
            obtain ⟨rfl, rfl⟩ := hp
            refine Teq (ws' := wM cy q (up (up (up M 11 (M 17 0) (y)) 13 (M 17 0) (M 20 0)) 14 (M 17 0) (dO M false x y)) (ups (ups (pack M) (61 + 6 * (M 17 0) + 0) (x)) (61 + 6 * (M 17 0) + 1) (-1)) (0) kept fm) (lv' := [(3, .int (enc (dO M false x y))), (0, .ref (q 0)), (1, .int (enc (x))), (2, .int (enc (y)))]) (st' := []) rfl rfl rfl ?_
            refine tw_aload_n X dX5_addTourist_121 1 rfl rfl ?_
            refine tw_aload_n X dX5_addTourist_122 1 rfl rfl ?_
            refine gf_X5_54 X (v := .int (enc (M 17 0))) 0 rfl rfl dX5_addTourist_123 ?_
            have b8 := hB 17 0
            refine tw_iconst X dX5_addTourist_126 ?_
            refine tw_iconst X dX5_addTourist_127 ?_
            refine tw_callV X (As := [.int (enc (M 17 0)), .int (enc (4)), .int (enc (-1))]) (st := []) vw_X5_97 (m_X5_let (q := q) (up (up (up M 11 (M 17 0) (y)) 13 (M 17 0) (M 20 0)) 14 (M 17 0) (dO M false x y)) (ups (ups (pack M) (61 + 6 * (M 17 0) + 0) (x)) (61 + 6 * (M 17 0) + 1) (-1)) (0) kept fm (M 17 0) 4 (-1) (by omega) (by decide)) ([]) ([]) rfl rfl (q0 := 0) rfl rfl rfl ⟨rfl, rfl, Nat.le_of_ble_eq_true rfl, Nat.le_of_ble_eq_true rfl⟩ ⟨Nat.le_of_ble_eq_true rfl, Nat.le_of_ble_eq_true rfl⟩ (Nat.le_of_ble_eq_true rfl) dX5_addTourist_128 (fun v w1 hp => ?_)
            obtain ⟨rfl, rfl⟩ := hp
            refine Teq (ws' := wM cy q (up (up (up M 11 (M 17 0) (y)) 13 (M 17 0) (M 20 0)) 14 (M 17 0) (dO M false x y)) (ups (ups (ups (pack M) (61 + 6 * (M 17 0) + 0) (x)) (61 + 6 * (M 17 0) + 1) (-1)) (61 + 6 * (M 17 0) + 4) (-1)) (0) kept fm) (lv' := [(3, .int (enc (dO M false x y))), (0, .ref (q 0)), (1, .int (enc (x))), (2, .int (enc (y)))]) (st' := []) rfl rfl rfl ?_
            refine tw_aload_n X dX5_addTourist_131 1 rfl rfl ?_
            refine tw_dup X dX5_addTourist_132 rfl ?_
            refine gf_X5_54 X (v := .int (enc (M 17 0))) 0 rfl rfl dX5_addTourist_133 ?_
            have b9 := hB 17 0
            refine tw_iconst X dX5_addTourist_136 ?_
            refine tw_iadd (z := (M 17 0) + 1) X dX5_addTourist_137 rfl ?_
            refine pf_X5_54 X (ws' := wM cy q (upc (up (up (up M 11 (M 17 0) (y)) 13 (M 17 0) (M 20 0)) 14 (M 17 0) (dO M false x y)) 17 ((M 17 0) + 1)) (ups (ups (ups (pack M) (61 + 6 * (M 17 0) + 0) (x)) (61 + 6 * (M 17 0) + 1) (-1)) (61 + 6 * (M 17 0) + 4) (-1)) (0) kept fm) 0 rfl (Nat.le_of_ble_eq_true rfl) rfl rfl dX5_addTourist_138 rfl ?_
            refine tw_aload_n X dX5_addTourist_141 1 rfl rfl ?_
            refine gf_X5_54 X (v := .int (enc ((M 17 0) + 1))) 0 rfl rfl dX5_addTourist_142 ?_
            refine tw_iconst X dX5_addTourist_145 ?_
            refine tw_isub (z := M 17 0) X dX5_addTourist_146 (by omega) ?_
            exact ret _ _ _ _ dX5_addTourist_147 ⟨ansY hk, by rw [wM_put (by omega) (hF.2.2.2.2.2.2.2.2.2.2 _ (Int.le_refl _))]; exact exY hk⟩
          · skip
            have hk : kAT M x y = 3 := kAT_3 hc c29 (Or.inr c57)
            refine tw_aload_n X dX5_addTourist_60 1 rfl rfl ?_
            refine tw_iconst X dX5_addTourist_61 ?_
            refine tw_callV X (As := [.int (enc (3))]) (st := []) vw_X5_116 (m_X5_fail (q := q) M (0) kept fm (3)) ([]) ([]) rfl rfl (q0 := 0) rfl rfl rfl ⟨rfl, rfl, Nat.le_of_ble_eq_true rfl, Nat.le_of_ble_eq_true rfl⟩ ⟨Nat.le_of_ble_eq_true rfl, Nat.le_of_ble_eq_true rfl⟩ (Nat.le_of_ble_eq_true rfl) dX5_addTourist_62 (fun v w1 hp => ?_)
            obtain ⟨rfl, rfl⟩ := hp
            refine Teq (ws' := wP cy q M 3 kept fm) (lv' := [(3, .int (enc (dO M false x y))), (0, .ref (q 0)), (1, .int (enc (x))), (2, .int (enc (y)))]) (st' := [.int (enc (0))]) rfl rfl rfl ?_
            exact ret _ _ _ _ dX5_addTourist_65 (by first | exact ⟨ansY hk, exY hk⟩ | exact ⟨ansN hk (by decide), exN hk (by decide)⟩)
      · skip
        have hk : kAT M x y = 2 := kAT_2 hc c29
        refine tw_aload_n X dX5_addTourist_32 0 rfl rfl ?_
        refine tw_iconst X dX5_addTourist_33 ?_
        refine tw_callV X (As := [.int (enc (2))]) (st := []) vw_X5_116 (m_X5_fail (q := q) M (0) kept far (2)) ([]) ([]) rfl rfl (q0 := 0) rfl rfl rfl ⟨rfl, rfl, Nat.le_of_ble_eq_true rfl, Nat.le_of_ble_eq_true rfl⟩ ⟨Nat.le_of_ble_eq_true rfl, Nat.le_of_ble_eq_true rfl⟩ (Nat.le_of_ble_eq_true rfl) dX5_addTourist_34 (fun v w1 hp => ?_)
        obtain ⟨rfl, rfl⟩ := hp
        refine Teq (ws' := wP cy q M 2 kept far) (lv' := [(0, .ref (q 0)), (1, .int (enc (x))), (2, .int (enc (y)))]) (st' := [.int (enc (0))]) rfl rfl rfl ?_
        exact ret _ _ _ _ dX5_addTourist_37 (by first | exact ⟨ansY hk, exY hk⟩ | exact ⟨ansN hk (by decide), exN hk (by decide)⟩)
    · skip
      have c18 := b01.mp c18
      have hk : kAT M x y = 1 := kAT_1 (kC_n (Or.inr c18))
      refine tw_aload_n X dX5_addTourist_21 0 rfl rfl ?_
      refine tw_iconst X dX5_addTourist_22 ?_
      refine tw_callV X (As := [.int (enc (1))]) (st := []) vw_X5_116 (m_X5_fail (q := q) M (0) kept far (1)) ([]) ([]) rfl rfl (q0 := 0) rfl rfl rfl ⟨rfl, rfl, Nat.le_of_ble_eq_true rfl, Nat.le_of_ble_eq_true rfl⟩ ⟨Nat.le_of_ble_eq_true rfl, Nat.le_of_ble_eq_true rfl⟩ (Nat.le_of_ble_eq_true rfl) dX5_addTourist_23 (fun v w1 hp => ?_)
      obtain ⟨rfl, rfl⟩ := hp
      refine Teq (ws' := wP cy q M 1 kept far) (lv' := [(0, .ref (q 0)), (1, .int (enc (x))), (2, .int (enc (y)))]) (st' := [.int (enc (0))]) rfl rfl rfl ?_
      exact ret _ _ _ _ dX5_addTourist_26 (by first | exact ⟨ansY hk, exY hk⟩ | exact ⟨ansN hk (by decide), exN hk (by decide)⟩)
