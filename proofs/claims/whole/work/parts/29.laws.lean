/-! THE LAW'S SMALL METHODS: each calls, and catches -/
def XW (idx : Nat) (y : MethodName) (b : ByteArray) (mL : Nat) (hh : List (Nat × Nat × Nat × Nat)) (np : Nat) : Prop := Cond.methodLink RL idx y ∈ lwA ∧ Cond.static y ∈ lwA ∧ Cond.codeWith y b mL (some .int) hh ∈ lwA ∧ y.cls = RL ∧ (y.cls ≠ "java/lang/invoke/MethodHandle" ∧ y.cls ≠ "java/lang/invoke/VarHandle" ∧ (parseMethodDescriptor y.desc).map (fun d => d.parameters.length) = some np)
set_option maxRecDepth 100000 in
theorem xw_addCrossing : XW 87 yL_addCrossing cL_addCrossing 3 [(0, 8, 11, 13)] 2 := ⟨wdm 380 (by decide +kernel) rfl, wdm 381 (by decide +kernel) rfl, wdm 382 rfl rfl, rfl, by decide +kernel⟩
set_option maxRecDepth 100000 in
set_option maxHeartbeats 4000000 in
theorem w_addCrossing {G : va_G} {cy cyl : ClassId} {o : Nat} {g : Nat → Int64} {q : Nat → Nat} (N : MT) (sN : Int → Int) (oN : Int) (U : MT) (sU : Int → Int) (oU : Int) (A : Int → Int) (B0 : Int) (hF : WF N B0) (hB2 : B0 ≤ 800000) (hV : WVo N sN oN) : CtLw G cy cyl yL_addCrossing cL_addCrossing 3 [(0, 8, 11, 13)] ({ frames := 7, cells := 1, slots := 6, locals := 110 } : Room) 1 6 [.ref (q 0), .ref (o)] (wD cy q N sN oN U sU oU A ++ oL cyl o g) (fun v w1 => v = some (.int (enc (kAC N))) ∧ ∃ g' s' o' U' sU' oU' A', (kAC N = 0 → g' 0 = (enc (N 19 0)).toInt64) ∧ WVo (if kAC N = 0 then upc N 19 (N 19 0 + 1) else N) s' o' ∧ w1 = wD cy q (if kAC N = 0 then upc N 19 (N 19 0 + 1) else N) s' o' U' sU' oU' A' ++ oL cyl o g') := by
  refine CtLw.of (own := RL) (by decide) (Nat.le_of_ble_eq_true rfl) rfl (fun _ _ _ => rfl) ?_
  intro c X B ret
  refine Tlv (lv' := [(0, .ref (q 0)), (1, .ref (o))]) rfl ?_
  refine tw_aload_n X dL_addCrossing_0 1 rfl rfl ?_
  refine tw_iconst X dL_addCrossing_1 ?_
  refine tw_aload_n X dL_addCrossing_2 0 rfl rfl ?_
  refine tl_call X B (As := []) (st := [.int (enc 0), .ref o]) vw_L_7 (m_X4_addCrossing (q := q) N sN oN U sU oU A   B0 hF hB2 hV) [] (oL cyl o g) rfl rfl (q0 := 0) rfl rfl rfl ⟨rfl, rfl, Nat.le_of_ble_eq_true rfl, Nat.le_of_ble_eq_true rfl⟩ ⟨Nat.le_of_ble_eq_true rfl, Nat.le_of_ble_eq_true rfl⟩ (Nat.le_of_ble_eq_true rfl) dL_addCrossing_3 (fun E w1 he => ?_) (fun v w1 hp => ?_)
  · obtain ⟨hxc, s1, o1, U1, sU1, oU1, A1, hV1, rfl⟩ := he
    obtain ⟨rfl, hk⟩ := hxc
    refine ⟨11, ⟨[], (0, 8, 11, 13), [], rfl, rfl, fun z hz => absurd hz List.not_mem_nil, ⟨by decide, by decide⟩, by decide, wc_L_13, List.mem_of_getElem? (i := 0) rfl⟩, fun r => ?_⟩
    refine Teq (ws' := wD cy q N s1 o1 U1 sU1 oU1 A1 ++ oL cyl o g) (lv' := [(0, .ref (q 0)), (1, .ref (o))]) (st' := [.ref r]) rfl rfl rfl ?_
    refine tw_astore_n (lv' := [(2, .ref (r)), (0, .ref (q 0)), (1, .ref (o))]) X dL_addCrossing_11 rfl (by decide) rfl ?_
    refine tw_iconst X dL_addCrossing_12 ?_
    refine Twiden (k' := 1) (n' := 6) (Nat.le_of_ble_eq_true rfl) (Nat.le_of_ble_eq_true rfl) ?_
    exact ret _ _ _ _ dL_addCrossing_13 ⟨by rw [hk], g, s1, o1, U1, sU1, oU1, A1, fun z => absurd z (by rw [hk]; decide), by rw [if_neg (by rw [hk]; decide)]; exact hV1, by rw [if_neg (by rw [hk]; decide)]⟩
  · obtain ⟨hk, rfl, s1, o1, U1, sU1, oU1, A1, hV1, rfl⟩ := hp
    refine Teq (ws' := wD cy q (upc N 19 (N 19 0 + 1)) s1 o1 U1 sU1 oU1 A1 ++ oL cyl o g) (lv' := [(0, .ref (q 0)), (1, .ref (o))]) (st' := [.int (enc (N 19 0)), .int (enc 0), .ref o]) rfl rfl rfl ?_
    refine tw_i2lr X dL_addCrossing_6 ?_
    refine tl_last X B (g := g) (ws' := wD cy q (upc N 19 (N 19 0 + 1)) s1 o1 U1 sU1 oU1 A1 ++ oL cyl o (vp_updL g 0 ((enc (N 19 0)).toInt64))) 45 rfl dL_addCrossing_7 rfl ?_
    refine tw_goto (tgt := 14) X dL_addCrossing_8 (by decide) ?_
    refine tw_iconst X dL_addCrossing_14 ?_
    refine Twiden (k' := 1) (n' := 6) (Nat.le_of_ble_eq_true rfl) (Nat.le_of_ble_eq_true rfl) ?_
    exact ret _ _ _ _ dL_addCrossing_15 ⟨by rw [hk], _, s1, o1, U1, sU1, oU1, A1, fun _ => rfl, by rw [if_pos hk]; exact hV1, by rw [if_pos hk]⟩
set_option maxRecDepth 100000 in
theorem xw_addRoad : XW 96 yL_addRoad cL_addRoad 7 [(0, 14, 17, 19), (0, 14, 21, 21), (0, 14, 25, 13)] 6 := ⟨wdm 460 (by decide +kernel) rfl, wdm 461 (by decide +kernel) rfl, wdm 462 rfl rfl, rfl, by decide +kernel⟩
set_option maxRecDepth 100000 in
set_option maxHeartbeats 4000000 in
theorem w_addRoad {G : va_G} {cy cyl : ClassId} {o : Nat} {g : Nat → Int64} {q : Nat → Nat} (N : MT) (sN : Int → Int) (oN : Int) (U : MT) (sU : Int → Int) (oU : Int) (A : Int → Int) (x y z u : Int) (hx : In x) (hy : In y) (hz : In z) (hu : In u) (B0 : Int) (hF : WF N B0) (hB2 : B0 ≤ 800000) (hV : WVo N sN oN) : CtLw G cy cyl yL_addRoad cL_addRoad 7 [(0, 14, 17, 19), (0, 14, 21, 21), (0, 14, 25, 13)] ({ frames := 8, cells := 3, slots := 18, locals := 135 } : Room) 3 18 [.ref (q 0), .int (enc (x)), .int (enc (y)), .int (enc (z)), .int (enc (u)), .ref (o)] (wD cy q N sN oN U sU oU A ++ oL cyl o g) (fun v w1 => v = some (.int (enc (kAR N x y z u))) ∧ ∃ g' s' o' U' sU' oU' A', (kAR N x y z u = 0 → g' 0 = (enc (N 16 0)).toInt64) ∧ WVo (if kAR N x y z u = 0 then putR N x y z u else N) s' o' ∧ w1 = wD cy q (if kAR N x y z u = 0 then putR N x y z u else N) s' o' U' sU' oU' A' ++ oL cyl o g') := by
  refine CtLw.of (own := RL) (by decide) (Nat.le_of_ble_eq_true rfl) rfl (fun _ _ _ => rfl) ?_
  intro c X B ret
  refine Tlv (lv' := [(0, .ref (q 0)), (1, .int (enc (x))), (2, .int (enc (y))), (3, .int (enc (z))), (4, .int (enc (u))), (5, .ref (o))]) rfl ?_
  refine tw_aload X dL_addRoad_0 5 rfl ?_
  refine tw_iconst X dL_addRoad_2 ?_
  refine tw_aload_n X dL_addRoad_3 0 rfl rfl ?_
  refine tw_iload_n X dL_addRoad_4 1 rfl rfl ?_
  refine tw_iload_n X dL_addRoad_5 2 rfl rfl ?_
  refine tw_iload_n X dL_addRoad_6 3 rfl rfl ?_
  refine tw_iload X dL_addRoad_7 4 rfl ?_
  refine tl_call X B (As := [.int (enc (x)), .int (enc (y)), .int (enc (z)), .int (enc (u))]) (st := [.int (enc 0), .ref o]) vw_L_15 (m_X4_addRoad (q := q) N sN oN U sU oU A x y z u hx hy hz hu B0 hF hB2 hV) [] (oL cyl o g) rfl rfl (q0 := 0) rfl rfl rfl ⟨rfl, rfl, Nat.le_of_ble_eq_true rfl, Nat.le_of_ble_eq_true rfl⟩ ⟨Nat.le_of_ble_eq_true rfl, Nat.le_of_ble_eq_true rfl⟩ (Nat.le_of_ble_eq_true rfl) dL_addRoad_9 (fun E w1 he => ?_) (fun v w1 hp => ?_)
  · obtain ⟨hxc, s1, o1, U1, sU1, oU1, A1, hV1, rfl⟩ := he
    rcases hxc with ⟨rfl, hk⟩ | ⟨rfl, hk⟩ | ⟨rfl, hk⟩
    · skip
      refine ⟨17, ⟨[], (0, 14, 17, 19), [(0, 14, 21, 21), (0, 14, 25, 13)], rfl, rfl, fun z hz => absurd hz List.not_mem_nil, ⟨by decide, by decide⟩, by decide, wc_L_19, List.mem_of_getElem? (i := 1) rfl⟩, fun r => ?_⟩
      refine Teq (ws' := wD cy q N s1 o1 U1 sU1 oU1 A1 ++ oL cyl o g) (lv' := [(0, .ref (q 0)), (1, .int (enc (x))), (2, .int (enc (y))), (3, .int (enc (z))), (4, .int (enc (u))), (5, .ref (o))]) (st' := [.ref r]) rfl rfl rfl ?_
      refine tw_astore (lv' := [(6, .ref (r)), (0, .ref (q 0)), (1, .int (enc (x))), (2, .int (enc (y))), (3, .int (enc (z))), (4, .int (enc (u))), (5, .ref (o))]) X dL_addRoad_17 (by decide) rfl ?_
      refine tw_iconst X dL_addRoad_19 ?_
      refine Twiden (k' := 3) (n' := 18) (Nat.le_of_ble_eq_true rfl) (Nat.le_of_ble_eq_true rfl) ?_
      exact ret _ _ _ _ dL_addRoad_20 ⟨by rw [hk], g, s1, o1, U1, sU1, oU1, A1, fun z => absurd z (by rw [hk]; decide), by rw [if_neg (by rw [hk]; decide)]; exact hV1, by rw [if_neg (by rw [hk]; decide)]⟩
    · skip
      refine ⟨21, ⟨[(0, 14, 17, 19)], (0, 14, 21, 21), [(0, 14, 25, 13)], rfl, rfl, List.forall_mem_cons.mpr ⟨⟨by decide, eIOB, wc_L_19, List.mem_of_getElem? (i := 3) rfl⟩, fun z hz => absurd hz List.not_mem_nil⟩, ⟨by decide, by decide⟩, by decide, wc_L_21, List.mem_of_getElem? (i := 2) rfl⟩, fun r => ?_⟩
      refine Teq (ws' := wD cy q N s1 o1 U1 sU1 oU1 A1 ++ oL cyl o g) (lv' := [(0, .ref (q 0)), (1, .int (enc (x))), (2, .int (enc (y))), (3, .int (enc (z))), (4, .int (enc (u))), (5, .ref (o))]) (st' := [.ref r]) rfl rfl rfl ?_
      refine tw_astore (lv' := [(6, .ref (r)), (0, .ref (q 0)), (1, .int (enc (x))), (2, .int (enc (y))), (3, .int (enc (z))), (4, .int (enc (u))), (5, .ref (o))]) X dL_addRoad_21 (by decide) rfl ?_
      refine tw_iconst X dL_addRoad_23 ?_
      refine Twiden (k' := 3) (n' := 18) (Nat.le_of_ble_eq_true rfl) (Nat.le_of_ble_eq_true rfl) ?_
      exact ret _ _ _ _ dL_addRoad_24 ⟨by rw [hk], g, s1, o1, U1, sU1, oU1, A1, fun z => absurd z (by rw [hk]; decide), by rw [if_neg (by rw [hk]; decide)]; exact hV1, by rw [if_neg (by rw [hk]; decide)]⟩
    · skip
      refine ⟨25, ⟨[(0, 14, 17, 19), (0, 14, 21, 21)], (0, 14, 25, 13), [], rfl, rfl, List.forall_mem_cons.mpr ⟨⟨by decide, eIOB, wc_L_19, List.mem_of_getElem? (i := 2) rfl⟩, List.forall_mem_cons.mpr ⟨⟨by decide, eIAE, wc_L_21, List.mem_of_getElem? (i := 4) rfl⟩, fun z hz => absurd hz List.not_mem_nil⟩⟩, ⟨by decide, by decide⟩, by decide, wc_L_13, List.mem_of_getElem? (i := 0) rfl⟩, fun r => ?_⟩
      refine Teq (ws' := wD cy q N s1 o1 U1 sU1 oU1 A1 ++ oL cyl o g) (lv' := [(0, .ref (q 0)), (1, .int (enc (x))), (2, .int (enc (y))), (3, .int (enc (z))), (4, .int (enc (u))), (5, .ref (o))]) (st' := [.ref r]) rfl rfl rfl ?_
      refine tw_astore (lv' := [(6, .ref (r)), (0, .ref (q 0)), (1, .int (enc (x))), (2, .int (enc (y))), (3, .int (enc (z))), (4, .int (enc (u))), (5, .ref (o))]) X dL_addRoad_25 (by decide) rfl ?_
      refine tw_iconst X dL_addRoad_27 ?_
      refine Twiden (k' := 3) (n' := 18) (Nat.le_of_ble_eq_true rfl) (Nat.le_of_ble_eq_true rfl) ?_
      exact ret _ _ _ _ dL_addRoad_28 ⟨by rw [hk], g, s1, o1, U1, sU1, oU1, A1, fun z => absurd z (by rw [hk]; decide), by rw [if_neg (by rw [hk]; decide)]; exact hV1, by rw [if_neg (by rw [hk]; decide)]⟩
  · obtain ⟨hk, rfl, s1, o1, U1, sU1, oU1, A1, hV1, rfl⟩ := hp
    refine Teq (ws' := wD cy q (putR N x y z u) s1 o1 U1 sU1 oU1 A1 ++ oL cyl o g) (lv' := [(0, .ref (q 0)), (1, .int (enc (x))), (2, .int (enc (y))), (3, .int (enc (z))), (4, .int (enc (u))), (5, .ref (o))]) (st' := [.int (enc (N 16 0)), .int (enc 0), .ref o]) rfl rfl rfl ?_
    refine tw_i2lr X dL_addRoad_12 ?_
    refine tl_last X B (g := g) (ws' := wD cy q (putR N x y z u) s1 o1 U1 sU1 oU1 A1 ++ oL cyl o (vp_updL g 0 ((enc (N 16 0)).toInt64))) 45 rfl dL_addRoad_13 rfl ?_
    refine tw_goto (tgt := 29) X dL_addRoad_14 (by decide) ?_
    refine tw_iconst X dL_addRoad_29 ?_
    refine Twiden (k' := 3) (n' := 18) (Nat.le_of_ble_eq_true rfl) (Nat.le_of_ble_eq_true rfl) ?_
    exact ret _ _ _ _ dL_addRoad_30 ⟨by rw [hk], _, s1, o1, U1, sU1, oU1, A1, fun _ => rfl, by rw [if_pos hk]; exact hV1, by rw [if_pos hk]⟩
set_option maxRecDepth 100000 in
theorem xw_addTourist : XW 100 yL_addTourist cL_addTourist 5 [(0, 10, 13, 19), (0, 10, 17, 21), (0, 10, 21, 13)] 4 := ⟨wdm 516 (by decide +kernel) rfl, wdm 517 (by decide +kernel) rfl, wdm 518 rfl rfl, rfl, by decide +kernel⟩
set_option maxRecDepth 100000 in
set_option maxHeartbeats 4000000 in
theorem w_addTourist {G : va_G} {cy cyl : ClassId} {o : Nat} {g : Nat → Int64} {q : Nat → Nat} (N : MT) (sN : Int → Int) (oN : Int) (U : MT) (sU : Int → Int) (oU : Int) (A : Int → Int) (x y : Int) (hx : In x) (hy : In y) (B0 : Int) (hF : WF N B0) (hB2 : B0 ≤ 800000) (hV : WVo N sN oN) : CtLw G cy cyl yL_addTourist cL_addTourist 5 [(0, 10, 13, 19), (0, 10, 17, 21), (0, 10, 21, 13)] ({ frames := 9, cells := 5, slots := 30, locals := 156 } : Room) 5 30 [.ref (q 0), .int (enc (x)), .int (enc (y)), .ref (o)] (wD cy q N sN oN U sU oU A ++ oL cyl o g) (fun v w1 => v = some (.int (enc (kAT N x y))) ∧ ∃ g' s' o' U' sU' oU' A', (kAT N x y = 0 → g' 0 = (enc (N 17 0)).toInt64) ∧ WVo (if kAT N x y = 0 then putT N x y (dO N false x y) (N 20 0) else N) s' o' ∧ w1 = wD cy q (if kAT N x y = 0 then putT N x y (dO N false x y) (N 20 0) else N) s' o' U' sU' oU' A' ++ oL cyl o g') := by
  refine CtLw.of (own := RL) (by decide) (Nat.le_of_ble_eq_true rfl) rfl (fun _ _ _ => rfl) ?_
  intro c X B ret
  refine Tlv (lv' := [(0, .ref (q 0)), (1, .int (enc (x))), (2, .int (enc (y))), (3, .ref (o))]) rfl ?_
  refine tw_aload_n X dL_addTourist_0 3 rfl rfl ?_
  refine tw_iconst X dL_addTourist_1 ?_
  refine tw_aload_n X dL_addTourist_2 0 rfl rfl ?_
  refine tw_iload_n X dL_addTourist_3 1 rfl rfl ?_
  refine tw_iload_n X dL_addTourist_4 2 rfl rfl ?_
  refine tl_call X B (As := [.int (enc (x)), .int (enc (y))]) (st := [.int (enc 0), .ref o]) vw_L_23 (m_X4_addTourist (q := q) N sN oN U sU oU A x y hx hy B0 hF hB2 hV) [] (oL cyl o g) rfl rfl (q0 := 0) rfl rfl rfl ⟨rfl, rfl, Nat.le_of_ble_eq_true rfl, Nat.le_of_ble_eq_true rfl⟩ ⟨Nat.le_of_ble_eq_true rfl, Nat.le_of_ble_eq_true rfl⟩ (Nat.le_of_ble_eq_true rfl) dL_addTourist_5 (fun E w1 he => ?_) (fun v w1 hp => ?_)
  · obtain ⟨hxc, s1, o1, U1, sU1, oU1, A1, hV1, rfl⟩ := he
    rcases hxc with ⟨rfl, hk⟩ | ⟨rfl, hk⟩ | ⟨rfl, hk⟩
    · skip
      refine ⟨13, ⟨[], (0, 10, 13, 19), [(0, 10, 17, 21), (0, 10, 21, 13)], rfl, rfl, fun z hz => absurd hz List.not_mem_nil, ⟨by decide, by decide⟩, by decide, wc_L_19, List.mem_of_getElem? (i := 1) rfl⟩, fun r => ?_⟩
      refine Teq (ws' := wD cy q N s1 o1 U1 sU1 oU1 A1 ++ oL cyl o g) (lv' := [(0, .ref (q 0)), (1, .int (enc (x))), (2, .int (enc (y))), (3, .ref (o))]) (st' := [.ref r]) rfl rfl rfl ?_
      refine tw_astore (lv' := [(4, .ref (r)), (0, .ref (q 0)), (1, .int (enc (x))), (2, .int (enc (y))), (3, .ref (o))]) X dL_addTourist_13 (by decide) rfl ?_
      refine tw_iconst X dL_addTourist_15 ?_
      refine Twiden (k' := 5) (n' := 30) (Nat.le_of_ble_eq_true rfl) (Nat.le_of_ble_eq_true rfl) ?_
      exact ret _ _ _ _ dL_addTourist_16 ⟨by rw [hk], g, s1, o1, U1, sU1, oU1, A1, fun z => absurd z (by rw [hk]; decide), by rw [if_neg (by rw [hk]; decide)]; exact hV1, by rw [if_neg (by rw [hk]; decide)]⟩
    · skip
      refine ⟨17, ⟨[(0, 10, 13, 19)], (0, 10, 17, 21), [(0, 10, 21, 13)], rfl, rfl, List.forall_mem_cons.mpr ⟨⟨by decide, eIOB, wc_L_19, List.mem_of_getElem? (i := 3) rfl⟩, fun z hz => absurd hz List.not_mem_nil⟩, ⟨by decide, by decide⟩, by decide, wc_L_21, List.mem_of_getElem? (i := 2) rfl⟩, fun r => ?_⟩
      refine Teq (ws' := wD cy q N s1 o1 U1 sU1 oU1 A1 ++ oL cyl o g) (lv' := [(0, .ref (q 0)), (1, .int (enc (x))), (2, .int (enc (y))), (3, .ref (o))]) (st' := [.ref r]) rfl rfl rfl ?_
      refine tw_astore (lv' := [(4, .ref (r)), (0, .ref (q 0)), (1, .int (enc (x))), (2, .int (enc (y))), (3, .ref (o))]) X dL_addTourist_17 (by decide) rfl ?_
      refine tw_iconst X dL_addTourist_19 ?_
      refine Twiden (k' := 5) (n' := 30) (Nat.le_of_ble_eq_true rfl) (Nat.le_of_ble_eq_true rfl) ?_
      exact ret _ _ _ _ dL_addTourist_20 ⟨by rw [hk], g, s1, o1, U1, sU1, oU1, A1, fun z => absurd z (by rw [hk]; decide), by rw [if_neg (by rw [hk]; decide)]; exact hV1, by rw [if_neg (by rw [hk]; decide)]⟩
    · skip
      refine ⟨21, ⟨[(0, 10, 13, 19), (0, 10, 17, 21)], (0, 10, 21, 13), [], rfl, rfl, List.forall_mem_cons.mpr ⟨⟨by decide, eIOB, wc_L_19, List.mem_of_getElem? (i := 2) rfl⟩, List.forall_mem_cons.mpr ⟨⟨by decide, eIAE, wc_L_21, List.mem_of_getElem? (i := 4) rfl⟩, fun z hz => absurd hz List.not_mem_nil⟩⟩, ⟨by decide, by decide⟩, by decide, wc_L_13, List.mem_of_getElem? (i := 0) rfl⟩, fun r => ?_⟩
      refine Teq (ws' := wD cy q N s1 o1 U1 sU1 oU1 A1 ++ oL cyl o g) (lv' := [(0, .ref (q 0)), (1, .int (enc (x))), (2, .int (enc (y))), (3, .ref (o))]) (st' := [.ref r]) rfl rfl rfl ?_
      refine tw_astore (lv' := [(4, .ref (r)), (0, .ref (q 0)), (1, .int (enc (x))), (2, .int (enc (y))), (3, .ref (o))]) X dL_addTourist_21 (by decide) rfl ?_
      refine tw_iconst X dL_addTourist_23 ?_
      refine Twiden (k' := 5) (n' := 30) (Nat.le_of_ble_eq_true rfl) (Nat.le_of_ble_eq_true rfl) ?_
      exact ret _ _ _ _ dL_addTourist_24 ⟨by rw [hk], g, s1, o1, U1, sU1, oU1, A1, fun z => absurd z (by rw [hk]; decide), by rw [if_neg (by rw [hk]; decide)]; exact hV1, by rw [if_neg (by rw [hk]; decide)]⟩
  · obtain ⟨hk, rfl, s1, o1, U1, sU1, oU1, A1, hV1, rfl⟩ := hp
    refine Teq (ws' := wD cy q (putT N x y (dO N false x y) (N 20 0)) s1 o1 U1 sU1 oU1 A1 ++ oL cyl o g) (lv' := [(0, .ref (q 0)), (1, .int (enc (x))), (2, .int (enc (y))), (3, .ref (o))]) (st' := [.int (enc (N 17 0)), .int (enc 0), .ref o]) rfl rfl rfl ?_
    refine tw_i2lr X dL_addTourist_8 ?_
    refine tl_last X B (g := g) (ws' := wD cy q (putT N x y (dO N false x y) (N 20 0)) s1 o1 U1 sU1 oU1 A1 ++ oL cyl o (vp_updL g 0 ((enc (N 17 0)).toInt64))) 45 rfl dL_addTourist_9 rfl ?_
    refine tw_goto (tgt := 25) X dL_addTourist_10 (by decide) ?_
    refine tw_iconst X dL_addTourist_25 ?_
    refine Twiden (k' := 5) (n' := 30) (Nat.le_of_ble_eq_true rfl) (Nat.le_of_ble_eq_true rfl) ?_
    exact ret _ _ _ _ dL_addTourist_26 ⟨by rw [hk], _, s1, o1, U1, sU1, oU1, A1, fun _ => rfl, by rw [if_pos hk]; exact hV1, by rw [if_pos hk]⟩
set_option maxRecDepth 100000 in
theorem xw_mend : XW 104 yL_mend cL_mend 5 [(0, 10, 13, 19), (0, 10, 17, 21), (0, 10, 21, 13)] 4 := ⟨wdm 538 (by decide +kernel) rfl, wdm 539 (by decide +kernel) rfl, wdm 540 rfl rfl, rfl, by decide +kernel⟩
set_option maxRecDepth 100000 in
set_option maxHeartbeats 4000000 in
theorem w_mend {G : va_G} {cy cyl : ClassId} {o : Nat} {g : Nat → Int64} {q : Nat → Nat} (N : MT) (sN : Int → Int) (oN : Int) (U : MT) (sU : Int → Int) (oU : Int) (A : Int → Int) (x y : Int) (hx : In x) (hy : In y) (B0 : Int) (hF : WF N B0) (hB2 : B0 ≤ 800000) (hV : WVo N sN oN) : CtLw G cy cyl yL_mend cL_mend 5 [(0, 10, 13, 19), (0, 10, 17, 21), (0, 10, 21, 13)] ({ frames := 8, cells := 2, slots := 12, locals := 133 } : Room) 2 12 [.ref (q 0), .int (enc (x)), .int (enc (y)), .ref (o)] (wD cy q N sN oN U sU oU A ++ oL cyl o g) (fun v w1 => v = some (.int (enc (kM N x y))) ∧ ∃ g' s' o' U' sU' oU' A', (kM N x y = 0 → g' 0 = (enc (N 4 x)).toInt64) ∧ WVo (if kM N x y = 0 then up N 6 x y else N) s' o' ∧ w1 = wD cy q (if kM N x y = 0 then up N 6 x y else N) s' o' U' sU' oU' A' ++ oL cyl o g') := by
  refine CtLw.of (own := RL) (by decide) (Nat.le_of_ble_eq_true rfl) rfl (fun _ _ _ => rfl) ?_
  intro c X B ret
  refine Tlv (lv' := [(0, .ref (q 0)), (1, .int (enc (x))), (2, .int (enc (y))), (3, .ref (o))]) rfl ?_
  refine tw_aload_n X dL_mend_0 3 rfl rfl ?_
  refine tw_iconst X dL_mend_1 ?_
  refine tw_aload_n X dL_mend_2 0 rfl rfl ?_
  refine tw_iload_n X dL_mend_3 1 rfl rfl ?_
  refine tw_iload_n X dL_mend_4 2 rfl rfl ?_
  refine tl_call X B (As := [.int (enc (x)), .int (enc (y))]) (st := [.int (enc 0), .ref o]) vw_L_27 (m_X4_mend (q := q) N sN oN U sU oU A x y hx hy B0 hF hB2 hV) [] (oL cyl o g) rfl rfl (q0 := 0) rfl rfl rfl ⟨rfl, rfl, Nat.le_of_ble_eq_true rfl, Nat.le_of_ble_eq_true rfl⟩ ⟨Nat.le_of_ble_eq_true rfl, Nat.le_of_ble_eq_true rfl⟩ (Nat.le_of_ble_eq_true rfl) dL_mend_5 (fun E w1 he => ?_) (fun v w1 hp => ?_)
  · obtain ⟨hxc, s1, o1, U1, sU1, oU1, A1, hV1, rfl⟩ := he
    rcases hxc with ⟨rfl, hk⟩ | ⟨rfl, hk⟩ | ⟨rfl, hk⟩
    · skip
      refine ⟨13, ⟨[], (0, 10, 13, 19), [(0, 10, 17, 21), (0, 10, 21, 13)], rfl, rfl, fun z hz => absurd hz List.not_mem_nil, ⟨by decide, by decide⟩, by decide, wc_L_19, List.mem_of_getElem? (i := 1) rfl⟩, fun r => ?_⟩
      refine Teq (ws' := wD cy q N s1 o1 U1 sU1 oU1 A1 ++ oL cyl o g) (lv' := [(0, .ref (q 0)), (1, .int (enc (x))), (2, .int (enc (y))), (3, .ref (o))]) (st' := [.ref r]) rfl rfl rfl ?_
      refine tw_astore (lv' := [(4, .ref (r)), (0, .ref (q 0)), (1, .int (enc (x))), (2, .int (enc (y))), (3, .ref (o))]) X dL_mend_13 (by decide) rfl ?_
      refine tw_iconst X dL_mend_15 ?_
      refine Twiden (k' := 2) (n' := 12) (Nat.le_of_ble_eq_true rfl) (Nat.le_of_ble_eq_true rfl) ?_
      exact ret _ _ _ _ dL_mend_16 ⟨by rw [hk], g, s1, o1, U1, sU1, oU1, A1, fun z => absurd z (by rw [hk]; decide), by rw [if_neg (by rw [hk]; decide)]; exact hV1, by rw [if_neg (by rw [hk]; decide)]⟩
    · skip
      refine ⟨17, ⟨[(0, 10, 13, 19)], (0, 10, 17, 21), [(0, 10, 21, 13)], rfl, rfl, List.forall_mem_cons.mpr ⟨⟨by decide, eIOB, wc_L_19, List.mem_of_getElem? (i := 3) rfl⟩, fun z hz => absurd hz List.not_mem_nil⟩, ⟨by decide, by decide⟩, by decide, wc_L_21, List.mem_of_getElem? (i := 2) rfl⟩, fun r => ?_⟩
      refine Teq (ws' := wD cy q N s1 o1 U1 sU1 oU1 A1 ++ oL cyl o g) (lv' := [(0, .ref (q 0)), (1, .int (enc (x))), (2, .int (enc (y))), (3, .ref (o))]) (st' := [.ref r]) rfl rfl rfl ?_
      refine tw_astore (lv' := [(4, .ref (r)), (0, .ref (q 0)), (1, .int (enc (x))), (2, .int (enc (y))), (3, .ref (o))]) X dL_mend_17 (by decide) rfl ?_
      refine tw_iconst X dL_mend_19 ?_
      refine Twiden (k' := 2) (n' := 12) (Nat.le_of_ble_eq_true rfl) (Nat.le_of_ble_eq_true rfl) ?_
      exact ret _ _ _ _ dL_mend_20 ⟨by rw [hk], g, s1, o1, U1, sU1, oU1, A1, fun z => absurd z (by rw [hk]; decide), by rw [if_neg (by rw [hk]; decide)]; exact hV1, by rw [if_neg (by rw [hk]; decide)]⟩
    · skip
      refine ⟨21, ⟨[(0, 10, 13, 19), (0, 10, 17, 21)], (0, 10, 21, 13), [], rfl, rfl, List.forall_mem_cons.mpr ⟨⟨by decide, eIOB, wc_L_19, List.mem_of_getElem? (i := 2) rfl⟩, List.forall_mem_cons.mpr ⟨⟨by decide, eIAE, wc_L_21, List.mem_of_getElem? (i := 4) rfl⟩, fun z hz => absurd hz List.not_mem_nil⟩⟩, ⟨by decide, by decide⟩, by decide, wc_L_13, List.mem_of_getElem? (i := 0) rfl⟩, fun r => ?_⟩
      refine Teq (ws' := wD cy q N s1 o1 U1 sU1 oU1 A1 ++ oL cyl o g) (lv' := [(0, .ref (q 0)), (1, .int (enc (x))), (2, .int (enc (y))), (3, .ref (o))]) (st' := [.ref r]) rfl rfl rfl ?_
      refine tw_astore (lv' := [(4, .ref (r)), (0, .ref (q 0)), (1, .int (enc (x))), (2, .int (enc (y))), (3, .ref (o))]) X dL_mend_21 (by decide) rfl ?_
      refine tw_iconst X dL_mend_23 ?_
      refine Twiden (k' := 2) (n' := 12) (Nat.le_of_ble_eq_true rfl) (Nat.le_of_ble_eq_true rfl) ?_
      exact ret _ _ _ _ dL_mend_24 ⟨by rw [hk], g, s1, o1, U1, sU1, oU1, A1, fun z => absurd z (by rw [hk]; decide), by rw [if_neg (by rw [hk]; decide)]; exact hV1, by rw [if_neg (by rw [hk]; decide)]⟩
  · obtain ⟨hk, rfl, s1, o1, U1, sU1, oU1, A1, hV1, rfl⟩ := hp
    refine Teq (ws' := wD cy q (up N 6 x y) s1 o1 U1 sU1 oU1 A1 ++ oL cyl o g) (lv' := [(0, .ref (q 0)), (1, .int (enc (x))), (2, .int (enc (y))), (3, .ref (o))]) (st' := [.int (enc (N 4 x)), .int (enc 0), .ref o]) rfl rfl rfl ?_
    refine tw_i2lr X dL_mend_8 ?_
    refine tl_last X B (g := g) (ws' := wD cy q (up N 6 x y) s1 o1 U1 sU1 oU1 A1 ++ oL cyl o (vp_updL g 0 ((enc (N 4 x)).toInt64))) 45 rfl dL_mend_9 rfl ?_
    refine tw_goto (tgt := 25) X dL_mend_10 (by decide) ?_
    refine tw_iconst X dL_mend_25 ?_
    refine Twiden (k' := 2) (n' := 12) (Nat.le_of_ble_eq_true rfl) (Nat.le_of_ble_eq_true rfl) ?_
    exact ret _ _ _ _ dL_mend_26 ⟨by rw [hk], _, s1, o1, U1, sU1, oU1, A1, fun _ => rfl, by rw [if_pos hk]; exact hV1, by rw [if_pos hk]⟩
set_option maxRecDepth 100000 in
theorem xw_cutKnots : XW 107 yL_cutKnots cL_cutKnots 4 [(0, 9, 12, 19), (0, 9, 15, 13)] 3 := ⟨wdm 552 (by decide +kernel) rfl, wdm 553 (by decide +kernel) rfl, wdm 554 rfl rfl, rfl, by decide +kernel⟩
set_option maxRecDepth 100000 in
set_option maxHeartbeats 4000000 in
theorem w_cutKnots {G : va_G} {cy cyl : ClassId} {o : Nat} {g : Nat → Int64} {q : Nat → Nat} (N : MT) (sN : Int → Int) (oN : Int) (U : MT) (sU : Int → Int) (oU : Int) (A : Int → Int) (x : Int) (hx : In x) (B0 : Int) (hF : WF N B0) (hB2 : B0 ≤ 800000) (hV : WVo N sN oN) : CtLw G cy cyl yL_cutKnots cL_cutKnots 4 [(0, 9, 12, 19), (0, 9, 15, 13)] ({ frames := 8, cells := 2, slots := 12, locals := 132 } : Room) 2 12 [.ref (q 0), .int (enc (x)), .ref (o)] (wD cy q N sN oN U sU oU A ++ oL cyl o g) (fun v w1 => v = some (.int (enc (kX N x))) ∧ ∃ g' s' o' U' sU' oU' A', (kX N x = 0 → g' 0 = (enc (N 5 x)).toInt64) ∧ WVo (if kX N x = 0 then up N 5 x 0 else N) s' o' ∧ w1 = wD cy q (if kX N x = 0 then up N 5 x 0 else N) s' o' U' sU' oU' A' ++ oL cyl o g') := by
  refine CtLw.of (own := RL) (by decide) (Nat.le_of_ble_eq_true rfl) rfl (fun _ _ _ => rfl) ?_
  intro c X B ret
  refine Tlv (lv' := [(0, .ref (q 0)), (1, .int (enc (x))), (2, .ref (o))]) rfl ?_
  refine tw_aload_n X dL_cutKnots_0 2 rfl rfl ?_
  refine tw_iconst X dL_cutKnots_1 ?_
  refine tw_aload_n X dL_cutKnots_2 0 rfl rfl ?_
  refine tw_iload_n X dL_cutKnots_3 1 rfl rfl ?_
  refine tl_call X B (As := [.int (enc (x))]) (st := [.int (enc 0), .ref o]) vw_L_30 (m_X4_cutKnots (q := q) N sN oN U sU oU A x hx B0 hF hB2 hV) [] (oL cyl o g) rfl rfl (q0 := 0) rfl rfl rfl ⟨rfl, rfl, Nat.le_of_ble_eq_true rfl, Nat.le_of_ble_eq_true rfl⟩ ⟨Nat.le_of_ble_eq_true rfl, Nat.le_of_ble_eq_true rfl⟩ (Nat.le_of_ble_eq_true rfl) dL_cutKnots_4 (fun E w1 he => ?_) (fun v w1 hp => ?_)
  · obtain ⟨hxc, s1, o1, U1, sU1, oU1, A1, hV1, rfl⟩ := he
    rcases hxc with ⟨rfl, hk⟩ | ⟨rfl, hk⟩
    · skip
      refine ⟨12, ⟨[], (0, 9, 12, 19), [(0, 9, 15, 13)], rfl, rfl, fun z hz => absurd hz List.not_mem_nil, ⟨by decide, by decide⟩, by decide, wc_L_19, List.mem_of_getElem? (i := 1) rfl⟩, fun r => ?_⟩
      refine Teq (ws' := wD cy q N s1 o1 U1 sU1 oU1 A1 ++ oL cyl o g) (lv' := [(0, .ref (q 0)), (1, .int (enc (x))), (2, .ref (o))]) (st' := [.ref r]) rfl rfl rfl ?_
      refine tw_astore_n (lv' := [(3, .ref (r)), (0, .ref (q 0)), (1, .int (enc (x))), (2, .ref (o))]) X dL_cutKnots_12 rfl (by decide) rfl ?_
      refine tw_iconst X dL_cutKnots_13 ?_
      refine Twiden (k' := 2) (n' := 12) (Nat.le_of_ble_eq_true rfl) (Nat.le_of_ble_eq_true rfl) ?_
      exact ret _ _ _ _ dL_cutKnots_14 ⟨by rw [hk], g, s1, o1, U1, sU1, oU1, A1, fun z => absurd z (by rw [hk]; decide), by rw [if_neg (by rw [hk]; decide)]; exact hV1, by rw [if_neg (by rw [hk]; decide)]⟩
    · skip
      refine ⟨15, ⟨[(0, 9, 12, 19)], (0, 9, 15, 13), [], rfl, rfl, List.forall_mem_cons.mpr ⟨⟨by decide, eIOB, wc_L_19, List.mem_of_getElem? (i := 2) rfl⟩, fun z hz => absurd hz List.not_mem_nil⟩, ⟨by decide, by decide⟩, by decide, wc_L_13, List.mem_of_getElem? (i := 0) rfl⟩, fun r => ?_⟩
      refine Teq (ws' := wD cy q N s1 o1 U1 sU1 oU1 A1 ++ oL cyl o g) (lv' := [(0, .ref (q 0)), (1, .int (enc (x))), (2, .ref (o))]) (st' := [.ref r]) rfl rfl rfl ?_
      refine tw_astore_n (lv' := [(3, .ref (r)), (0, .ref (q 0)), (1, .int (enc (x))), (2, .ref (o))]) X dL_cutKnots_15 rfl (by decide) rfl ?_
      refine tw_iconst X dL_cutKnots_16 ?_
      refine Twiden (k' := 2) (n' := 12) (Nat.le_of_ble_eq_true rfl) (Nat.le_of_ble_eq_true rfl) ?_
      exact ret _ _ _ _ dL_cutKnots_17 ⟨by rw [hk], g, s1, o1, U1, sU1, oU1, A1, fun z => absurd z (by rw [hk]; decide), by rw [if_neg (by rw [hk]; decide)]; exact hV1, by rw [if_neg (by rw [hk]; decide)]⟩
  · obtain ⟨hk, rfl, s1, o1, U1, sU1, oU1, A1, hV1, rfl⟩ := hp
    refine Teq (ws' := wD cy q (up N 5 x 0) s1 o1 U1 sU1 oU1 A1 ++ oL cyl o g) (lv' := [(0, .ref (q 0)), (1, .int (enc (x))), (2, .ref (o))]) (st' := [.int (enc (N 5 x)), .int (enc 0), .ref o]) rfl rfl rfl ?_
    refine tw_i2lr X dL_cutKnots_7 ?_
    refine tl_last X B (g := g) (ws' := wD cy q (up N 5 x 0) s1 o1 U1 sU1 oU1 A1 ++ oL cyl o (vp_updL g 0 ((enc (N 5 x)).toInt64))) 45 rfl dL_cutKnots_8 rfl ?_
    refine tw_goto (tgt := 18) X dL_cutKnots_9 (by decide) ?_
    refine tw_iconst X dL_cutKnots_18 ?_
    refine Twiden (k' := 2) (n' := 12) (Nat.le_of_ble_eq_true rfl) (Nat.le_of_ble_eq_true rfl) ?_
    exact ret _ _ _ _ dL_cutKnots_19 ⟨by rw [hk], _, s1, o1, U1, sU1, oU1, A1, fun _ => rfl, by rw [if_pos hk]; exact hV1, by rw [if_pos hk]⟩
set_option maxRecDepth 100000 in
theorem xw_pass : XW 111 yL_pass cL_pass 4 [(0, 9, 12, 21)] 3 := ⟨wdm 564 (by decide +kernel) rfl, wdm 565 (by decide +kernel) rfl, wdm 566 rfl rfl, rfl, by decide +kernel⟩
set_option maxRecDepth 100000 in
set_option maxHeartbeats 4000000 in
theorem w_pass {G : va_G} {cy cyl : ClassId} {o : Nat} {g : Nat → Int64} {q : Nat → Nat} (N : MT) (sN : Int → Int) (oN : Int) (U : MT) (sU : Int → Int) (oU : Int) (A : Int → Int) (x : Int) (hx : In x) (B0 : Int) (hF : WF N B0) (hB2 : B0 ≤ 800000) (hV : WVo N sN oN) : CtLw G cy cyl yL_pass cL_pass 4 [(0, 9, 12, 21)] ({ frames := 8, cells := 1, slots := 6, locals := 134 } : Room) 1 6 [.ref (q 0), .int (enc (x)), .ref (o)] (wD cy q N sN oN U sU oU A ++ oL cyl o g) (fun v w1 => v = some (.int (enc (kP x))) ∧ ∃ g' s' o' U' sU' oU' A', (kP x = 0 → g' 0 = (enc (hoursM N x.toNat 18 0 - N 18 0)).toInt64) ∧ WVo (if kP x = 0 then hoursM N x.toNat else N) s' o' ∧ w1 = wD cy q (if kP x = 0 then hoursM N x.toNat else N) s' o' U' sU' oU' A' ++ oL cyl o g') := by
  refine CtLw.of (own := RL) (by decide) (Nat.le_of_ble_eq_true rfl) rfl (fun _ _ _ => rfl) ?_
  intro c X B ret
  refine Tlv (lv' := [(0, .ref (q 0)), (1, .int (enc (x))), (2, .ref (o))]) rfl ?_
  refine tw_aload_n X dL_pass_0 2 rfl rfl ?_
  refine tw_iconst X dL_pass_1 ?_
  refine tw_aload_n X dL_pass_2 0 rfl rfl ?_
  refine tw_iload_n X dL_pass_3 1 rfl rfl ?_
  refine tl_call X B (As := [.int (enc (x))]) (st := [.int (enc 0), .ref o]) vw_L_34 (m_X4_pass (q := q) N sN oN U sU oU A x hx B0 hF hB2 hV) [] (oL cyl o g) rfl rfl (q0 := 0) rfl rfl rfl ⟨rfl, rfl, Nat.le_of_ble_eq_true rfl, Nat.le_of_ble_eq_true rfl⟩ ⟨Nat.le_of_ble_eq_true rfl, Nat.le_of_ble_eq_true rfl⟩ (Nat.le_of_ble_eq_true rfl) dL_pass_4 (fun E w1 he => ?_) (fun v w1 hp => ?_)
  · obtain ⟨hxc, s1, o1, U1, sU1, oU1, A1, hV1, rfl⟩ := he
    obtain ⟨rfl, hk⟩ := hxc
    refine ⟨12, ⟨[], (0, 9, 12, 21), [], rfl, rfl, fun z hz => absurd hz List.not_mem_nil, ⟨by decide, by decide⟩, by decide, wc_L_21, List.mem_of_getElem? (i := 2) rfl⟩, fun r => ?_⟩
    refine Teq (ws' := wD cy q N s1 o1 U1 sU1 oU1 A1 ++ oL cyl o g) (lv' := [(0, .ref (q 0)), (1, .int (enc (x))), (2, .ref (o))]) (st' := [.ref r]) rfl rfl rfl ?_
    refine tw_astore_n (lv' := [(3, .ref (r)), (0, .ref (q 0)), (1, .int (enc (x))), (2, .ref (o))]) X dL_pass_12 rfl (by decide) rfl ?_
    refine tw_iconst X dL_pass_13 ?_
    refine Twiden (k' := 1) (n' := 6) (Nat.le_of_ble_eq_true rfl) (Nat.le_of_ble_eq_true rfl) ?_
    exact ret _ _ _ _ dL_pass_14 ⟨by rw [hk], g, s1, o1, U1, sU1, oU1, A1, fun z => absurd z (by rw [hk]; decide), by rw [if_neg (by rw [hk]; decide)]; exact hV1, by rw [if_neg (by rw [hk]; decide)]⟩
  · obtain ⟨hk, rfl, s1, o1, U1, sU1, oU1, A1, hV1, rfl⟩ := hp
    refine Teq (ws' := wD cy q (hoursM N x.toNat) s1 o1 U1 sU1 oU1 A1 ++ oL cyl o g) (lv' := [(0, .ref (q 0)), (1, .int (enc (x))), (2, .ref (o))]) (st' := [.int (enc (hoursM N x.toNat 18 0 - N 18 0)), .int (enc 0), .ref o]) rfl rfl rfl ?_
    refine tw_i2lr X dL_pass_7 ?_
    refine tl_last X B (g := g) (ws' := wD cy q (hoursM N x.toNat) s1 o1 U1 sU1 oU1 A1 ++ oL cyl o (vp_updL g 0 ((enc (hoursM N x.toNat 18 0 - N 18 0)).toInt64))) 45 rfl dL_pass_8 rfl ?_
    refine tw_goto (tgt := 15) X dL_pass_9 (by decide) ?_
    refine tw_iconst X dL_pass_15 ?_
    refine Twiden (k' := 1) (n' := 6) (Nat.le_of_ble_eq_true rfl) (Nat.le_of_ble_eq_true rfl) ?_
    exact ret _ _ _ _ dL_pass_16 ⟨by rw [hk], _, s1, o1, U1, sU1, oU1, A1, fun _ => rfl, by rw [if_pos hk]; exact hV1, by rw [if_pos hk]⟩
set_option maxRecDepth 100000 in
theorem xw_lengthOf : XW 142 yL_lengthOf cL_lengthOf 4 [(0, 9, 12, 19)] 3 := ⟨wdm 576 (by decide +kernel) rfl, wdm 577 (by decide +kernel) rfl, wdm 578 rfl rfl, rfl, by decide +kernel⟩
set_option maxRecDepth 100000 in
set_option maxHeartbeats 4000000 in
theorem w_lengthOf {G : va_G} {cy cyl : ClassId} {o : Nat} {g : Nat → Int64} {q : Nat → Nat} (N : MT) (sN : Int → Int) (oN : Int) (U : MT) (sU : Int → Int) (oU : Int) (A : Int → Int) (x : Int) (hx : In x) (B0 : Int) (hF : WF N B0) (hB2 : B0 ≤ 800000) (hV : WVo N sN oN) : CtLw G cy cyl yL_lengthOf cL_lengthOf 4 [(0, 9, 12, 19)] ({ frames := 8, cells := 1, slots := 6, locals := 132 } : Room) 1 6 [.ref (q 0), .int (enc (x)), .ref (o)] (wD cy q N sN oN U sU oU A ++ oL cyl o g) (fun v w1 => v = some (.int (enc (kR N x))) ∧ ∃ g' s' o' U' sU' oU' A', (kR N x = 0 → g' 0 = (enc (len N x)).toInt64) ∧ WVo N s' o' ∧ w1 = wD cy q N s' o' U' sU' oU' A' ++ oL cyl o g') := by
  refine CtLw.of (own := RL) (by decide) (Nat.le_of_ble_eq_true rfl) rfl (fun _ _ _ => rfl) ?_
  intro c X B ret
  refine Tlv (lv' := [(0, .ref (q 0)), (1, .int (enc (x))), (2, .ref (o))]) rfl ?_
  refine tw_aload_n X dL_lengthOf_0 2 rfl rfl ?_
  refine tw_iconst X dL_lengthOf_1 ?_
  refine tw_aload_n X dL_lengthOf_2 0 rfl rfl ?_
  refine tw_iload_n X dL_lengthOf_3 1 rfl rfl ?_
  refine tl_call X B (As := [.int (enc (x))]) (st := [.int (enc 0), .ref o]) vw_L_37 (m_X4_lengthOf (q := q) N sN oN U sU oU A x hx B0 hF hB2 hV) [] (oL cyl o g) rfl rfl (q0 := 0) rfl rfl rfl ⟨rfl, rfl, Nat.le_of_ble_eq_true rfl, Nat.le_of_ble_eq_true rfl⟩ ⟨Nat.le_of_ble_eq_true rfl, Nat.le_of_ble_eq_true rfl⟩ (Nat.le_of_ble_eq_true rfl) dL_lengthOf_4 (fun E w1 he => ?_) (fun v w1 hp => ?_)
  · obtain ⟨hxc, s1, o1, U1, sU1, oU1, A1, hV1, rfl⟩ := he
    obtain ⟨rfl, hk⟩ := hxc
    refine ⟨12, ⟨[], (0, 9, 12, 19), [], rfl, rfl, fun z hz => absurd hz List.not_mem_nil, ⟨by decide, by decide⟩, by decide, wc_L_19, List.mem_of_getElem? (i := 1) rfl⟩, fun r => ?_⟩
    refine Teq (ws' := wD cy q N s1 o1 U1 sU1 oU1 A1 ++ oL cyl o g) (lv' := [(0, .ref (q 0)), (1, .int (enc (x))), (2, .ref (o))]) (st' := [.ref r]) rfl rfl rfl ?_
    refine tw_astore_n (lv' := [(3, .ref (r)), (0, .ref (q 0)), (1, .int (enc (x))), (2, .ref (o))]) X dL_lengthOf_12 rfl (by decide) rfl ?_
    refine tw_iconst X dL_lengthOf_13 ?_
    refine Twiden (k' := 1) (n' := 6) (Nat.le_of_ble_eq_true rfl) (Nat.le_of_ble_eq_true rfl) ?_
    exact ret _ _ _ _ dL_lengthOf_14 ⟨by rw [hk], g, s1, o1, U1, sU1, oU1, A1, fun z => absurd z (by rw [hk]; decide), hV1, rfl⟩
  · obtain ⟨hk, rfl, s1, o1, U1, sU1, oU1, A1, hV1, rfl⟩ := hp
    refine Teq (ws' := wD cy q N s1 o1 U1 sU1 oU1 A1 ++ oL cyl o g) (lv' := [(0, .ref (q 0)), (1, .int (enc (x))), (2, .ref (o))]) (st' := [.int (enc (len N x)), .int (enc 0), .ref o]) rfl rfl rfl ?_
    refine tw_i2lr X dL_lengthOf_7 ?_
    refine tl_last X B (g := g) (ws' := wD cy q N s1 o1 U1 sU1 oU1 A1 ++ oL cyl o (vp_updL g 0 ((enc (len N x)).toInt64))) 45 rfl dL_lengthOf_8 rfl ?_
    refine tw_goto (tgt := 15) X dL_lengthOf_9 (by decide) ?_
    refine tw_iconst X dL_lengthOf_15 ?_
    refine Twiden (k' := 1) (n' := 6) (Nat.le_of_ble_eq_true rfl) (Nat.le_of_ble_eq_true rfl) ?_
    exact ret _ _ _ _ dL_lengthOf_16 ⟨by rw [hk], _, s1, o1, U1, sU1, oU1, A1, fun _ => rfl, hV1, rfl⟩
set_option maxRecDepth 100000 in
theorem xw_wearOf : XW 145 yL_wearOf cL_wearOf 4 [(0, 9, 12, 19)] 3 := ⟨wdm 583 (by decide +kernel) rfl, wdm 584 (by decide +kernel) rfl, wdm 585 rfl rfl, rfl, by decide +kernel⟩
set_option maxRecDepth 100000 in
set_option maxHeartbeats 4000000 in
theorem w_wearOf {G : va_G} {cy cyl : ClassId} {o : Nat} {g : Nat → Int64} {q : Nat → Nat} (N : MT) (sN : Int → Int) (oN : Int) (U : MT) (sU : Int → Int) (oU : Int) (A : Int → Int) (x : Int) (hx : In x) (B0 : Int) (hF : WF N B0) (hB2 : B0 ≤ 800000) (hV : WVo N sN oN) : CtLw G cy cyl yL_wearOf cL_wearOf 4 [(0, 9, 12, 19)] ({ frames := 8, cells := 1, slots := 6, locals := 132 } : Room) 1 6 [.ref (q 0), .int (enc (x)), .ref (o)] (wD cy q N sN oN U sU oU A ++ oL cyl o g) (fun v w1 => v = some (.int (enc (kR N x))) ∧ ∃ g' s' o' U' sU' oU' A', (kR N x = 0 → g' 0 = (enc (N 4 x)).toInt64) ∧ WVo N s' o' ∧ w1 = wD cy q N s' o' U' sU' oU' A' ++ oL cyl o g') := by
  refine CtLw.of (own := RL) (by decide) (Nat.le_of_ble_eq_true rfl) rfl (fun _ _ _ => rfl) ?_
  intro c X B ret
  refine Tlv (lv' := [(0, .ref (q 0)), (1, .int (enc (x))), (2, .ref (o))]) rfl ?_
  refine tw_aload_n X dL_wearOf_0 2 rfl rfl ?_
  refine tw_iconst X dL_wearOf_1 ?_
  refine tw_aload_n X dL_wearOf_2 0 rfl rfl ?_
  refine tw_iload_n X dL_wearOf_3 1 rfl rfl ?_
  refine tl_call X B (As := [.int (enc (x))]) (st := [.int (enc 0), .ref o]) vw_L_40 (m_X4_wearOf (q := q) N sN oN U sU oU A x hx B0 hF hB2 hV) [] (oL cyl o g) rfl rfl (q0 := 0) rfl rfl rfl ⟨rfl, rfl, Nat.le_of_ble_eq_true rfl, Nat.le_of_ble_eq_true rfl⟩ ⟨Nat.le_of_ble_eq_true rfl, Nat.le_of_ble_eq_true rfl⟩ (Nat.le_of_ble_eq_true rfl) dL_wearOf_4 (fun E w1 he => ?_) (fun v w1 hp => ?_)
  · obtain ⟨hxc, s1, o1, U1, sU1, oU1, A1, hV1, rfl⟩ := he
    obtain ⟨rfl, hk⟩ := hxc
    refine ⟨12, ⟨[], (0, 9, 12, 19), [], rfl, rfl, fun z hz => absurd hz List.not_mem_nil, ⟨by decide, by decide⟩, by decide, wc_L_19, List.mem_of_getElem? (i := 1) rfl⟩, fun r => ?_⟩
    refine Teq (ws' := wD cy q N s1 o1 U1 sU1 oU1 A1 ++ oL cyl o g) (lv' := [(0, .ref (q 0)), (1, .int (enc (x))), (2, .ref (o))]) (st' := [.ref r]) rfl rfl rfl ?_
    refine tw_astore_n (lv' := [(3, .ref (r)), (0, .ref (q 0)), (1, .int (enc (x))), (2, .ref (o))]) X dL_wearOf_12 rfl (by decide) rfl ?_
    refine tw_iconst X dL_wearOf_13 ?_
    refine Twiden (k' := 1) (n' := 6) (Nat.le_of_ble_eq_true rfl) (Nat.le_of_ble_eq_true rfl) ?_
    exact ret _ _ _ _ dL_wearOf_14 ⟨by rw [hk], g, s1, o1, U1, sU1, oU1, A1, fun z => absurd z (by rw [hk]; decide), hV1, rfl⟩
  · obtain ⟨hk, rfl, s1, o1, U1, sU1, oU1, A1, hV1, rfl⟩ := hp
    refine Teq (ws' := wD cy q N s1 o1 U1 sU1 oU1 A1 ++ oL cyl o g) (lv' := [(0, .ref (q 0)), (1, .int (enc (x))), (2, .ref (o))]) (st' := [.int (enc (N 4 x)), .int (enc 0), .ref o]) rfl rfl rfl ?_
    refine tw_i2lr X dL_wearOf_7 ?_
    refine tl_last X B (g := g) (ws' := wD cy q N s1 o1 U1 sU1 oU1 A1 ++ oL cyl o (vp_updL g 0 ((enc (N 4 x)).toInt64))) 45 rfl dL_wearOf_8 rfl ?_
    refine tw_goto (tgt := 15) X dL_wearOf_9 (by decide) ?_
    refine tw_iconst X dL_wearOf_15 ?_
    refine Twiden (k' := 1) (n' := 6) (Nat.le_of_ble_eq_true rfl) (Nat.le_of_ble_eq_true rfl) ?_
    exact ret _ _ _ _ dL_wearOf_16 ⟨by rw [hk], _, s1, o1, U1, sU1, oU1, A1, fun _ => rfl, hV1, rfl⟩
set_option maxRecDepth 100000 in
theorem xw_knotsOf : XW 148 yL_knotsOf cL_knotsOf 4 [(0, 9, 12, 19)] 3 := ⟨wdm 590 (by decide +kernel) rfl, wdm 591 (by decide +kernel) rfl, wdm 592 rfl rfl, rfl, by decide +kernel⟩
set_option maxRecDepth 100000 in
set_option maxHeartbeats 4000000 in
theorem w_knotsOf {G : va_G} {cy cyl : ClassId} {o : Nat} {g : Nat → Int64} {q : Nat → Nat} (N : MT) (sN : Int → Int) (oN : Int) (U : MT) (sU : Int → Int) (oU : Int) (A : Int → Int) (x : Int) (hx : In x) (B0 : Int) (hF : WF N B0) (hB2 : B0 ≤ 800000) (hV : WVo N sN oN) : CtLw G cy cyl yL_knotsOf cL_knotsOf 4 [(0, 9, 12, 19)] ({ frames := 8, cells := 1, slots := 6, locals := 132 } : Room) 1 6 [.ref (q 0), .int (enc (x)), .ref (o)] (wD cy q N sN oN U sU oU A ++ oL cyl o g) (fun v w1 => v = some (.int (enc (kR N x))) ∧ ∃ g' s' o' U' sU' oU' A', (kR N x = 0 → g' 0 = (enc (N 5 x)).toInt64) ∧ WVo N s' o' ∧ w1 = wD cy q N s' o' U' sU' oU' A' ++ oL cyl o g') := by
  refine CtLw.of (own := RL) (by decide) (Nat.le_of_ble_eq_true rfl) rfl (fun _ _ _ => rfl) ?_
  intro c X B ret
  refine Tlv (lv' := [(0, .ref (q 0)), (1, .int (enc (x))), (2, .ref (o))]) rfl ?_
  refine tw_aload_n X dL_knotsOf_0 2 rfl rfl ?_
  refine tw_iconst X dL_knotsOf_1 ?_
  refine tw_aload_n X dL_knotsOf_2 0 rfl rfl ?_
  refine tw_iload_n X dL_knotsOf_3 1 rfl rfl ?_
  refine tl_call X B (As := [.int (enc (x))]) (st := [.int (enc 0), .ref o]) vw_L_43 (m_X4_knotsOf (q := q) N sN oN U sU oU A x hx B0 hF hB2 hV) [] (oL cyl o g) rfl rfl (q0 := 0) rfl rfl rfl ⟨rfl, rfl, Nat.le_of_ble_eq_true rfl, Nat.le_of_ble_eq_true rfl⟩ ⟨Nat.le_of_ble_eq_true rfl, Nat.le_of_ble_eq_true rfl⟩ (Nat.le_of_ble_eq_true rfl) dL_knotsOf_4 (fun E w1 he => ?_) (fun v w1 hp => ?_)
  · obtain ⟨hxc, s1, o1, U1, sU1, oU1, A1, hV1, rfl⟩ := he
    obtain ⟨rfl, hk⟩ := hxc
    refine ⟨12, ⟨[], (0, 9, 12, 19), [], rfl, rfl, fun z hz => absurd hz List.not_mem_nil, ⟨by decide, by decide⟩, by decide, wc_L_19, List.mem_of_getElem? (i := 1) rfl⟩, fun r => ?_⟩
    refine Teq (ws' := wD cy q N s1 o1 U1 sU1 oU1 A1 ++ oL cyl o g) (lv' := [(0, .ref (q 0)), (1, .int (enc (x))), (2, .ref (o))]) (st' := [.ref r]) rfl rfl rfl ?_
    refine tw_astore_n (lv' := [(3, .ref (r)), (0, .ref (q 0)), (1, .int (enc (x))), (2, .ref (o))]) X dL_knotsOf_12 rfl (by decide) rfl ?_
    refine tw_iconst X dL_knotsOf_13 ?_
    refine Twiden (k' := 1) (n' := 6) (Nat.le_of_ble_eq_true rfl) (Nat.le_of_ble_eq_true rfl) ?_
    exact ret _ _ _ _ dL_knotsOf_14 ⟨by rw [hk], g, s1, o1, U1, sU1, oU1, A1, fun z => absurd z (by rw [hk]; decide), hV1, rfl⟩
  · obtain ⟨hk, rfl, s1, o1, U1, sU1, oU1, A1, hV1, rfl⟩ := hp
    refine Teq (ws' := wD cy q N s1 o1 U1 sU1 oU1 A1 ++ oL cyl o g) (lv' := [(0, .ref (q 0)), (1, .int (enc (x))), (2, .ref (o))]) (st' := [.int (enc (N 5 x)), .int (enc 0), .ref o]) rfl rfl rfl ?_
    refine tw_i2lr X dL_knotsOf_7 ?_
    refine tl_last X B (g := g) (ws' := wD cy q N s1 o1 U1 sU1 oU1 A1 ++ oL cyl o (vp_updL g 0 ((enc (N 5 x)).toInt64))) 45 rfl dL_knotsOf_8 rfl ?_
    refine tw_goto (tgt := 15) X dL_knotsOf_9 (by decide) ?_
    refine tw_iconst X dL_knotsOf_15 ?_
    refine Twiden (k' := 1) (n' := 6) (Nat.le_of_ble_eq_true rfl) (Nat.le_of_ble_eq_true rfl) ?_
    exact ret _ _ _ _ dL_knotsOf_16 ⟨by rw [hk], _, s1, o1, U1, sU1, oU1, A1, fun _ => rfl, hV1, rfl⟩
set_option maxRecDepth 100000 in
theorem xw_closedFor : XW 151 yL_closedFor cL_closedFor 4 [(0, 9, 12, 19)] 3 := ⟨wdm 597 (by decide +kernel) rfl, wdm 598 (by decide +kernel) rfl, wdm 599 rfl rfl, rfl, by decide +kernel⟩
set_option maxRecDepth 100000 in
set_option maxHeartbeats 4000000 in
theorem w_closedFor {G : va_G} {cy cyl : ClassId} {o : Nat} {g : Nat → Int64} {q : Nat → Nat} (N : MT) (sN : Int → Int) (oN : Int) (U : MT) (sU : Int → Int) (oU : Int) (A : Int → Int) (x : Int) (hx : In x) (B0 : Int) (hF : WF N B0) (hB2 : B0 ≤ 800000) (hV : WVo N sN oN) : CtLw G cy cyl yL_closedFor cL_closedFor 4 [(0, 9, 12, 19)] ({ frames := 8, cells := 1, slots := 6, locals := 132 } : Room) 1 6 [.ref (q 0), .int (enc (x)), .ref (o)] (wD cy q N sN oN U sU oU A ++ oL cyl o g) (fun v w1 => v = some (.int (enc (kR N x))) ∧ ∃ g' s' o' U' sU' oU' A', (kR N x = 0 → g' 0 = (enc (N 6 x)).toInt64) ∧ WVo N s' o' ∧ w1 = wD cy q N s' o' U' sU' oU' A' ++ oL cyl o g') := by
  refine CtLw.of (own := RL) (by decide) (Nat.le_of_ble_eq_true rfl) rfl (fun _ _ _ => rfl) ?_
  intro c X B ret
  refine Tlv (lv' := [(0, .ref (q 0)), (1, .int (enc (x))), (2, .ref (o))]) rfl ?_
  refine tw_aload_n X dL_closedFor_0 2 rfl rfl ?_
  refine tw_iconst X dL_closedFor_1 ?_
  refine tw_aload_n X dL_closedFor_2 0 rfl rfl ?_
  refine tw_iload_n X dL_closedFor_3 1 rfl rfl ?_
  refine tl_call X B (As := [.int (enc (x))]) (st := [.int (enc 0), .ref o]) vw_L_46 (m_X4_closedFor (q := q) N sN oN U sU oU A x hx B0 hF hB2 hV) [] (oL cyl o g) rfl rfl (q0 := 0) rfl rfl rfl ⟨rfl, rfl, Nat.le_of_ble_eq_true rfl, Nat.le_of_ble_eq_true rfl⟩ ⟨Nat.le_of_ble_eq_true rfl, Nat.le_of_ble_eq_true rfl⟩ (Nat.le_of_ble_eq_true rfl) dL_closedFor_4 (fun E w1 he => ?_) (fun v w1 hp => ?_)
  · obtain ⟨hxc, s1, o1, U1, sU1, oU1, A1, hV1, rfl⟩ := he
    obtain ⟨rfl, hk⟩ := hxc
    refine ⟨12, ⟨[], (0, 9, 12, 19), [], rfl, rfl, fun z hz => absurd hz List.not_mem_nil, ⟨by decide, by decide⟩, by decide, wc_L_19, List.mem_of_getElem? (i := 1) rfl⟩, fun r => ?_⟩
    refine Teq (ws' := wD cy q N s1 o1 U1 sU1 oU1 A1 ++ oL cyl o g) (lv' := [(0, .ref (q 0)), (1, .int (enc (x))), (2, .ref (o))]) (st' := [.ref r]) rfl rfl rfl ?_
    refine tw_astore_n (lv' := [(3, .ref (r)), (0, .ref (q 0)), (1, .int (enc (x))), (2, .ref (o))]) X dL_closedFor_12 rfl (by decide) rfl ?_
    refine tw_iconst X dL_closedFor_13 ?_
    refine Twiden (k' := 1) (n' := 6) (Nat.le_of_ble_eq_true rfl) (Nat.le_of_ble_eq_true rfl) ?_
    exact ret _ _ _ _ dL_closedFor_14 ⟨by rw [hk], g, s1, o1, U1, sU1, oU1, A1, fun z => absurd z (by rw [hk]; decide), hV1, rfl⟩
  · obtain ⟨hk, rfl, s1, o1, U1, sU1, oU1, A1, hV1, rfl⟩ := hp
    refine Teq (ws' := wD cy q N s1 o1 U1 sU1 oU1 A1 ++ oL cyl o g) (lv' := [(0, .ref (q 0)), (1, .int (enc (x))), (2, .ref (o))]) (st' := [.int (enc (N 6 x)), .int (enc 0), .ref o]) rfl rfl rfl ?_
    refine tw_i2lr X dL_closedFor_7 ?_
    refine tl_last X B (g := g) (ws' := wD cy q N s1 o1 U1 sU1 oU1 A1 ++ oL cyl o (vp_updL g 0 ((enc (N 6 x)).toInt64))) 45 rfl dL_closedFor_8 rfl ?_
    refine tw_goto (tgt := 15) X dL_closedFor_9 (by decide) ?_
    refine tw_iconst X dL_closedFor_15 ?_
    refine Twiden (k' := 1) (n' := 6) (Nat.le_of_ble_eq_true rfl) (Nat.le_of_ble_eq_true rfl) ?_
    exact ret _ _ _ _ dL_closedFor_16 ⟨by rw [hk], _, s1, o1, U1, sU1, oU1, A1, fun _ => rfl, hV1, rfl⟩
set_option maxRecDepth 100000 in
theorem xw_touristsOn : XW 154 yL_touristsOn cL_touristsOn 4 [(0, 9, 12, 19)] 3 := ⟨wdm 604 (by decide +kernel) rfl, wdm 605 (by decide +kernel) rfl, wdm 606 rfl rfl, rfl, by decide +kernel⟩
set_option maxRecDepth 100000 in
set_option maxHeartbeats 4000000 in
theorem w_touristsOn {G : va_G} {cy cyl : ClassId} {o : Nat} {g : Nat → Int64} {q : Nat → Nat} (N : MT) (sN : Int → Int) (oN : Int) (U : MT) (sU : Int → Int) (oU : Int) (A : Int → Int) (x : Int) (hx : In x) (B0 : Int) (hF : WF N B0) (hB2 : B0 ≤ 800000) (hV : WVo N sN oN) : CtLw G cy cyl yL_touristsOn cL_touristsOn 4 [(0, 9, 12, 19)] ({ frames := 8, cells := 1, slots := 6, locals := 132 } : Room) 1 6 [.ref (q 0), .int (enc (x)), .ref (o)] (wD cy q N sN oN U sU oU A ++ oL cyl o g) (fun v w1 => v = some (.int (enc (kR N x))) ∧ ∃ g' s' o' U' sU' oU' A', (kR N x = 0 → g' 0 = (enc (onR N x (N 17 0).toNat)).toInt64) ∧ WVo N s' o' ∧ w1 = wD cy q N s' o' U' sU' oU' A' ++ oL cyl o g') := by
  refine CtLw.of (own := RL) (by decide) (Nat.le_of_ble_eq_true rfl) rfl (fun _ _ _ => rfl) ?_
  intro c X B ret
  refine Tlv (lv' := [(0, .ref (q 0)), (1, .int (enc (x))), (2, .ref (o))]) rfl ?_
  refine tw_aload_n X dL_touristsOn_0 2 rfl rfl ?_
  refine tw_iconst X dL_touristsOn_1 ?_
  refine tw_aload_n X dL_touristsOn_2 0 rfl rfl ?_
  refine tw_iload_n X dL_touristsOn_3 1 rfl rfl ?_
  refine tl_call X B (As := [.int (enc (x))]) (st := [.int (enc 0), .ref o]) vw_L_49 (m_X4_touristsOn (q := q) N sN oN U sU oU A x hx B0 hF hB2 hV) [] (oL cyl o g) rfl rfl (q0 := 0) rfl rfl rfl ⟨rfl, rfl, Nat.le_of_ble_eq_true rfl, Nat.le_of_ble_eq_true rfl⟩ ⟨Nat.le_of_ble_eq_true rfl, Nat.le_of_ble_eq_true rfl⟩ (Nat.le_of_ble_eq_true rfl) dL_touristsOn_4 (fun E w1 he => ?_) (fun v w1 hp => ?_)
  · obtain ⟨hxc, s1, o1, U1, sU1, oU1, A1, hV1, rfl⟩ := he
    obtain ⟨rfl, hk⟩ := hxc
    refine ⟨12, ⟨[], (0, 9, 12, 19), [], rfl, rfl, fun z hz => absurd hz List.not_mem_nil, ⟨by decide, by decide⟩, by decide, wc_L_19, List.mem_of_getElem? (i := 1) rfl⟩, fun r => ?_⟩
    refine Teq (ws' := wD cy q N s1 o1 U1 sU1 oU1 A1 ++ oL cyl o g) (lv' := [(0, .ref (q 0)), (1, .int (enc (x))), (2, .ref (o))]) (st' := [.ref r]) rfl rfl rfl ?_
    refine tw_astore_n (lv' := [(3, .ref (r)), (0, .ref (q 0)), (1, .int (enc (x))), (2, .ref (o))]) X dL_touristsOn_12 rfl (by decide) rfl ?_
    refine tw_iconst X dL_touristsOn_13 ?_
    refine Twiden (k' := 1) (n' := 6) (Nat.le_of_ble_eq_true rfl) (Nat.le_of_ble_eq_true rfl) ?_
    exact ret _ _ _ _ dL_touristsOn_14 ⟨by rw [hk], g, s1, o1, U1, sU1, oU1, A1, fun z => absurd z (by rw [hk]; decide), hV1, rfl⟩
  · obtain ⟨hk, rfl, s1, o1, U1, sU1, oU1, A1, hV1, rfl⟩ := hp
    refine Teq (ws' := wD cy q N s1 o1 U1 sU1 oU1 A1 ++ oL cyl o g) (lv' := [(0, .ref (q 0)), (1, .int (enc (x))), (2, .ref (o))]) (st' := [.int (enc (onR N x (N 17 0).toNat)), .int (enc 0), .ref o]) rfl rfl rfl ?_
    refine tw_i2lr X dL_touristsOn_7 ?_
    refine tl_last X B (g := g) (ws' := wD cy q N s1 o1 U1 sU1 oU1 A1 ++ oL cyl o (vp_updL g 0 ((enc (onR N x (N 17 0).toNat)).toInt64))) 45 rfl dL_touristsOn_8 rfl ?_
    refine tw_goto (tgt := 15) X dL_touristsOn_9 (by decide) ?_
    refine tw_iconst X dL_touristsOn_15 ?_
    refine Twiden (k' := 1) (n' := 6) (Nat.le_of_ble_eq_true rfl) (Nat.le_of_ble_eq_true rfl) ?_
    exact ret _ _ _ _ dL_touristsOn_16 ⟨by rw [hk], _, s1, o1, U1, sU1, oU1, A1, fun _ => rfl, hV1, rfl⟩
set_option maxRecDepth 100000 in
theorem xw_openDistance : XW 161 yL_openDistance cL_openDistance 5 [(0, 10, 13, 19)] 4 := ⟨wdm 611 (by decide +kernel) rfl, wdm 612 (by decide +kernel) rfl, wdm 613 rfl rfl, rfl, by decide +kernel⟩
set_option maxRecDepth 100000 in
set_option maxHeartbeats 4000000 in
theorem w_openDistance {G : va_G} {cy cyl : ClassId} {o : Nat} {g : Nat → Int64} {q : Nat → Nat} (N : MT) (sN : Int → Int) (oN : Int) (U : MT) (sU : Int → Int) (oU : Int) (A : Int → Int) (x y : Int) (hx : In x) (hy : In y) (B0 : Int) (hF : WF N B0) (hB2 : B0 ≤ 800000) (hV : WVo N sN oN) : CtLw G cy cyl yL_openDistance cL_openDistance 5 [(0, 10, 13, 19)] ({ frames := 8, cells := 2, slots := 12, locals := 133 } : Room) 2 12 [.ref (q 0), .int (enc (x)), .int (enc (y)), .ref (o)] (wD cy q N sN oN U sU oU A ++ oL cyl o g) (fun v w1 => v = some (.int (enc (kC N x y))) ∧ ∃ g' s' o' U' sU' oU' A', (kC N x y = 0 → g' 0 = (enc (dO N true x y)).toInt64) ∧ WVo N s' o' ∧ w1 = wD cy q N s' o' U' sU' oU' A' ++ oL cyl o g') := by
  refine CtLw.of (own := RL) (by decide) (Nat.le_of_ble_eq_true rfl) rfl (fun _ _ _ => rfl) ?_
  intro c X B ret
  refine Tlv (lv' := [(0, .ref (q 0)), (1, .int (enc (x))), (2, .int (enc (y))), (3, .ref (o))]) rfl ?_
  refine tw_aload_n X dL_openDistance_0 3 rfl rfl ?_
  refine tw_iconst X dL_openDistance_1 ?_
  refine tw_aload_n X dL_openDistance_2 0 rfl rfl ?_
  refine tw_iload_n X dL_openDistance_3 1 rfl rfl ?_
  refine tw_iload_n X dL_openDistance_4 2 rfl rfl ?_
  refine tl_call X B (As := [.int (enc (x)), .int (enc (y))]) (st := [.int (enc 0), .ref o]) vw_L_52 (m_X4_openDistance (q := q) N sN oN U sU oU A x y hx hy B0 hF hB2 hV) [] (oL cyl o g) rfl rfl (q0 := 0) rfl rfl rfl ⟨rfl, rfl, Nat.le_of_ble_eq_true rfl, Nat.le_of_ble_eq_true rfl⟩ ⟨Nat.le_of_ble_eq_true rfl, Nat.le_of_ble_eq_true rfl⟩ (Nat.le_of_ble_eq_true rfl) dL_openDistance_5 (fun E w1 he => ?_) (fun v w1 hp => ?_)
  · obtain ⟨hxc, s1, o1, U1, sU1, oU1, A1, hV1, rfl⟩ := he
    obtain ⟨rfl, hk⟩ := hxc
    refine ⟨13, ⟨[], (0, 10, 13, 19), [], rfl, rfl, fun z hz => absurd hz List.not_mem_nil, ⟨by decide, by decide⟩, by decide, wc_L_19, List.mem_of_getElem? (i := 1) rfl⟩, fun r => ?_⟩
    refine Teq (ws' := wD cy q N s1 o1 U1 sU1 oU1 A1 ++ oL cyl o g) (lv' := [(0, .ref (q 0)), (1, .int (enc (x))), (2, .int (enc (y))), (3, .ref (o))]) (st' := [.ref r]) rfl rfl rfl ?_
    refine tw_astore (lv' := [(4, .ref (r)), (0, .ref (q 0)), (1, .int (enc (x))), (2, .int (enc (y))), (3, .ref (o))]) X dL_openDistance_13 (by decide) rfl ?_
    refine tw_iconst X dL_openDistance_15 ?_
    refine Twiden (k' := 2) (n' := 12) (Nat.le_of_ble_eq_true rfl) (Nat.le_of_ble_eq_true rfl) ?_
    exact ret _ _ _ _ dL_openDistance_16 ⟨by rw [hk], g, s1, o1, U1, sU1, oU1, A1, fun z => absurd z (by rw [hk]; decide), hV1, rfl⟩
  · obtain ⟨hk, rfl, s1, o1, U1, sU1, oU1, A1, hV1, rfl⟩ := hp
    refine Teq (ws' := wD cy q N s1 o1 U1 sU1 oU1 A1 ++ oL cyl o g) (lv' := [(0, .ref (q 0)), (1, .int (enc (x))), (2, .int (enc (y))), (3, .ref (o))]) (st' := [.int (enc (dO N true x y)), .int (enc 0), .ref o]) rfl rfl rfl ?_
    refine tw_i2lr X dL_openDistance_8 ?_
    refine tl_last X B (g := g) (ws' := wD cy q N s1 o1 U1 sU1 oU1 A1 ++ oL cyl o (vp_updL g 0 ((enc (dO N true x y)).toInt64))) 45 rfl dL_openDistance_9 rfl ?_
    refine tw_goto (tgt := 17) X dL_openDistance_10 (by decide) ?_
    refine tw_iconst X dL_openDistance_17 ?_
    refine Twiden (k' := 2) (n' := 12) (Nat.le_of_ble_eq_true rfl) (Nat.le_of_ble_eq_true rfl) ?_
    exact ret _ _ _ _ dL_openDistance_18 ⟨by rw [hk], _, s1, o1, U1, sU1, oU1, A1, fun _ => rfl, hV1, rfl⟩
set_option maxRecDepth 100000 in
theorem xw_distance : XW 164 yL_distance cL_distance 5 [(0, 10, 13, 19)] 4 := ⟨wdm 618 (by decide +kernel) rfl, wdm 619 (by decide +kernel) rfl, wdm 620 rfl rfl, rfl, by decide +kernel⟩
set_option maxRecDepth 100000 in
set_option maxHeartbeats 4000000 in
theorem w_distance {G : va_G} {cy cyl : ClassId} {o : Nat} {g : Nat → Int64} {q : Nat → Nat} (N : MT) (sN : Int → Int) (oN : Int) (U : MT) (sU : Int → Int) (oU : Int) (A : Int → Int) (x y : Int) (hx : In x) (hy : In y) (B0 : Int) (hF : WF N B0) (hB2 : B0 ≤ 800000) (hV : WVo N sN oN) : CtLw G cy cyl yL_distance cL_distance 5 [(0, 10, 13, 19)] ({ frames := 8, cells := 2, slots := 12, locals := 133 } : Room) 2 12 [.ref (q 0), .int (enc (x)), .int (enc (y)), .ref (o)] (wD cy q N sN oN U sU oU A ++ oL cyl o g) (fun v w1 => v = some (.int (enc (kC N x y))) ∧ ∃ g' s' o' U' sU' oU' A', (kC N x y = 0 → g' 0 = (enc (dO N false x y)).toInt64) ∧ WVo N s' o' ∧ w1 = wD cy q N s' o' U' sU' oU' A' ++ oL cyl o g') := by
  refine CtLw.of (own := RL) (by decide) (Nat.le_of_ble_eq_true rfl) rfl (fun _ _ _ => rfl) ?_
  intro c X B ret
  refine Tlv (lv' := [(0, .ref (q 0)), (1, .int (enc (x))), (2, .int (enc (y))), (3, .ref (o))]) rfl ?_
  refine tw_aload_n X dL_distance_0 3 rfl rfl ?_
  refine tw_iconst X dL_distance_1 ?_
  refine tw_aload_n X dL_distance_2 0 rfl rfl ?_
  refine tw_iload_n X dL_distance_3 1 rfl rfl ?_
  refine tw_iload_n X dL_distance_4 2 rfl rfl ?_
  refine tl_call X B (As := [.int (enc (x)), .int (enc (y))]) (st := [.int (enc 0), .ref o]) vw_L_55 (m_X4_distance (q := q) N sN oN U sU oU A x y hx hy B0 hF hB2 hV) [] (oL cyl o g) rfl rfl (q0 := 0) rfl rfl rfl ⟨rfl, rfl, Nat.le_of_ble_eq_true rfl, Nat.le_of_ble_eq_true rfl⟩ ⟨Nat.le_of_ble_eq_true rfl, Nat.le_of_ble_eq_true rfl⟩ (Nat.le_of_ble_eq_true rfl) dL_distance_5 (fun E w1 he => ?_) (fun v w1 hp => ?_)
  · obtain ⟨hxc, s1, o1, U1, sU1, oU1, A1, hV1, rfl⟩ := he
    obtain ⟨rfl, hk⟩ := hxc
    refine ⟨13, ⟨[], (0, 10, 13, 19), [], rfl, rfl, fun z hz => absurd hz List.not_mem_nil, ⟨by decide, by decide⟩, by decide, wc_L_19, List.mem_of_getElem? (i := 1) rfl⟩, fun r => ?_⟩
    refine Teq (ws' := wD cy q N s1 o1 U1 sU1 oU1 A1 ++ oL cyl o g) (lv' := [(0, .ref (q 0)), (1, .int (enc (x))), (2, .int (enc (y))), (3, .ref (o))]) (st' := [.ref r]) rfl rfl rfl ?_
    refine tw_astore (lv' := [(4, .ref (r)), (0, .ref (q 0)), (1, .int (enc (x))), (2, .int (enc (y))), (3, .ref (o))]) X dL_distance_13 (by decide) rfl ?_
    refine tw_iconst X dL_distance_15 ?_
    refine Twiden (k' := 2) (n' := 12) (Nat.le_of_ble_eq_true rfl) (Nat.le_of_ble_eq_true rfl) ?_
    exact ret _ _ _ _ dL_distance_16 ⟨by rw [hk], g, s1, o1, U1, sU1, oU1, A1, fun z => absurd z (by rw [hk]; decide), hV1, rfl⟩
  · obtain ⟨hk, rfl, s1, o1, U1, sU1, oU1, A1, hV1, rfl⟩ := hp
    refine Teq (ws' := wD cy q N s1 o1 U1 sU1 oU1 A1 ++ oL cyl o g) (lv' := [(0, .ref (q 0)), (1, .int (enc (x))), (2, .int (enc (y))), (3, .ref (o))]) (st' := [.int (enc (dO N false x y)), .int (enc 0), .ref o]) rfl rfl rfl ?_
    refine tw_i2lr X dL_distance_8 ?_
    refine tl_last X B (g := g) (ws' := wD cy q N s1 o1 U1 sU1 oU1 A1 ++ oL cyl o (vp_updL g 0 ((enc (dO N false x y)).toInt64))) 45 rfl dL_distance_9 rfl ?_
    refine tw_goto (tgt := 17) X dL_distance_10 (by decide) ?_
    refine tw_iconst X dL_distance_17 ?_
    refine Twiden (k' := 2) (n' := 12) (Nat.le_of_ble_eq_true rfl) (Nat.le_of_ble_eq_true rfl) ?_
    exact ret _ _ _ _ dL_distance_18 ⟨by rw [hk], _, s1, o1, U1, sU1, oU1, A1, fun _ => rfl, hV1, rfl⟩
set_option maxRecDepth 100000 in
theorem xw_nextRoad : XW 167 yL_nextRoad cL_nextRoad 5 [(0, 10, 13, 19)] 4 := ⟨wdm 622 (by decide +kernel) rfl, wdm 623 (by decide +kernel) rfl, wdm 624 rfl rfl, rfl, by decide +kernel⟩
set_option maxRecDepth 100000 in
set_option maxHeartbeats 4000000 in
theorem w_nextRoad {G : va_G} {cy cyl : ClassId} {o : Nat} {g : Nat → Int64} {q : Nat → Nat} (N : MT) (sN : Int → Int) (oN : Int) (U : MT) (sU : Int → Int) (oU : Int) (A : Int → Int) (x y : Int) (hx : In x) (hy : In y) (B0 : Int) (hF : WF N B0) (hB2 : B0 ≤ 800000) (hV : WVo N sN oN) : CtLw G cy cyl yL_nextRoad cL_nextRoad 5 [(0, 10, 13, 19)] ({ frames := 8, cells := 2, slots := 12, locals := 133 } : Room) 2 12 [.ref (q 0), .int (enc (x)), .int (enc (y)), .ref (o)] (wD cy q N sN oN U sU oU A ++ oL cyl o g) (fun v w1 => v = some (.int (enc (kC N x y))) ∧ ∃ g' s' o' U' sU' oU' A', (kC N x y = 0 → g' 0 = (enc (if x = y then -1 else toward N x y)).toInt64) ∧ WVo N s' o' ∧ w1 = wD cy q N s' o' U' sU' oU' A' ++ oL cyl o g') := by
  refine CtLw.of (own := RL) (by decide) (Nat.le_of_ble_eq_true rfl) rfl (fun _ _ _ => rfl) ?_
  intro c X B ret
  refine Tlv (lv' := [(0, .ref (q 0)), (1, .int (enc (x))), (2, .int (enc (y))), (3, .ref (o))]) rfl ?_
  refine tw_aload_n X dL_nextRoad_0 3 rfl rfl ?_
  refine tw_iconst X dL_nextRoad_1 ?_
  refine tw_aload_n X dL_nextRoad_2 0 rfl rfl ?_
  refine tw_iload_n X dL_nextRoad_3 1 rfl rfl ?_
  refine tw_iload_n X dL_nextRoad_4 2 rfl rfl ?_
  refine tl_call X B (As := [.int (enc (x)), .int (enc (y))]) (st := [.int (enc 0), .ref o]) vw_L_58 (m_X4_nextRoad (q := q) N sN oN U sU oU A x y hx hy B0 hF hB2 hV) [] (oL cyl o g) rfl rfl (q0 := 0) rfl rfl rfl ⟨rfl, rfl, Nat.le_of_ble_eq_true rfl, Nat.le_of_ble_eq_true rfl⟩ ⟨Nat.le_of_ble_eq_true rfl, Nat.le_of_ble_eq_true rfl⟩ (Nat.le_of_ble_eq_true rfl) dL_nextRoad_5 (fun E w1 he => ?_) (fun v w1 hp => ?_)
  · obtain ⟨hxc, s1, o1, U1, sU1, oU1, A1, hV1, rfl⟩ := he
    obtain ⟨rfl, hk⟩ := hxc
    refine ⟨13, ⟨[], (0, 10, 13, 19), [], rfl, rfl, fun z hz => absurd hz List.not_mem_nil, ⟨by decide, by decide⟩, by decide, wc_L_19, List.mem_of_getElem? (i := 1) rfl⟩, fun r => ?_⟩
    refine Teq (ws' := wD cy q N s1 o1 U1 sU1 oU1 A1 ++ oL cyl o g) (lv' := [(0, .ref (q 0)), (1, .int (enc (x))), (2, .int (enc (y))), (3, .ref (o))]) (st' := [.ref r]) rfl rfl rfl ?_
    refine tw_astore (lv' := [(4, .ref (r)), (0, .ref (q 0)), (1, .int (enc (x))), (2, .int (enc (y))), (3, .ref (o))]) X dL_nextRoad_13 (by decide) rfl ?_
    refine tw_iconst X dL_nextRoad_15 ?_
    refine Twiden (k' := 2) (n' := 12) (Nat.le_of_ble_eq_true rfl) (Nat.le_of_ble_eq_true rfl) ?_
    exact ret _ _ _ _ dL_nextRoad_16 ⟨by rw [hk], g, s1, o1, U1, sU1, oU1, A1, fun z => absurd z (by rw [hk]; decide), hV1, rfl⟩
  · obtain ⟨hk, rfl, s1, o1, U1, sU1, oU1, A1, hV1, rfl⟩ := hp
    refine Teq (ws' := wD cy q N s1 o1 U1 sU1 oU1 A1 ++ oL cyl o g) (lv' := [(0, .ref (q 0)), (1, .int (enc (x))), (2, .int (enc (y))), (3, .ref (o))]) (st' := [.int (enc (if x = y then -1 else toward N x y)), .int (enc 0), .ref o]) rfl rfl rfl ?_
    refine tw_i2lr X dL_nextRoad_8 ?_
    refine tl_last X B (g := g) (ws' := wD cy q N s1 o1 U1 sU1 oU1 A1 ++ oL cyl o (vp_updL g 0 ((enc (if x = y then -1 else toward N x y)).toInt64))) 45 rfl dL_nextRoad_9 rfl ?_
    refine tw_goto (tgt := 17) X dL_nextRoad_10 (by decide) ?_
    refine tw_iconst X dL_nextRoad_17 ?_
    refine Twiden (k' := 2) (n' := 12) (Nat.le_of_ble_eq_true rfl) (Nat.le_of_ble_eq_true rfl) ?_
    exact ret _ _ _ _ dL_nextRoad_18 ⟨by rw [hk], _, s1, o1, U1, sU1, oU1, A1, fun _ => rfl, hV1, rfl⟩
set_option maxRecDepth 100000 in
theorem xw_placeOf : XW 174 yL_placeOf cL_placeOf 4 [(0, 9, 12, 19)] 3 := ⟨wdm 630 (by decide +kernel) rfl, wdm 631 (by decide +kernel) rfl, wdm 632 rfl rfl, rfl, by decide +kernel⟩
set_option maxRecDepth 100000 in
set_option maxHeartbeats 4000000 in
theorem w_placeOf {G : va_G} {cy cyl : ClassId} {o : Nat} {g : Nat → Int64} {q : Nat → Nat} (N : MT) (sN : Int → Int) (oN : Int) (U : MT) (sU : Int → Int) (oU : Int) (A : Int → Int) (x : Int) (hx : In x) (B0 : Int) (hF : WF N B0) (hB2 : B0 ≤ 800000) (hV : WVo N sN oN) : CtLw G cy cyl yL_placeOf cL_placeOf 4 [(0, 9, 12, 19)] ({ frames := 8, cells := 1, slots := 6, locals := 132 } : Room) 1 6 [.ref (q 0), .int (enc (x)), .ref (o)] (wD cy q N sN oN U sU oU A ++ oL cyl o g) (fun v w1 => v = some (.int (enc (kT N x))) ∧ ∃ g' s' o' U' sU' oU' A', (kT N x = 0 → g' 0 = (enc (N 7 x)).toInt64) ∧ WVo N s' o' ∧ w1 = wD cy q N s' o' U' sU' oU' A' ++ oL cyl o g') := by
  refine CtLw.of (own := RL) (by decide) (Nat.le_of_ble_eq_true rfl) rfl (fun _ _ _ => rfl) ?_
  intro c X B ret
  refine Tlv (lv' := [(0, .ref (q 0)), (1, .int (enc (x))), (2, .ref (o))]) rfl ?_
  refine tw_aload_n X dL_placeOf_0 2 rfl rfl ?_
  refine tw_iconst X dL_placeOf_1 ?_
  refine tw_aload_n X dL_placeOf_2 0 rfl rfl ?_
  refine tw_iload_n X dL_placeOf_3 1 rfl rfl ?_
  refine tl_call X B (As := [.int (enc (x))]) (st := [.int (enc 0), .ref o]) vw_L_61 (m_X4_placeOf (q := q) N sN oN U sU oU A x hx B0 hF hB2 hV) [] (oL cyl o g) rfl rfl (q0 := 0) rfl rfl rfl ⟨rfl, rfl, Nat.le_of_ble_eq_true rfl, Nat.le_of_ble_eq_true rfl⟩ ⟨Nat.le_of_ble_eq_true rfl, Nat.le_of_ble_eq_true rfl⟩ (Nat.le_of_ble_eq_true rfl) dL_placeOf_4 (fun E w1 he => ?_) (fun v w1 hp => ?_)
  · obtain ⟨hxc, s1, o1, U1, sU1, oU1, A1, hV1, rfl⟩ := he
    obtain ⟨rfl, hk⟩ := hxc
    refine ⟨12, ⟨[], (0, 9, 12, 19), [], rfl, rfl, fun z hz => absurd hz List.not_mem_nil, ⟨by decide, by decide⟩, by decide, wc_L_19, List.mem_of_getElem? (i := 1) rfl⟩, fun r => ?_⟩
    refine Teq (ws' := wD cy q N s1 o1 U1 sU1 oU1 A1 ++ oL cyl o g) (lv' := [(0, .ref (q 0)), (1, .int (enc (x))), (2, .ref (o))]) (st' := [.ref r]) rfl rfl rfl ?_
    refine tw_astore_n (lv' := [(3, .ref (r)), (0, .ref (q 0)), (1, .int (enc (x))), (2, .ref (o))]) X dL_placeOf_12 rfl (by decide) rfl ?_
    refine tw_iconst X dL_placeOf_13 ?_
    refine Twiden (k' := 1) (n' := 6) (Nat.le_of_ble_eq_true rfl) (Nat.le_of_ble_eq_true rfl) ?_
    exact ret _ _ _ _ dL_placeOf_14 ⟨by rw [hk], g, s1, o1, U1, sU1, oU1, A1, fun z => absurd z (by rw [hk]; decide), hV1, rfl⟩
  · obtain ⟨hk, rfl, s1, o1, U1, sU1, oU1, A1, hV1, rfl⟩ := hp
    refine Teq (ws' := wD cy q N s1 o1 U1 sU1 oU1 A1 ++ oL cyl o g) (lv' := [(0, .ref (q 0)), (1, .int (enc (x))), (2, .ref (o))]) (st' := [.int (enc (N 7 x)), .int (enc 0), .ref o]) rfl rfl rfl ?_
    refine tw_i2lr X dL_placeOf_7 ?_
    refine tl_last X B (g := g) (ws' := wD cy q N s1 o1 U1 sU1 oU1 A1 ++ oL cyl o (vp_updL g 0 ((enc (N 7 x)).toInt64))) 45 rfl dL_placeOf_8 rfl ?_
    refine tw_goto (tgt := 15) X dL_placeOf_9 (by decide) ?_
    refine tw_iconst X dL_placeOf_15 ?_
    refine Twiden (k' := 1) (n' := 6) (Nat.le_of_ble_eq_true rfl) (Nat.le_of_ble_eq_true rfl) ?_
    exact ret _ _ _ _ dL_placeOf_16 ⟨by rw [hk], _, s1, o1, U1, sU1, oU1, A1, fun _ => rfl, hV1, rfl⟩
set_option maxRecDepth 100000 in
theorem xw_roadOf : XW 177 yL_roadOf cL_roadOf 4 [(0, 9, 12, 19)] 3 := ⟨wdm 642 (by decide +kernel) rfl, wdm 643 (by decide +kernel) rfl, wdm 644 rfl rfl, rfl, by decide +kernel⟩
set_option maxRecDepth 100000 in
set_option maxHeartbeats 4000000 in
theorem w_roadOf {G : va_G} {cy cyl : ClassId} {o : Nat} {g : Nat → Int64} {q : Nat → Nat} (N : MT) (sN : Int → Int) (oN : Int) (U : MT) (sU : Int → Int) (oU : Int) (A : Int → Int) (x : Int) (hx : In x) (B0 : Int) (hF : WF N B0) (hB2 : B0 ≤ 800000) (hV : WVo N sN oN) : CtLw G cy cyl yL_roadOf cL_roadOf 4 [(0, 9, 12, 19)] ({ frames := 8, cells := 1, slots := 6, locals := 132 } : Room) 1 6 [.ref (q 0), .int (enc (x)), .ref (o)] (wD cy q N sN oN U sU oU A ++ oL cyl o g) (fun v w1 => v = some (.int (enc (kT N x))) ∧ ∃ g' s' o' U' sU' oU' A', (kT N x = 0 → g' 0 = (enc (N 8 x)).toInt64) ∧ WVo N s' o' ∧ w1 = wD cy q N s' o' U' sU' oU' A' ++ oL cyl o g') := by
  refine CtLw.of (own := RL) (by decide) (Nat.le_of_ble_eq_true rfl) rfl (fun _ _ _ => rfl) ?_
  intro c X B ret
  refine Tlv (lv' := [(0, .ref (q 0)), (1, .int (enc (x))), (2, .ref (o))]) rfl ?_
  refine tw_aload_n X dL_roadOf_0 2 rfl rfl ?_
  refine tw_iconst X dL_roadOf_1 ?_
  refine tw_aload_n X dL_roadOf_2 0 rfl rfl ?_
  refine tw_iload_n X dL_roadOf_3 1 rfl rfl ?_
  refine tl_call X B (As := [.int (enc (x))]) (st := [.int (enc 0), .ref o]) vw_L_64 (m_X4_roadOf (q := q) N sN oN U sU oU A x hx B0 hF hB2 hV) [] (oL cyl o g) rfl rfl (q0 := 0) rfl rfl rfl ⟨rfl, rfl, Nat.le_of_ble_eq_true rfl, Nat.le_of_ble_eq_true rfl⟩ ⟨Nat.le_of_ble_eq_true rfl, Nat.le_of_ble_eq_true rfl⟩ (Nat.le_of_ble_eq_true rfl) dL_roadOf_4 (fun E w1 he => ?_) (fun v w1 hp => ?_)
  · obtain ⟨hxc, s1, o1, U1, sU1, oU1, A1, hV1, rfl⟩ := he
    obtain ⟨rfl, hk⟩ := hxc
    refine ⟨12, ⟨[], (0, 9, 12, 19), [], rfl, rfl, fun z hz => absurd hz List.not_mem_nil, ⟨by decide, by decide⟩, by decide, wc_L_19, List.mem_of_getElem? (i := 1) rfl⟩, fun r => ?_⟩
    refine Teq (ws' := wD cy q N s1 o1 U1 sU1 oU1 A1 ++ oL cyl o g) (lv' := [(0, .ref (q 0)), (1, .int (enc (x))), (2, .ref (o))]) (st' := [.ref r]) rfl rfl rfl ?_
    refine tw_astore_n (lv' := [(3, .ref (r)), (0, .ref (q 0)), (1, .int (enc (x))), (2, .ref (o))]) X dL_roadOf_12 rfl (by decide) rfl ?_
    refine tw_iconst X dL_roadOf_13 ?_
    refine Twiden (k' := 1) (n' := 6) (Nat.le_of_ble_eq_true rfl) (Nat.le_of_ble_eq_true rfl) ?_
    exact ret _ _ _ _ dL_roadOf_14 ⟨by rw [hk], g, s1, o1, U1, sU1, oU1, A1, fun z => absurd z (by rw [hk]; decide), hV1, rfl⟩
  · obtain ⟨hk, rfl, s1, o1, U1, sU1, oU1, A1, hV1, rfl⟩ := hp
    refine Teq (ws' := wD cy q N s1 o1 U1 sU1 oU1 A1 ++ oL cyl o g) (lv' := [(0, .ref (q 0)), (1, .int (enc (x))), (2, .ref (o))]) (st' := [.int (enc (N 8 x)), .int (enc 0), .ref o]) rfl rfl rfl ?_
    refine tw_i2lr X dL_roadOf_7 ?_
    refine tl_last X B (g := g) (ws' := wD cy q N s1 o1 U1 sU1 oU1 A1 ++ oL cyl o (vp_updL g 0 ((enc (N 8 x)).toInt64))) 45 rfl dL_roadOf_8 rfl ?_
    refine tw_goto (tgt := 15) X dL_roadOf_9 (by decide) ?_
    refine tw_iconst X dL_roadOf_15 ?_
    refine Twiden (k' := 1) (n' := 6) (Nat.le_of_ble_eq_true rfl) (Nat.le_of_ble_eq_true rfl) ?_
    exact ret _ _ _ _ dL_roadOf_16 ⟨by rw [hk], _, s1, o1, U1, sU1, oU1, A1, fun _ => rfl, hV1, rfl⟩
set_option maxRecDepth 100000 in
theorem xw_dyeOf : XW 180 yL_dyeOf cL_dyeOf 4 [(0, 9, 12, 19)] 3 := ⟨wdm 649 (by decide +kernel) rfl, wdm 650 (by decide +kernel) rfl, wdm 651 rfl rfl, rfl, by decide +kernel⟩
set_option maxRecDepth 100000 in
set_option maxHeartbeats 4000000 in
theorem w_dyeOf {G : va_G} {cy cyl : ClassId} {o : Nat} {g : Nat → Int64} {q : Nat → Nat} (N : MT) (sN : Int → Int) (oN : Int) (U : MT) (sU : Int → Int) (oU : Int) (A : Int → Int) (x : Int) (hx : In x) (B0 : Int) (hF : WF N B0) (hB2 : B0 ≤ 800000) (hV : WVo N sN oN) : CtLw G cy cyl yL_dyeOf cL_dyeOf 4 [(0, 9, 12, 19)] ({ frames := 8, cells := 1, slots := 6, locals := 132 } : Room) 1 6 [.ref (q 0), .int (enc (x)), .ref (o)] (wD cy q N sN oN U sU oU A ++ oL cyl o g) (fun v w1 => v = some (.int (enc (kT N x))) ∧ ∃ g' s' o' U' sU' oU' A', (kT N x = 0 → g' 0 = (enc (N 12 x)).toInt64) ∧ WVo N s' o' ∧ w1 = wD cy q N s' o' U' sU' oU' A' ++ oL cyl o g') := by
  refine CtLw.of (own := RL) (by decide) (Nat.le_of_ble_eq_true rfl) rfl (fun _ _ _ => rfl) ?_
  intro c X B ret
  refine Tlv (lv' := [(0, .ref (q 0)), (1, .int (enc (x))), (2, .ref (o))]) rfl ?_
  refine tw_aload_n X dL_dyeOf_0 2 rfl rfl ?_
  refine tw_iconst X dL_dyeOf_1 ?_
  refine tw_aload_n X dL_dyeOf_2 0 rfl rfl ?_
  refine tw_iload_n X dL_dyeOf_3 1 rfl rfl ?_
  refine tl_call X B (As := [.int (enc (x))]) (st := [.int (enc 0), .ref o]) vw_L_67 (m_X4_dyeOf (q := q) N sN oN U sU oU A x hx B0 hF hB2 hV) [] (oL cyl o g) rfl rfl (q0 := 0) rfl rfl rfl ⟨rfl, rfl, Nat.le_of_ble_eq_true rfl, Nat.le_of_ble_eq_true rfl⟩ ⟨Nat.le_of_ble_eq_true rfl, Nat.le_of_ble_eq_true rfl⟩ (Nat.le_of_ble_eq_true rfl) dL_dyeOf_4 (fun E w1 he => ?_) (fun v w1 hp => ?_)
  · obtain ⟨hxc, s1, o1, U1, sU1, oU1, A1, hV1, rfl⟩ := he
    obtain ⟨rfl, hk⟩ := hxc
    refine ⟨12, ⟨[], (0, 9, 12, 19), [], rfl, rfl, fun z hz => absurd hz List.not_mem_nil, ⟨by decide, by decide⟩, by decide, wc_L_19, List.mem_of_getElem? (i := 1) rfl⟩, fun r => ?_⟩
    refine Teq (ws' := wD cy q N s1 o1 U1 sU1 oU1 A1 ++ oL cyl o g) (lv' := [(0, .ref (q 0)), (1, .int (enc (x))), (2, .ref (o))]) (st' := [.ref r]) rfl rfl rfl ?_
    refine tw_astore_n (lv' := [(3, .ref (r)), (0, .ref (q 0)), (1, .int (enc (x))), (2, .ref (o))]) X dL_dyeOf_12 rfl (by decide) rfl ?_
    refine tw_iconst X dL_dyeOf_13 ?_
    refine Twiden (k' := 1) (n' := 6) (Nat.le_of_ble_eq_true rfl) (Nat.le_of_ble_eq_true rfl) ?_
    exact ret _ _ _ _ dL_dyeOf_14 ⟨by rw [hk], g, s1, o1, U1, sU1, oU1, A1, fun z => absurd z (by rw [hk]; decide), hV1, rfl⟩
  · obtain ⟨hk, rfl, s1, o1, U1, sU1, oU1, A1, hV1, rfl⟩ := hp
    refine Teq (ws' := wD cy q N s1 o1 U1 sU1 oU1 A1 ++ oL cyl o g) (lv' := [(0, .ref (q 0)), (1, .int (enc (x))), (2, .ref (o))]) (st' := [.int (enc (N 12 x)), .int (enc 0), .ref o]) rfl rfl rfl ?_
    refine tw_i2lr X dL_dyeOf_7 ?_
    refine tl_last X B (g := g) (ws' := wD cy q N s1 o1 U1 sU1 oU1 A1 ++ oL cyl o (vp_updL g 0 ((enc (N 12 x)).toInt64))) 45 rfl dL_dyeOf_8 rfl ?_
    refine tw_goto (tgt := 15) X dL_dyeOf_9 (by decide) ?_
    refine tw_iconst X dL_dyeOf_15 ?_
    refine Twiden (k' := 1) (n' := 6) (Nat.le_of_ble_eq_true rfl) (Nat.le_of_ble_eq_true rfl) ?_
    exact ret _ _ _ _ dL_dyeOf_16 ⟨by rw [hk], _, s1, o1, U1, sU1, oU1, A1, fun _ => rfl, hV1, rfl⟩
set_option maxRecDepth 100000 in
theorem xw_frayOf : XW 183 yL_frayOf cL_frayOf 4 [(0, 9, 12, 19)] 3 := ⟨wdm 656 (by decide +kernel) rfl, wdm 657 (by decide +kernel) rfl, wdm 658 rfl rfl, rfl, by decide +kernel⟩
set_option maxRecDepth 100000 in
set_option maxHeartbeats 4000000 in
theorem w_frayOf {G : va_G} {cy cyl : ClassId} {o : Nat} {g : Nat → Int64} {q : Nat → Nat} (N : MT) (sN : Int → Int) (oN : Int) (U : MT) (sU : Int → Int) (oU : Int) (A : Int → Int) (x : Int) (hx : In x) (B0 : Int) (hF : WF N B0) (hB2 : B0 ≤ 800000) (hV : WVo N sN oN) : CtLw G cy cyl yL_frayOf cL_frayOf 4 [(0, 9, 12, 19)] ({ frames := 8, cells := 1, slots := 6, locals := 132 } : Room) 1 6 [.ref (q 0), .int (enc (x)), .ref (o)] (wD cy q N sN oN U sU oU A ++ oL cyl o g) (fun v w1 => v = some (.int (enc (kT N x))) ∧ ∃ g' s' o' U' sU' oU' A', (kT N x = 0 → g' 0 = (enc (frayAt N x (N 20 0))).toInt64) ∧ WVo N s' o' ∧ w1 = wD cy q N s' o' U' sU' oU' A' ++ oL cyl o g') := by
  refine CtLw.of (own := RL) (by decide) (Nat.le_of_ble_eq_true rfl) rfl (fun _ _ _ => rfl) ?_
  intro c X B ret
  refine Tlv (lv' := [(0, .ref (q 0)), (1, .int (enc (x))), (2, .ref (o))]) rfl ?_
  refine tw_aload_n X dL_frayOf_0 2 rfl rfl ?_
  refine tw_iconst X dL_frayOf_1 ?_
  refine tw_aload_n X dL_frayOf_2 0 rfl rfl ?_
  refine tw_iload_n X dL_frayOf_3 1 rfl rfl ?_
  refine tl_call X B (As := [.int (enc (x))]) (st := [.int (enc 0), .ref o]) vw_L_70 (m_X4_frayOf (q := q) N sN oN U sU oU A x hx B0 hF hB2 hV) [] (oL cyl o g) rfl rfl (q0 := 0) rfl rfl rfl ⟨rfl, rfl, Nat.le_of_ble_eq_true rfl, Nat.le_of_ble_eq_true rfl⟩ ⟨Nat.le_of_ble_eq_true rfl, Nat.le_of_ble_eq_true rfl⟩ (Nat.le_of_ble_eq_true rfl) dL_frayOf_4 (fun E w1 he => ?_) (fun v w1 hp => ?_)
  · obtain ⟨hxc, s1, o1, U1, sU1, oU1, A1, hV1, rfl⟩ := he
    obtain ⟨rfl, hk⟩ := hxc
    refine ⟨12, ⟨[], (0, 9, 12, 19), [], rfl, rfl, fun z hz => absurd hz List.not_mem_nil, ⟨by decide, by decide⟩, by decide, wc_L_19, List.mem_of_getElem? (i := 1) rfl⟩, fun r => ?_⟩
    refine Teq (ws' := wD cy q N s1 o1 U1 sU1 oU1 A1 ++ oL cyl o g) (lv' := [(0, .ref (q 0)), (1, .int (enc (x))), (2, .ref (o))]) (st' := [.ref r]) rfl rfl rfl ?_
    refine tw_astore_n (lv' := [(3, .ref (r)), (0, .ref (q 0)), (1, .int (enc (x))), (2, .ref (o))]) X dL_frayOf_12 rfl (by decide) rfl ?_
    refine tw_iconst X dL_frayOf_13 ?_
    refine Twiden (k' := 1) (n' := 6) (Nat.le_of_ble_eq_true rfl) (Nat.le_of_ble_eq_true rfl) ?_
    exact ret _ _ _ _ dL_frayOf_14 ⟨by rw [hk], g, s1, o1, U1, sU1, oU1, A1, fun z => absurd z (by rw [hk]; decide), hV1, rfl⟩
  · obtain ⟨hk, rfl, s1, o1, U1, sU1, oU1, A1, hV1, rfl⟩ := hp
    refine Teq (ws' := wD cy q N s1 o1 U1 sU1 oU1 A1 ++ oL cyl o g) (lv' := [(0, .ref (q 0)), (1, .int (enc (x))), (2, .ref (o))]) (st' := [.int (enc (frayAt N x (N 20 0))), .int (enc 0), .ref o]) rfl rfl rfl ?_
    refine tw_i2lr X dL_frayOf_7 ?_
    refine tl_last X B (g := g) (ws' := wD cy q N s1 o1 U1 sU1 oU1 A1 ++ oL cyl o (vp_updL g 0 ((enc (frayAt N x (N 20 0))).toInt64))) 45 rfl dL_frayOf_8 rfl ?_
    refine tw_goto (tgt := 15) X dL_frayOf_9 (by decide) ?_
    refine tw_iconst X dL_frayOf_15 ?_
    refine Twiden (k' := 1) (n' := 6) (Nat.le_of_ble_eq_true rfl) (Nat.le_of_ble_eq_true rfl) ?_
    exact ret _ _ _ _ dL_frayOf_16 ⟨by rw [hk], _, s1, o1, U1, sU1, oU1, A1, fun _ => rfl, hV1, rfl⟩
set_option maxRecDepth 100000 in
theorem xw_hasArrived : XW 186 yL_hasArrived cL_hasArrived 4 [(0, 16, 19, 19)] 3 := ⟨wdm 663 (by decide +kernel) rfl, wdm 664 (by decide +kernel) rfl, wdm 665 rfl rfl, rfl, by decide +kernel⟩
set_option maxRecDepth 100000 in
set_option maxHeartbeats 4000000 in
theorem w_hasArrived {G : va_G} {cy cyl : ClassId} {o : Nat} {g : Nat → Int64} {q : Nat → Nat} (N : MT) (sN : Int → Int) (oN : Int) (U : MT) (sU : Int → Int) (oU : Int) (A : Int → Int) (x : Int) (hx : In x) (B0 : Int) (hF : WF N B0) (hB2 : B0 ≤ 800000) (hV : WVo N sN oN) : CtLw G cy cyl yL_hasArrived cL_hasArrived 4 [(0, 16, 19, 19)] ({ frames := 8, cells := 1, slots := 6, locals := 132 } : Room) 1 6 [.ref (q 0), .int (enc (x)), .ref (o)] (wD cy q N sN oN U sU oU A ++ oL cyl o g) (fun v w1 => v = some (.int (enc (kT N x))) ∧ ∃ g' s' o' U' sU' oU' A', (kT N x = 0 → g' 0 = (if 0 ≤ N 15 x then (1 : Int64) else 0)) ∧ WVo N s' o' ∧ w1 = wD cy q N s' o' U' sU' oU' A' ++ oL cyl o g') := by
  refine CtLw.of (own := RL) (by decide) (Nat.le_of_ble_eq_true rfl) rfl (fun _ _ _ => rfl) ?_
  intro c X B ret
  refine Tlv (lv' := [(0, .ref (q 0)), (1, .int (enc (x))), (2, .ref (o))]) rfl ?_
  refine tw_aload_n X dL_hasArrived_0 2 rfl rfl ?_
  refine tw_iconst X dL_hasArrived_1 ?_
  refine tw_aload_n X dL_hasArrived_2 0 rfl rfl ?_
  refine tw_iload_n X dL_hasArrived_3 1 rfl rfl ?_
  refine tl_call X B (As := [.int (enc (x))]) (st := [.int (enc 0), .ref o]) vw_L_73 (m_X4_hasArrived (q := q) N sN oN U sU oU A x hx B0 hF hB2 hV) [] (oL cyl o g) rfl rfl (q0 := 0) rfl rfl rfl ⟨rfl, rfl, Nat.le_of_ble_eq_true rfl, Nat.le_of_ble_eq_true rfl⟩ ⟨Nat.le_of_ble_eq_true rfl, Nat.le_of_ble_eq_true rfl⟩ (Nat.le_of_ble_eq_true rfl) dL_hasArrived_4 (fun E w1 he => ?_) (fun v w1 hp => ?_)
  · obtain ⟨hxc, s1, o1, U1, sU1, oU1, A1, hV1, rfl⟩ := he
    obtain ⟨rfl, hk⟩ := hxc
    refine ⟨19, ⟨[], (0, 16, 19, 19), [], rfl, rfl, fun z hz => absurd hz List.not_mem_nil, ⟨by decide, by decide⟩, by decide, wc_L_19, List.mem_of_getElem? (i := 1) rfl⟩, fun r => ?_⟩
    refine Teq (ws' := wD cy q N s1 o1 U1 sU1 oU1 A1 ++ oL cyl o g) (lv' := [(0, .ref (q 0)), (1, .int (enc (x))), (2, .ref (o))]) (st' := [.ref r]) rfl rfl rfl ?_
    refine tw_astore_n (lv' := [(3, .ref (r)), (0, .ref (q 0)), (1, .int (enc (x))), (2, .ref (o))]) X dL_hasArrived_19 rfl (by decide) rfl ?_
    refine tw_iconst X dL_hasArrived_20 ?_
    refine Twiden (k' := 1) (n' := 6) (Nat.le_of_ble_eq_true rfl) (Nat.le_of_ble_eq_true rfl) ?_
    exact ret _ _ _ _ dL_hasArrived_21 ⟨by rw [hk], g, s1, o1, U1, sU1, oU1, A1, fun z => absurd z (by rw [hk]; decide), hV1, rfl⟩
  · obtain ⟨hk, rfl, s1, o1, U1, sU1, oU1, A1, hV1, rfl⟩ := hp
    refine Teq (ws' := wD cy q N s1 o1 U1 sU1 oU1 A1 ++ oL cyl o g) (lv' := [(0, .ref (q 0)), (1, .int (enc (x))), (2, .ref (o))]) (st' := [.int (enc (if 0 ≤ N 15 x then 1 else 0)), .int (enc 0), .ref o]) rfl rfl rfl ?_
    refine tw_if_eq (tgt := 14) X In_b dL_hasArrived_7 (by decide) (fun cb => ?_) (fun cb => ?_)
    · have cb := b01.mp cb
      refine tw_lconst (v := 0) X dL_hasArrived_14 rfl ?_
      refine tl_last X B (g := g) (ws' := wD cy q N s1 o1 U1 sU1 oU1 A1 ++ oL cyl o (vp_updL g 0 ((0 : Int64)))) 45 rfl dL_hasArrived_15 rfl ?_
      refine tw_goto (tgt := 22) X dL_hasArrived_16 (by decide) ?_
      refine tw_iconst X dL_hasArrived_22 ?_
      refine Twiden (k' := 1) (n' := 6) (Nat.le_of_ble_eq_true rfl) (Nat.le_of_ble_eq_true rfl) ?_
      exact ret _ _ _ _ dL_hasArrived_23 ⟨by rw [hk], _, s1, o1, U1, sU1, oU1, A1, fun _ => by first | (rw [if_pos cb]; rfl) | (rw [if_neg cb]; rfl), hV1, rfl⟩
    · have cb := b01n.mp cb
      refine tw_lconst (v := 1) X dL_hasArrived_10 rfl ?_
      refine tw_goto (tgt := 15) X dL_hasArrived_11 (by decide) ?_
      refine tl_last X B (g := g) (ws' := wD cy q N s1 o1 U1 sU1 oU1 A1 ++ oL cyl o (vp_updL g 0 ((1 : Int64)))) 45 rfl dL_hasArrived_15 rfl ?_
      refine tw_goto (tgt := 22) X dL_hasArrived_16 (by decide) ?_
      refine tw_iconst X dL_hasArrived_22 ?_
      refine Twiden (k' := 1) (n' := 6) (Nat.le_of_ble_eq_true rfl) (Nat.le_of_ble_eq_true rfl) ?_
      exact ret _ _ _ _ dL_hasArrived_23 ⟨by rw [hk], _, s1, o1, U1, sU1, oU1, A1, fun _ => by first | (rw [if_pos cb]; rfl) | (rw [if_neg cb]; rfl), hV1, rfl⟩
set_option maxRecDepth 100000 in
theorem xw_hoursUntilArrived : XW 189 yL_hoursUntilArrived cL_hoursUntilArrived 4 [(0, 9, 12, 19)] 3 := ⟨wdm 670 (by decide +kernel) rfl, wdm 671 (by decide +kernel) rfl, wdm 672 rfl rfl, rfl, by decide +kernel⟩
set_option maxRecDepth 100000 in
set_option maxHeartbeats 4000000 in
theorem w_hoursUntilArrived {G : va_G} {cy cyl : ClassId} {o : Nat} {g : Nat → Int64} {q : Nat → Nat} (N : MT) (sN : Int → Int) (oN : Int) (U : MT) (sU : Int → Int) (oU : Int) (A : Int → Int) (x : Int) (hx : In x) (B0 : Int) (hF : WF N B0) (hB2 : B0 ≤ 800000) (hV : WVo N sN oN) : CtLw G cy cyl yL_hoursUntilArrived cL_hoursUntilArrived 4 [(0, 9, 12, 19)] ({ frames := 8, cells := 1, slots := 6, locals := 137 } : Room) 1 6 [.ref (q 0), .int (enc (x)), .ref (o)] (wD cy q N sN oN U sU oU A ++ oL cyl o g) (fun v w1 => v = some (.int (enc (kT N x))) ∧ ∃ g' s' o' U' sU' oU' A', (kT N x = 0 → g' 0 = (enc (untilM N x)).toInt64) ∧ WVo N s' o' ∧ w1 = wD cy q N s' o' U' sU' oU' A' ++ oL cyl o g') := by
  refine CtLw.of (own := RL) (by decide) (Nat.le_of_ble_eq_true rfl) rfl (fun _ _ _ => rfl) ?_
  intro c X B ret
  refine Tlv (lv' := [(0, .ref (q 0)), (1, .int (enc (x))), (2, .ref (o))]) rfl ?_
  refine tw_aload_n X dL_hoursUntilArrived_0 2 rfl rfl ?_
  refine tw_iconst X dL_hoursUntilArrived_1 ?_
  refine tw_aload_n X dL_hoursUntilArrived_2 0 rfl rfl ?_
  refine tw_iload_n X dL_hoursUntilArrived_3 1 rfl rfl ?_
  refine tl_call X B (As := [.int (enc (x))]) (st := [.int (enc 0), .ref o]) vw_L_77 (m_X4_hoursUntilArrived (q := q) N sN oN U sU oU A x hx B0 hF hB2 hV) [] (oL cyl o g) rfl rfl (q0 := 0) rfl rfl rfl ⟨rfl, rfl, Nat.le_of_ble_eq_true rfl, Nat.le_of_ble_eq_true rfl⟩ ⟨Nat.le_of_ble_eq_true rfl, Nat.le_of_ble_eq_true rfl⟩ (Nat.le_of_ble_eq_true rfl) dL_hoursUntilArrived_4 (fun E w1 he => ?_) (fun v w1 hp => ?_)
  · obtain ⟨hxc, s1, o1, U1, sU1, oU1, A1, hV1, rfl⟩ := he
    obtain ⟨rfl, hk⟩ := hxc
    refine ⟨12, ⟨[], (0, 9, 12, 19), [], rfl, rfl, fun z hz => absurd hz List.not_mem_nil, ⟨by decide, by decide⟩, by decide, wc_L_19, List.mem_of_getElem? (i := 1) rfl⟩, fun r => ?_⟩
    refine Teq (ws' := wD cy q N s1 o1 U1 sU1 oU1 A1 ++ oL cyl o g) (lv' := [(0, .ref (q 0)), (1, .int (enc (x))), (2, .ref (o))]) (st' := [.ref r]) rfl rfl rfl ?_
    refine tw_astore_n (lv' := [(3, .ref (r)), (0, .ref (q 0)), (1, .int (enc (x))), (2, .ref (o))]) X dL_hoursUntilArrived_12 rfl (by decide) rfl ?_
    refine tw_iconst X dL_hoursUntilArrived_13 ?_
    refine Twiden (k' := 1) (n' := 6) (Nat.le_of_ble_eq_true rfl) (Nat.le_of_ble_eq_true rfl) ?_
    exact ret _ _ _ _ dL_hoursUntilArrived_14 ⟨by rw [hk], g, s1, o1, U1, sU1, oU1, A1, fun z => absurd z (by rw [hk]; decide), hV1, rfl⟩
  · obtain ⟨hk, rfl, s1, o1, U1, sU1, oU1, A1, hV1, rfl⟩ := hp
    refine Teq (ws' := wD cy q N s1 o1 U1 sU1 oU1 A1 ++ oL cyl o g) (lv' := [(0, .ref (q 0)), (1, .int (enc (x))), (2, .ref (o))]) (st' := [.int (enc (untilM N x)), .int (enc 0), .ref o]) rfl rfl rfl ?_
    refine tw_i2lr X dL_hoursUntilArrived_7 ?_
    refine tl_last X B (g := g) (ws' := wD cy q N s1 o1 U1 sU1 oU1 A1 ++ oL cyl o (vp_updL g 0 ((enc (untilM N x)).toInt64))) 45 rfl dL_hoursUntilArrived_8 rfl ?_
    refine tw_goto (tgt := 15) X dL_hoursUntilArrived_9 (by decide) ?_
    refine tw_iconst X dL_hoursUntilArrived_15 ?_
    refine Twiden (k' := 1) (n' := 6) (Nat.le_of_ble_eq_true rfl) (Nat.le_of_ble_eq_true rfl) ?_
    exact ret _ _ _ _ dL_hoursUntilArrived_16 ⟨by rw [hk], _, s1, o1, U1, sU1, oU1, A1, fun _ => rfl, hV1, rfl⟩
set_option maxRecDepth 100000 in
theorem xw_frayedIn : XW 192 yL_frayedIn cL_frayedIn 4 [(0, 9, 12, 21)] 3 := ⟨wdm 677 (by decide +kernel) rfl, wdm 678 (by decide +kernel) rfl, wdm 679 rfl rfl, rfl, by decide +kernel⟩
set_option maxRecDepth 100000 in
set_option maxHeartbeats 4000000 in
theorem w_frayedIn {G : va_G} {cy cyl : ClassId} {o : Nat} {g : Nat → Int64} {q : Nat → Nat} (N : MT) (sN : Int → Int) (oN : Int) (U : MT) (sU : Int → Int) (oU : Int) (A : Int → Int) (x : Int) (hx : In x) (B0 : Int) (hF : WF N B0) (hB2 : B0 ≤ 800000) (hV : WVo N sN oN) : CtLw G cy cyl yL_frayedIn cL_frayedIn 4 [(0, 9, 12, 21)] ({ frames := 8, cells := 1, slots := 6, locals := 137 } : Room) 1 6 [.ref (q 0), .int (enc (x)), .ref (o)] (wD cy q N sN oN U sU oU A ++ oL cyl o g) (fun v w1 => v = some (.int (enc (kP x))) ∧ ∃ g' s' o' U' sU' oU' A', (kP x = 0 → g' 0 = (enc (foreI N x.toNat)).toInt64) ∧ WVo N s' o' ∧ w1 = wD cy q N s' o' U' sU' oU' A' ++ oL cyl o g') := by
  refine CtLw.of (own := RL) (by decide) (Nat.le_of_ble_eq_true rfl) rfl (fun _ _ _ => rfl) ?_
  intro c X B ret
  refine Tlv (lv' := [(0, .ref (q 0)), (1, .int (enc (x))), (2, .ref (o))]) rfl ?_
  refine tw_aload_n X dL_frayedIn_0 2 rfl rfl ?_
  refine tw_iconst X dL_frayedIn_1 ?_
  refine tw_aload_n X dL_frayedIn_2 0 rfl rfl ?_
  refine tw_iload_n X dL_frayedIn_3 1 rfl rfl ?_
  refine tl_call X B (As := [.int (enc (x))]) (st := [.int (enc 0), .ref o]) vw_L_80 (m_X4_frayedIn (q := q) N sN oN U sU oU A x hx B0 hF hB2 hV) [] (oL cyl o g) rfl rfl (q0 := 0) rfl rfl rfl ⟨rfl, rfl, Nat.le_of_ble_eq_true rfl, Nat.le_of_ble_eq_true rfl⟩ ⟨Nat.le_of_ble_eq_true rfl, Nat.le_of_ble_eq_true rfl⟩ (Nat.le_of_ble_eq_true rfl) dL_frayedIn_4 (fun E w1 he => ?_) (fun v w1 hp => ?_)
  · obtain ⟨hxc, s1, o1, U1, sU1, oU1, A1, hV1, rfl⟩ := he
    obtain ⟨rfl, hk⟩ := hxc
    refine ⟨12, ⟨[], (0, 9, 12, 21), [], rfl, rfl, fun z hz => absurd hz List.not_mem_nil, ⟨by decide, by decide⟩, by decide, wc_L_21, List.mem_of_getElem? (i := 2) rfl⟩, fun r => ?_⟩
    refine Teq (ws' := wD cy q N s1 o1 U1 sU1 oU1 A1 ++ oL cyl o g) (lv' := [(0, .ref (q 0)), (1, .int (enc (x))), (2, .ref (o))]) (st' := [.ref r]) rfl rfl rfl ?_
    refine tw_astore_n (lv' := [(3, .ref (r)), (0, .ref (q 0)), (1, .int (enc (x))), (2, .ref (o))]) X dL_frayedIn_12 rfl (by decide) rfl ?_
    refine tw_iconst X dL_frayedIn_13 ?_
    refine Twiden (k' := 1) (n' := 6) (Nat.le_of_ble_eq_true rfl) (Nat.le_of_ble_eq_true rfl) ?_
    exact ret _ _ _ _ dL_frayedIn_14 ⟨by rw [hk], g, s1, o1, U1, sU1, oU1, A1, fun z => absurd z (by rw [hk]; decide), hV1, rfl⟩
  · obtain ⟨hk, rfl, s1, o1, U1, sU1, oU1, A1, hV1, rfl⟩ := hp
    refine Teq (ws' := wD cy q N s1 o1 U1 sU1 oU1 A1 ++ oL cyl o g) (lv' := [(0, .ref (q 0)), (1, .int (enc (x))), (2, .ref (o))]) (st' := [.int (enc (foreI N x.toNat)), .int (enc 0), .ref o]) rfl rfl rfl ?_
    refine tw_i2lr X dL_frayedIn_7 ?_
    refine tl_last X B (g := g) (ws' := wD cy q N s1 o1 U1 sU1 oU1 A1 ++ oL cyl o (vp_updL g 0 ((enc (foreI N x.toNat)).toInt64))) 45 rfl dL_frayedIn_8 rfl ?_
    refine tw_goto (tgt := 15) X dL_frayedIn_9 (by decide) ?_
    refine tw_iconst X dL_frayedIn_15 ?_
    refine Twiden (k' := 1) (n' := 6) (Nat.le_of_ble_eq_true rfl) (Nat.le_of_ble_eq_true rfl) ?_
    exact ret _ _ _ _ dL_frayedIn_16 ⟨by rw [hk], _, s1, o1, U1, sU1, oU1, A1, fun _ => rfl, hV1, rfl⟩
