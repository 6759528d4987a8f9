/-! THE LAW'S CASES: each goes on to 1636, and the numbers are the same on both sides -/
set_option maxRecDepth 100000 in
set_option maxHeartbeats 4000000 in
theorem lc_0 {G : va_G} {cy cyl : ClassId} {c : Cx} {b L : Nat} {xs : Nat → Int32} {hh : List (Nat × Nat × Nat × Nat)} {q q2 : Nat → Nat} {o : Nat} {g : Nat → Int64} (X : Ok G cy c cL_law RL 9 room_1) (B : LB G cyl c hh) (hS9 : SX c b L xs) (hL : L ≤ 2560) (N : MT) (sN : Int → Int) (oN : Int) (U : MT) (sU : Int → Int) (oU : Int) (A : Int → Int) (th : Int) (kept far : Int → Int) (B0 : Int) (hF : WF N B0) (hB2 : B0 ≤ 800000) (hV : WVo N sN oN) (j : Nat) (hj : 5 * (j : Int) + 5 ≤ L) (kk : ∀ (N' : MT) (s' : Int → Int) (o' : Int) (U' : MT) (sU' : Int → Int) (oU' : Int) (A' : Int → Int) (g' : Nat → Int64) (th' : Int) (k' f' : Int → Int) (k9 n9 : Nat), k9 ≤ 140 + 40 * j → n9 ≤ 1650 + 250 * j → WF N' (B0 + 1300) → WVo N' s' o' → T G c room_1 9 k9 n9 ((wD cy q N' s' o' U' sU' oU' A' ++ oL cyl o g') ++ wP cy q2 N' th' k' f') 1636 [(0, .ref (b)), (1, .ref (q 0)), (2, .ref (q2 0)), (3, .ref (o)), (4, .int (enc (5 * (j : Int))))] []) : T G c room_1 9 (100 + 40 * j) (1400 + 250 * j) ((wD cy q N sN oN U sU oU A ++ oL cyl o g) ++ wP cy q2 N th kept far) 184 [(0, .ref (b)), (1, .ref (q 0)), (2, .ref (q2 0)), (3, .ref (o)), (4, .int (enc (5 * (j : Int))))] [] := by
  have hB := hF.bd (by omega)
  obtain ⟨w0, w1, w2, w3, w4⟩ := id hF.r
  have h17 := hF.2.2.2.2.2.1
  have h172 := hF.2.2.2.2.2.2.1
  refine tw_aload_n X dL_law_184 1 rfl rfl ?_
  refine tw_aload_n X dL_law_185 3 rfl rfl ?_
  refine tl_callW X B (As := [.ref (q 0), .ref (o)]) (st := []) rfl xw_addCrossing (w_addCrossing (q := q) (o := o) (g := g) N sN oN U sU oU A   B0 hF hB2 hV) [] (wP cy q2 N th kept far) rfl rfl rfl ⟨rfl, rfl, Nat.le_of_ble_eq_true rfl, Nat.le_of_ble_eq_true rfl⟩ ⟨(show 100 + 40 * j + 1 ≤ 601024 by omega), (show 1400 + 250 * j + 6 ≤ 7293034 by omega)⟩ (Nat.le_of_ble_eq_true rfl) dL_law_186 (fun v w1 hp => ?_)
  obtain ⟨rfl, g1, s1, o1, U1, sU1, oU1, A1, hg1, hV1, rfl⟩ := hp
  refine Teq (ws' := (wD cy q ((if kAC N = 0 then upc N 19 (N 19 0 + 1) else N)) s1 o1 U1 sU1 oU1 A1 ++ oL cyl o g1) ++ wP cy q2 N th kept far) (lv' := [(0, .ref (b)), (1, .ref (q 0)), (2, .ref (q2 0)), (3, .ref (o)), (4, .int (enc (5 * (j : Int))))]) (st' := [.int (enc (kAC N))]) rfl rfl rfl ?_
  refine tw_istore (lv' := [(5, .int (enc (kAC N))), (0, .ref (b)), (1, .ref (q 0)), (2, .ref (q2 0)), (3, .ref (o)), (4, .int (enc (5 * (j : Int))))]) X dL_law_189 (by decide) rfl ?_
  refine tw_aload_n X dL_law_191 3 rfl rfl ?_
  refine tw_callV X (As := []) (st := []) vw_L_92 (m_X5_addCrossing (q := q2) N th kept far   B0 hF hB2) (wD cy q ((if kAC N = 0 then upc N 19 (N 19 0 + 1) else N)) s1 o1 U1 sU1 oU1 A1 ++ oL cyl o g1) [] rfl rfl (q0 := 0) rfl rfl rfl ⟨rfl, rfl, Nat.le_of_ble_eq_true rfl, Nat.le_of_ble_eq_true rfl⟩ ⟨(show 100 + 40 * j + 1 + 0 ≤ 601024 by omega), (show 1400 + 250 * j + 6 + 0 ≤ 7293034 by omega)⟩ (Nat.le_of_ble_eq_true rfl) dL_law_192 (fun v w1 hp => ?_)
  obtain ⟨rfl, k2, f2, rfl⟩ := hp
  refine Teq (ws' := (wD cy q ((if kAC N = 0 then upc N 19 (N 19 0 + 1) else N)) s1 o1 U1 sU1 oU1 A1 ++ oL cyl o g1) ++ wP cy q2 ((if kAC N = 0 then upc N 19 (N 19 0 + 1) else N)) (kAC N) k2 f2) (lv' := [(5, .int (enc (kAC N))), (0, .ref (b)), (1, .ref (q 0)), (2, .ref (q2 0)), (3, .ref (o)), (4, .int (enc (5 * (j : Int))))]) (st' := [.int (enc (if kAC N = 0 then N 19 0 else 0))]) rfl rfl rfl ?_
  refine tw_istore (lv' := [(6, .int (enc (if kAC N = 0 then N 19 0 else 0))), (5, .int (enc (kAC N))), (0, .ref (b)), (1, .ref (q 0)), (2, .ref (q2 0)), (3, .ref (o)), (4, .int (enc (5 * (j : Int))))]) X dL_law_195 (by decide) rfl ?_
  refine tw_aload_n X dL_law_197 4 rfl rfl ?_
  refine tw_callV X (As := []) (st := []) vw_L_93 (m_X5_thrown (q := q2) ((if kAC N = 0 then upc N 19 (N 19 0 + 1) else N)) (kAC N) k2 f2) (wD cy q ((if kAC N = 0 then upc N 19 (N 19 0 + 1) else N)) s1 o1 U1 sU1 oU1 A1 ++ oL cyl o g1) [] rfl rfl (q0 := 0) rfl rfl rfl ⟨rfl, rfl, Nat.le_of_ble_eq_true rfl, Nat.le_of_ble_eq_true rfl⟩ ⟨(show 100 + 40 * j + 1 + 0 + 0 ≤ 601024 by omega), (show 1400 + 250 * j + 6 + 0 + 0 ≤ 7293034 by omega)⟩ (Nat.le_of_ble_eq_true rfl) dL_law_198 (fun v w1 hp => ?_)
  obtain ⟨rfl, rfl⟩ := hp
  refine Teq (ws' := (wD cy q ((if kAC N = 0 then upc N 19 (N 19 0 + 1) else N)) s1 o1 U1 sU1 oU1 A1 ++ oL cyl o g1) ++ wP cy q2 ((if kAC N = 0 then upc N 19 (N 19 0 + 1) else N)) (kAC N) k2 f2) (lv' := [(6, .int (enc (if kAC N = 0 then N 19 0 else 0))), (5, .int (enc (kAC N))), (0, .ref (b)), (1, .ref (q 0)), (2, .ref (q2 0)), (3, .ref (o)), (4, .int (enc (5 * (j : Int))))]) (st' := [.int (enc (kAC N))]) rfl rfl rfl ?_
  refine tw_iload X dL_law_201 1 rfl ?_
  refine tw_icmp_eq (tgt := 208) X (In_kAC _) (In_kAC _) dL_law_203 (by decide) (fun _ => ?_) (fun z => absurd rfl z)
  refine tw_iload X dL_law_208 1 rfl ?_
  refine tw_if_ne (tgt := 225) X (In_kAC _) dL_law_210 (by decide) (fun _ => ?_) (fun hk => ?_)
  · skip
    refine tw_goto (tgt := 1636) X dL_law_225 (by decide) ?_
    refine Tsub (lv' := [(0, .ref (b)), (1, .ref (q 0)), (2, .ref (q2 0)), (3, .ref (o)), (4, .int (enc (5 * (j : Int))))]) [2, 3, 4, 5, 6] rfl ?_
    exact kk ((if kAC N = 0 then upc N 19 (N 19 0 + 1) else N)) s1 o1 U1 sU1 oU1 A1 g1 (kAC N) k2 f2 _ _ (show 100 + 40 * j + 1 + 0 + 0 ≤ _ by omega) (show 1400 + 250 * j + 6 + 0 + 0 ≤ _ by omega) (wf_AC hF) (hV1)
  · skip
    refine tw_aload_n X dL_law_213 5 rfl rfl ?_
    refine tw_iconst X dL_law_214 ?_
    refine tl_lald X B (g := g1) 45 rfl dL_law_215 ?_
    refine tw_iload X dL_law_216 0 rfl ?_
    refine tw_i2lr X dL_law_218 ?_
    refine tw_lcmp X dL_law_219 ?_
    refine Tst (st' := [.int (enc 0)]) (by rw [hg1 hk, if_pos hk, lg_self]) ?_
    refine tw_if_eq (tgt := 225) X In0 dL_law_220 (by decide) (fun _ => ?_) (fun z => absurd rfl z)
    refine tw_goto (tgt := 1636) X dL_law_225 (by decide) ?_
    refine Tsub (lv' := [(0, .ref (b)), (1, .ref (q 0)), (2, .ref (q2 0)), (3, .ref (o)), (4, .int (enc (5 * (j : Int))))]) [2, 3, 4, 5, 6] rfl ?_
    exact kk ((if kAC N = 0 then upc N 19 (N 19 0 + 1) else N)) s1 o1 U1 sU1 oU1 A1 g1 (kAC N) k2 f2 _ _ (show 100 + 40 * j + 1 + 0 + 0 ≤ _ by omega) (show 1400 + 250 * j + 6 + 0 + 0 ≤ _ by omega) (wf_AC hF) (hV1)
set_option maxRecDepth 100000 in
set_option maxHeartbeats 4000000 in
theorem lc_1 {G : va_G} {cy cyl : ClassId} {c : Cx} {b L : Nat} {xs : Nat → Int32} {hh : List (Nat × Nat × Nat × Nat)} {q q2 : Nat → Nat} {o : Nat} {g : Nat → Int64} (X : Ok G cy c cL_law RL 9 room_1) (B : LB G cyl c hh) (hS9 : SX c b L xs) (hL : L ≤ 2560) (N : MT) (sN : Int → Int) (oN : Int) (U : MT) (sU : Int → Int) (oU : Int) (A : Int → Int) (th : Int) (kept far : Int → Int) (B0 : Int) (hF : WF N B0) (hB2 : B0 ≤ 800000) (hV : WVo N sN oN) (j : Nat) (hj : 5 * (j : Int) + 5 ≤ L) (kk : ∀ (N' : MT) (s' : Int → Int) (o' : Int) (U' : MT) (sU' : Int → Int) (oU' : Int) (A' : Int → Int) (g' : Nat → Int64) (th' : Int) (k' f' : Int → Int) (k9 n9 : Nat), k9 ≤ 140 + 40 * j → n9 ≤ 1650 + 250 * j → WF N' (B0 + 1300) → WVo N' s' o' → T G c room_1 9 k9 n9 ((wD cy q N' s' o' U' sU' oU' A' ++ oL cyl o g') ++ wP cy q2 N' th' k' f') 1636 [(0, .ref (b)), (1, .ref (q 0)), (2, .ref (q2 0)), (3, .ref (o)), (4, .int (enc (5 * (j : Int))))] []) : T G c room_1 9 (100 + 40 * j) (1400 + 250 * j) ((wD cy q N sN oN U sU oU A ++ oL cyl o g) ++ wP cy q2 N th kept far) 228 [(0, .ref (b)), (1, .ref (q 0)), (2, .ref (q2 0)), (3, .ref (o)), (4, .int (enc (5 * (j : Int))))] [] := by
  have hB := hF.bd (by omega)
  obtain ⟨w0, w1, w2, w3, w4⟩ := id hF.r
  have h17 := hF.2.2.2.2.2.1
  have h172 := hF.2.2.2.2.2.2.1
  obtain ⟨x, hx, ex⟩ : ∃ x : Int, In x ∧ (xs (5 * (j : Int) + 1).toNat).toInt = x := ⟨_, In_i32 _, rfl⟩
  obtain ⟨y, hy, ey⟩ : ∃ y : Int, In y ∧ (xs (5 * (j : Int) + 2).toNat).toInt = y := ⟨_, In_i32 _, rfl⟩
  obtain ⟨z, hz, ez⟩ : ∃ z : Int, In z ∧ (xs (5 * (j : Int) + 3).toNat).toInt = z := ⟨_, In_i32 _, rfl⟩
  obtain ⟨u, hu, eu⟩ : ∃ u : Int, In u ∧ (xs (5 * (j : Int) + 4).toNat).toInt = u := ⟨_, In_i32 _, rfl⟩
  refine tw_aload_n X dL_law_228 1 rfl rfl ?_
  refine tw_aload_n X dL_law_229 0 rfl rfl ?_
  refine tw_iload X dL_law_230 4 rfl ?_
  refine tw_iconst X dL_law_232 ?_
  refine tw_iadd (z := 5 * (j : Int) + 1) X dL_law_233 rfl ?_
  refine tl_sld X hS9 hL (z := 5 * (j : Int) + 1) (by omega) dL_law_234 ?_
  refine Tst (st' := [.int (enc (x)), .ref (q 0)]) (by rw [ex]) ?_
  refine tw_aload_n X dL_law_235 0 rfl rfl ?_
  refine tw_iload X dL_law_236 4 rfl ?_
  refine tw_iconst X dL_law_238 ?_
  refine tw_iadd (z := 5 * (j : Int) + 2) X dL_law_239 rfl ?_
  refine tl_sld X hS9 hL (z := 5 * (j : Int) + 2) (by omega) dL_law_240 ?_
  refine Tst (st' := [.int (enc (y)), .int (enc (x)), .ref (q 0)]) (by rw [ey]) ?_
  refine tw_aload_n X dL_law_241 0 rfl rfl ?_
  refine tw_iload X dL_law_242 4 rfl ?_
  refine tw_iconst X dL_law_244 ?_
  refine tw_iadd (z := 5 * (j : Int) + 3) X dL_law_245 rfl ?_
  refine tl_sld X hS9 hL (z := 5 * (j : Int) + 3) (by omega) dL_law_246 ?_
  refine Tst (st' := [.int (enc (z)), .int (enc (y)), .int (enc (x)), .ref (q 0)]) (by rw [ez]) ?_
  refine tw_aload_n X dL_law_247 0 rfl rfl ?_
  refine tw_iload X dL_law_248 4 rfl ?_
  refine tw_iconst X dL_law_250 ?_
  refine tw_iadd (z := 5 * (j : Int) + 4) X dL_law_251 rfl ?_
  refine tl_sld X hS9 hL (z := 5 * (j : Int) + 4) (by omega) dL_law_252 ?_
  refine Tst (st' := [.int (enc (u)), .int (enc (z)), .int (enc (y)), .int (enc (x)), .ref (q 0)]) (by rw [eu]) ?_
  refine tw_aload_n X dL_law_253 3 rfl rfl ?_
  refine tl_callW X B (As := [.ref (q 0), .int (enc (x)), .int (enc (y)), .int (enc (z)), .int (enc (u)), .ref (o)]) (st := []) rfl xw_addRoad (w_addRoad (q := q) (o := o) (g := g) N sN oN U sU oU A x y z u hx hy hz hu B0 hF hB2 hV) [] (wP cy q2 N th kept far) rfl rfl rfl ⟨rfl, rfl, Nat.le_of_ble_eq_true rfl, Nat.le_of_ble_eq_true rfl⟩ ⟨(show 100 + 40 * j + 3 ≤ 601024 by omega), (show 1400 + 250 * j + 18 ≤ 7293034 by omega)⟩ (Nat.le_of_ble_eq_true rfl) dL_law_254 (fun v w1 hp => ?_)
  obtain ⟨rfl, g1, s1, o1, U1, sU1, oU1, A1, hg1, hV1, rfl⟩ := hp
  refine Teq (ws' := (wD cy q (if kAR N x y z u = 0 then putR N x y z u else N) s1 o1 U1 sU1 oU1 A1 ++ oL cyl o g1) ++ wP cy q2 N th kept far) (lv' := [(0, .ref (b)), (1, .ref (q 0)), (2, .ref (q2 0)), (3, .ref (o)), (4, .int (enc (5 * (j : Int))))]) (st' := [.int (enc (kAR N x y z u))]) rfl rfl rfl ?_
  refine tw_istore (lv' := [(5, .int (enc (kAR N x y z u))), (0, .ref (b)), (1, .ref (q 0)), (2, .ref (q2 0)), (3, .ref (o)), (4, .int (enc (5 * (j : Int))))]) X dL_law_257 (by decide) rfl ?_
  refine tw_aload_n X dL_law_259 3 rfl rfl ?_
  refine tw_aload_n X dL_law_260 1 rfl rfl ?_
  refine tw_iload X dL_law_261 5 rfl ?_
  refine tw_iconst X dL_law_263 ?_
  refine tw_iadd (z := 5 * (j : Int) + 1) X dL_law_264 rfl ?_
  refine tl_sld X hS9 hL (z := 5 * (j : Int) + 1) (by omega) dL_law_265 ?_
  refine Tst (st' := [.int (enc (x)), .ref (q2 0)]) (by rw [ex]) ?_
  refine tw_aload_n X dL_law_266 1 rfl rfl ?_
  refine tw_iload X dL_law_267 5 rfl ?_
  refine tw_iconst X dL_law_269 ?_
  refine tw_iadd (z := 5 * (j : Int) + 2) X dL_law_270 rfl ?_
  refine tl_sld X hS9 hL (z := 5 * (j : Int) + 2) (by omega) dL_law_271 ?_
  refine Tst (st' := [.int (enc (y)), .int (enc (x)), .ref (q2 0)]) (by rw [ey]) ?_
  refine tw_aload_n X dL_law_272 1 rfl rfl ?_
  refine tw_iload X dL_law_273 5 rfl ?_
  refine tw_iconst X dL_law_275 ?_
  refine tw_iadd (z := 5 * (j : Int) + 3) X dL_law_276 rfl ?_
  refine tl_sld X hS9 hL (z := 5 * (j : Int) + 3) (by omega) dL_law_277 ?_
  refine Tst (st' := [.int (enc (z)), .int (enc (y)), .int (enc (x)), .ref (q2 0)]) (by rw [ez]) ?_
  refine tw_aload_n X dL_law_278 1 rfl rfl ?_
  refine tw_iload X dL_law_279 5 rfl ?_
  refine tw_iconst X dL_law_281 ?_
  refine tw_iadd (z := 5 * (j : Int) + 4) X dL_law_282 rfl ?_
  refine tl_sld X hS9 hL (z := 5 * (j : Int) + 4) (by omega) dL_law_283 ?_
  refine Tst (st' := [.int (enc (u)), .int (enc (z)), .int (enc (y)), .int (enc (x)), .ref (q2 0)]) (by rw [eu]) ?_
  refine tw_callV X (As := [.int (enc (x)), .int (enc (y)), .int (enc (z)), .int (enc (u))]) (st := []) vw_L_99 (m_X5_addRoad (q := q2) N th kept far x y z u hx hy hz hu B0 hF hB2) (wD cy q (if kAR N x y z u = 0 then putR N x y z u else N) s1 o1 U1 sU1 oU1 A1 ++ oL cyl o g1) [] rfl rfl (q0 := 0) rfl rfl rfl ⟨rfl, rfl, Nat.le_of_ble_eq_true rfl, Nat.le_of_ble_eq_true rfl⟩ ⟨(show 100 + 40 * j + 3 + 0 ≤ 601024 by omega), (show 1400 + 250 * j + 18 + 0 ≤ 7293034 by omega)⟩ (Nat.le_of_ble_eq_true rfl) dL_law_284 (fun v w1 hp => ?_)
  obtain ⟨rfl, k2, f2, rfl⟩ := hp
  refine Teq (ws' := (wD cy q (if kAR N x y z u = 0 then putR N x y z u else N) s1 o1 U1 sU1 oU1 A1 ++ oL cyl o g1) ++ wP cy q2 (if kAR N x y z u = 0 then putR N x y z u else N) (kAR N x y z u) k2 f2) (lv' := [(5, .int (enc (kAR N x y z u))), (0, .ref (b)), (1, .ref (q 0)), (2, .ref (q2 0)), (3, .ref (o)), (4, .int (enc (5 * (j : Int))))]) (st' := [.int (enc (if kAR N x y z u = 0 then N 16 0 else 0))]) rfl rfl rfl ?_
  refine tw_istore (lv' := [(6, .int (enc (if kAR N x y z u = 0 then N 16 0 else 0))), (5, .int (enc (kAR N x y z u))), (0, .ref (b)), (1, .ref (q 0)), (2, .ref (q2 0)), (3, .ref (o)), (4, .int (enc (5 * (j : Int))))]) X dL_law_287 (by decide) rfl ?_
  refine tw_aload_n X dL_law_289 4 rfl rfl ?_
  refine tw_callV X (As := []) (st := []) vw_L_93 (m_X5_thrown (q := q2) (if kAR N x y z u = 0 then putR N x y z u else N) (kAR N x y z u) k2 f2) (wD cy q (if kAR N x y z u = 0 then putR N x y z u else N) s1 o1 U1 sU1 oU1 A1 ++ oL cyl o g1) [] rfl rfl (q0 := 0) rfl rfl rfl ⟨rfl, rfl, Nat.le_of_ble_eq_true rfl, Nat.le_of_ble_eq_true rfl⟩ ⟨(show 100 + 40 * j + 3 + 0 + 0 ≤ 601024 by omega), (show 1400 + 250 * j + 18 + 0 + 0 ≤ 7293034 by omega)⟩ (Nat.le_of_ble_eq_true rfl) dL_law_290 (fun v w1 hp => ?_)
  obtain ⟨rfl, rfl⟩ := hp
  refine Teq (ws' := (wD cy q (if kAR N x y z u = 0 then putR N x y z u else N) s1 o1 U1 sU1 oU1 A1 ++ oL cyl o g1) ++ wP cy q2 (if kAR N x y z u = 0 then putR N x y z u else N) (kAR N x y z u) k2 f2) (lv' := [(6, .int (enc (if kAR N x y z u = 0 then N 16 0 else 0))), (5, .int (enc (kAR N x y z u))), (0, .ref (b)), (1, .ref (q 0)), (2, .ref (q2 0)), (3, .ref (o)), (4, .int (enc (5 * (j : Int))))]) (st' := [.int (enc (kAR N x y z u))]) rfl rfl rfl ?_
  refine tw_iload X dL_law_293 1 rfl ?_
  refine tw_icmp_eq (tgt := 300) X (In_kAR _ _ _ _ _) (In_kAR _ _ _ _ _) dL_law_295 (by decide) (fun _ => ?_) (fun z => absurd rfl z)
  refine tw_iload X dL_law_300 1 rfl ?_
  refine tw_if_ne (tgt := 317) X (In_kAR _ _ _ _ _) dL_law_302 (by decide) (fun _ => ?_) (fun hk => ?_)
  · skip
    refine tw_goto (tgt := 1636) X dL_law_317 (by decide) ?_
    refine Tsub (lv' := [(0, .ref (b)), (1, .ref (q 0)), (2, .ref (q2 0)), (3, .ref (o)), (4, .int (enc (5 * (j : Int))))]) [2, 3, 4, 5, 6] rfl ?_
    exact kk (if kAR N x y z u = 0 then putR N x y z u else N) s1 o1 U1 sU1 oU1 A1 g1 (kAR N x y z u) k2 f2 _ _ (show 100 + 40 * j + 3 + 0 + 0 ≤ _ by omega) (show 1400 + 250 * j + 18 + 0 + 0 ≤ _ by omega) (wf_AR hF) (hV1)
  · skip
    refine tw_aload_n X dL_law_305 5 rfl rfl ?_
    refine tw_iconst X dL_law_306 ?_
    refine tl_lald X B (g := g1) 45 rfl dL_law_307 ?_
    refine tw_iload X dL_law_308 0 rfl ?_
    refine tw_i2lr X dL_law_310 ?_
    refine tw_lcmp X dL_law_311 ?_
    refine Tst (st' := [.int (enc 0)]) (by rw [hg1 hk, if_pos hk, lg_self]) ?_
    refine tw_if_eq (tgt := 317) X In0 dL_law_312 (by decide) (fun _ => ?_) (fun z => absurd rfl z)
    refine tw_goto (tgt := 1636) X dL_law_317 (by decide) ?_
    refine Tsub (lv' := [(0, .ref (b)), (1, .ref (q 0)), (2, .ref (q2 0)), (3, .ref (o)), (4, .int (enc (5 * (j : Int))))]) [2, 3, 4, 5, 6] rfl ?_
    exact kk (if kAR N x y z u = 0 then putR N x y z u else N) s1 o1 U1 sU1 oU1 A1 g1 (kAR N x y z u) k2 f2 _ _ (show 100 + 40 * j + 3 + 0 + 0 ≤ _ by omega) (show 1400 + 250 * j + 18 + 0 + 0 ≤ _ by omega) (wf_AR hF) (hV1)
set_option maxRecDepth 100000 in
set_option maxHeartbeats 4000000 in
theorem lc_2 {G : va_G} {cy cyl : ClassId} {c : Cx} {b L : Nat} {xs : Nat → Int32} {hh : List (Nat × Nat × Nat × Nat)} {q q2 : Nat → Nat} {o : Nat} {g : Nat → Int64} (X : Ok G cy c cL_law RL 9 room_1) (B : LB G cyl c hh) (hS9 : SX c b L xs) (hL : L ≤ 2560) (N : MT) (sN : Int → Int) (oN : Int) (U : MT) (sU : Int → Int) (oU : Int) (A : Int → Int) (th : Int) (kept far : Int → Int) (B0 : Int) (hF : WF N B0) (hB2 : B0 ≤ 800000) (hV : WVo N sN oN) (j : Nat) (hj : 5 * (j : Int) + 5 ≤ L) (kk : ∀ (N' : MT) (s' : Int → Int) (o' : Int) (U' : MT) (sU' : Int → Int) (oU' : Int) (A' : Int → Int) (g' : Nat → Int64) (th' : Int) (k' f' : Int → Int) (k9 n9 : Nat), k9 ≤ 140 + 40 * j → n9 ≤ 1650 + 250 * j → WF N' (B0 + 1300) → WVo N' s' o' → T G c room_1 9 k9 n9 ((wD cy q N' s' o' U' sU' oU' A' ++ oL cyl o g') ++ wP cy q2 N' th' k' f') 1636 [(0, .ref (b)), (1, .ref (q 0)), (2, .ref (q2 0)), (3, .ref (o)), (4, .int (enc (5 * (j : Int))))] []) : T G c room_1 9 (100 + 40 * j) (1400 + 250 * j) ((wD cy q N sN oN U sU oU A ++ oL cyl o g) ++ wP cy q2 N th kept far) 320 [(0, .ref (b)), (1, .ref (q 0)), (2, .ref (q2 0)), (3, .ref (o)), (4, .int (enc (5 * (j : Int))))] [] := by
  have hB := hF.bd (by omega)
  obtain ⟨w0, w1, w2, w3, w4⟩ := id hF.r
  have h17 := hF.2.2.2.2.2.1
  have h172 := hF.2.2.2.2.2.2.1
  obtain ⟨x, hx, ex⟩ : ∃ x : Int, In x ∧ (xs (5 * (j : Int) + 1).toNat).toInt = x := ⟨_, In_i32 _, rfl⟩
  obtain ⟨y, hy, ey⟩ : ∃ y : Int, In y ∧ (xs (5 * (j : Int) + 2).toNat).toInt = y := ⟨_, In_i32 _, rfl⟩
  refine tw_aload_n X dL_law_320 1 rfl rfl ?_
  refine tw_aload_n X dL_law_321 0 rfl rfl ?_
  refine tw_iload X dL_law_322 4 rfl ?_
  refine tw_iconst X dL_law_324 ?_
  refine tw_iadd (z := 5 * (j : Int) + 1) X dL_law_325 rfl ?_
  refine tl_sld X hS9 hL (z := 5 * (j : Int) + 1) (by omega) dL_law_326 ?_
  refine Tst (st' := [.int (enc (x)), .ref (q 0)]) (by rw [ex]) ?_
  refine tw_aload_n X dL_law_327 0 rfl rfl ?_
  refine tw_iload X dL_law_328 4 rfl ?_
  refine tw_iconst X dL_law_330 ?_
  refine tw_iadd (z := 5 * (j : Int) + 2) X dL_law_331 rfl ?_
  refine tl_sld X hS9 hL (z := 5 * (j : Int) + 2) (by omega) dL_law_332 ?_
  refine Tst (st' := [.int (enc (y)), .int (enc (x)), .ref (q 0)]) (by rw [ey]) ?_
  refine tw_aload_n X dL_law_333 3 rfl rfl ?_
  refine tl_callW X B (As := [.ref (q 0), .int (enc (x)), .int (enc (y)), .ref (o)]) (st := []) rfl xw_addTourist (w_addTourist (q := q) (o := o) (g := g) N sN oN U sU oU A x y hx hy B0 hF hB2 hV) [] (wP cy q2 N th kept far) rfl rfl rfl ⟨rfl, rfl, Nat.le_of_ble_eq_true rfl, Nat.le_of_ble_eq_true rfl⟩ ⟨(show 100 + 40 * j + 5 ≤ 601024 by omega), (show 1400 + 250 * j + 30 ≤ 7293034 by omega)⟩ (Nat.le_of_ble_eq_true rfl) dL_law_334 (fun v w1 hp => ?_)
  obtain ⟨rfl, g1, s1, o1, U1, sU1, oU1, A1, hg1, hV1, rfl⟩ := hp
  refine Teq (ws' := (wD cy q ((if kAT N x y = 0 then putT N x y (dO N false x y) (N 20 0) else N)) s1 o1 U1 sU1 oU1 A1 ++ oL cyl o g1) ++ wP cy q2 N th kept far) (lv' := [(0, .ref (b)), (1, .ref (q 0)), (2, .ref (q2 0)), (3, .ref (o)), (4, .int (enc (5 * (j : Int))))]) (st' := [.int (enc (kAT N x y))]) rfl rfl rfl ?_
  refine tw_istore (lv' := [(5, .int (enc (kAT N x y))), (0, .ref (b)), (1, .ref (q 0)), (2, .ref (q2 0)), (3, .ref (o)), (4, .int (enc (5 * (j : Int))))]) X dL_law_337 (by decide) rfl ?_
  refine tw_aload_n X dL_law_339 3 rfl rfl ?_
  refine tw_aload_n X dL_law_340 1 rfl rfl ?_
  refine tw_iload X dL_law_341 5 rfl ?_
  refine tw_iconst X dL_law_343 ?_
  refine tw_iadd (z := 5 * (j : Int) + 1) X dL_law_344 rfl ?_
  refine tl_sld X hS9 hL (z := 5 * (j : Int) + 1) (by omega) dL_law_345 ?_
  refine Tst (st' := [.int (enc (x)), .ref (q2 0)]) (by rw [ex]) ?_
  refine tw_aload_n X dL_law_346 1 rfl rfl ?_
  refine tw_iload X dL_law_347 5 rfl ?_
  refine tw_iconst X dL_law_349 ?_
  refine tw_iadd (z := 5 * (j : Int) + 2) X dL_law_350 rfl ?_
  refine tl_sld X hS9 hL (z := 5 * (j : Int) + 2) (by omega) dL_law_351 ?_
  refine Tst (st' := [.int (enc (y)), .int (enc (x)), .ref (q2 0)]) (by rw [ey]) ?_
  refine tw_callV X (As := [.int (enc (x)), .int (enc (y))]) (st := []) vw_L_103 (m_X5_addTourist (q := q2) N th kept far x y hx hy B0 hF hB2) (wD cy q ((if kAT N x y = 0 then putT N x y (dO N false x y) (N 20 0) else N)) s1 o1 U1 sU1 oU1 A1 ++ oL cyl o g1) [] rfl rfl (q0 := 0) rfl rfl rfl ⟨rfl, rfl, Nat.le_of_ble_eq_true rfl, Nat.le_of_ble_eq_true rfl⟩ ⟨(show 100 + 40 * j + 5 + 0 ≤ 601024 by omega), (show 1400 + 250 * j + 30 + 0 ≤ 7293034 by omega)⟩ (Nat.le_of_ble_eq_true rfl) dL_law_352 (fun v w1 hp => ?_)
  obtain ⟨rfl, k2, f2, rfl⟩ := hp
  refine Teq (ws' := (wD cy q ((if kAT N x y = 0 then putT N x y (dO N false x y) (N 20 0) else N)) s1 o1 U1 sU1 oU1 A1 ++ oL cyl o g1) ++ wP cy q2 ((if kAT N x y = 0 then putT N x y (dO N false x y) (N 20 0) else N)) (kAT N x y) k2 f2) (lv' := [(5, .int (enc (kAT N x y))), (0, .ref (b)), (1, .ref (q 0)), (2, .ref (q2 0)), (3, .ref (o)), (4, .int (enc (5 * (j : Int))))]) (st' := [.int (enc (if kAT N x y = 0 then N 17 0 else 0))]) rfl rfl rfl ?_
  refine tw_istore (lv' := [(6, .int (enc (if kAT N x y = 0 then N 17 0 else 0))), (5, .int (enc (kAT N x y))), (0, .ref (b)), (1, .ref (q 0)), (2, .ref (q2 0)), (3, .ref (o)), (4, .int (enc (5 * (j : Int))))]) X dL_law_355 (by decide) rfl ?_
  refine tw_aload_n X dL_law_357 4 rfl rfl ?_
  refine tw_callV X (As := []) (st := []) vw_L_93 (m_X5_thrown (q := q2) ((if kAT N x y = 0 then putT N x y (dO N false x y) (N 20 0) else N)) (kAT N x y) k2 f2) (wD cy q ((if kAT N x y = 0 then putT N x y (dO N false x y) (N 20 0) else N)) s1 o1 U1 sU1 oU1 A1 ++ oL cyl o g1) [] rfl rfl (q0 := 0) rfl rfl rfl ⟨rfl, rfl, Nat.le_of_ble_eq_true rfl, Nat.le_of_ble_eq_true rfl⟩ ⟨(show 100 + 40 * j + 5 + 0 + 0 ≤ 601024 by omega), (show 1400 + 250 * j + 30 + 0 + 0 ≤ 7293034 by omega)⟩ (Nat.le_of_ble_eq_true rfl) dL_law_358 (fun v w1 hp => ?_)
  obtain ⟨rfl, rfl⟩ := hp
  refine Teq (ws' := (wD cy q ((if kAT N x y = 0 then putT N x y (dO N false x y) (N 20 0) else N)) s1 o1 U1 sU1 oU1 A1 ++ oL cyl o g1) ++ wP cy q2 ((if kAT N x y = 0 then putT N x y (dO N false x y) (N 20 0) else N)) (kAT N x y) k2 f2) (lv' := [(6, .int (enc (if kAT N x y = 0 then N 17 0 else 0))), (5, .int (enc (kAT N x y))), (0, .ref (b)), (1, .ref (q 0)), (2, .ref (q2 0)), (3, .ref (o)), (4, .int (enc (5 * (j : Int))))]) (st' := [.int (enc (kAT N x y))]) rfl rfl rfl ?_
  refine tw_iload X dL_law_361 1 rfl ?_
  refine tw_icmp_eq (tgt := 368) X (In_kAT _ _ _) (In_kAT _ _ _) dL_law_363 (by decide) (fun _ => ?_) (fun z => absurd rfl z)
  refine tw_iload X dL_law_368 1 rfl ?_
  refine tw_if_ne (tgt := 385) X (In_kAT _ _ _) dL_law_370 (by decide) (fun _ => ?_) (fun hk => ?_)
  · skip
    refine tw_goto (tgt := 1636) X dL_law_385 (by decide) ?_
    refine Tsub (lv' := [(0, .ref (b)), (1, .ref (q 0)), (2, .ref (q2 0)), (3, .ref (o)), (4, .int (enc (5 * (j : Int))))]) [2, 3, 4, 5, 6] rfl ?_
    exact kk ((if kAT N x y = 0 then putT N x y (dO N false x y) (N 20 0) else N)) s1 o1 U1 sU1 oU1 A1 g1 (kAT N x y) k2 f2 _ _ (show 100 + 40 * j + 5 + 0 + 0 ≤ _ by omega) (show 1400 + 250 * j + 30 + 0 + 0 ≤ _ by omega) (wf_AT hF) (hV1)
  · skip
    refine tw_aload_n X dL_law_373 5 rfl rfl ?_
    refine tw_iconst X dL_law_374 ?_
    refine tl_lald X B (g := g1) 45 rfl dL_law_375 ?_
    refine tw_iload X dL_law_376 0 rfl ?_
    refine tw_i2lr X dL_law_378 ?_
    refine tw_lcmp X dL_law_379 ?_
    refine Tst (st' := [.int (enc 0)]) (by rw [hg1 hk, if_pos hk, lg_self]) ?_
    refine tw_if_eq (tgt := 385) X In0 dL_law_380 (by decide) (fun _ => ?_) (fun z => absurd rfl z)
    refine tw_goto (tgt := 1636) X dL_law_385 (by decide) ?_
    refine Tsub (lv' := [(0, .ref (b)), (1, .ref (q 0)), (2, .ref (q2 0)), (3, .ref (o)), (4, .int (enc (5 * (j : Int))))]) [2, 3, 4, 5, 6] rfl ?_
    exact kk ((if kAT N x y = 0 then putT N x y (dO N false x y) (N 20 0) else N)) s1 o1 U1 sU1 oU1 A1 g1 (kAT N x y) k2 f2 _ _ (show 100 + 40 * j + 5 + 0 + 0 ≤ _ by omega) (show 1400 + 250 * j + 30 + 0 + 0 ≤ _ by omega) (wf_AT hF) (hV1)
set_option maxRecDepth 100000 in
set_option maxHeartbeats 4000000 in
theorem lc_3 {G : va_G} {cy cyl : ClassId} {c : Cx} {b L : Nat} {xs : Nat → Int32} {hh : List (Nat × Nat × Nat × Nat)} {q q2 : Nat → Nat} {o : Nat} {g : Nat → Int64} (X : Ok G cy c cL_law RL 9 room_1) (B : LB G cyl c hh) (hS9 : SX c b L xs) (hL : L ≤ 2560) (N : MT) (sN : Int → Int) (oN : Int) (U : MT) (sU : Int → Int) (oU : Int) (A : Int → Int) (th : Int) (kept far : Int → Int) (B0 : Int) (hF : WF N B0) (hB2 : B0 ≤ 800000) (hV : WVo N sN oN) (j : Nat) (hj : 5 * (j : Int) + 5 ≤ L) (kk : ∀ (N' : MT) (s' : Int → Int) (o' : Int) (U' : MT) (sU' : Int → Int) (oU' : Int) (A' : Int → Int) (g' : Nat → Int64) (th' : Int) (k' f' : Int → Int) (k9 n9 : Nat), k9 ≤ 140 + 40 * j → n9 ≤ 1650 + 250 * j → WF N' (B0 + 1300) → WVo N' s' o' → T G c room_1 9 k9 n9 ((wD cy q N' s' o' U' sU' oU' A' ++ oL cyl o g') ++ wP cy q2 N' th' k' f') 1636 [(0, .ref (b)), (1, .ref (q 0)), (2, .ref (q2 0)), (3, .ref (o)), (4, .int (enc (5 * (j : Int))))] []) : T G c room_1 9 (100 + 40 * j) (1400 + 250 * j) ((wD cy q N sN oN U sU oU A ++ oL cyl o g) ++ wP cy q2 N th kept far) 388 [(0, .ref (b)), (1, .ref (q 0)), (2, .ref (q2 0)), (3, .ref (o)), (4, .int (enc (5 * (j : Int))))] [] := by
  have hB := hF.bd (by omega)
  obtain ⟨w0, w1, w2, w3, w4⟩ := id hF.r
  have h17 := hF.2.2.2.2.2.1
  have h172 := hF.2.2.2.2.2.2.1
  obtain ⟨x, hx, ex⟩ : ∃ x : Int, In x ∧ (xs (5 * (j : Int) + 1).toNat).toInt = x := ⟨_, In_i32 _, rfl⟩
  obtain ⟨y, hy, ey⟩ : ∃ y : Int, In y ∧ (xs (5 * (j : Int) + 2).toNat).toInt = y := ⟨_, In_i32 _, rfl⟩
  refine tw_aload_n X dL_law_388 1 rfl rfl ?_
  refine tw_aload_n X dL_law_389 0 rfl rfl ?_
  refine tw_iload X dL_law_390 4 rfl ?_
  refine tw_iconst X dL_law_392 ?_
  refine tw_iadd (z := 5 * (j : Int) + 1) X dL_law_393 rfl ?_
  refine tl_sld X hS9 hL (z := 5 * (j : Int) + 1) (by omega) dL_law_394 ?_
  refine Tst (st' := [.int (enc (x)), .ref (q 0)]) (by rw [ex]) ?_
  refine tw_aload_n X dL_law_395 0 rfl rfl ?_
  refine tw_iload X dL_law_396 4 rfl ?_
  refine tw_iconst X dL_law_398 ?_
  refine tw_iadd (z := 5 * (j : Int) + 2) X dL_law_399 rfl ?_
  refine tl_sld X hS9 hL (z := 5 * (j : Int) + 2) (by omega) dL_law_400 ?_
  refine Tst (st' := [.int (enc (y)), .int (enc (x)), .ref (q 0)]) (by rw [ey]) ?_
  refine tw_aload_n X dL_law_401 3 rfl rfl ?_
  refine tl_callW X B (As := [.ref (q 0), .int (enc (x)), .int (enc (y)), .ref (o)]) (st := []) rfl xw_mend (w_mend (q := q) (o := o) (g := g) N sN oN U sU oU A x y hx hy B0 hF hB2 hV) [] (wP cy q2 N th kept far) rfl rfl rfl ⟨rfl, rfl, Nat.le_of_ble_eq_true rfl, Nat.le_of_ble_eq_true rfl⟩ ⟨(show 100 + 40 * j + 2 ≤ 601024 by omega), (show 1400 + 250 * j + 12 ≤ 7293034 by omega)⟩ (Nat.le_of_ble_eq_true rfl) dL_law_402 (fun v w1 hp => ?_)
  obtain ⟨rfl, g1, s1, o1, U1, sU1, oU1, A1, hg1, hV1, rfl⟩ := hp
  refine Teq (ws' := (wD cy q (if kM N x y = 0 then up N 6 x y else N) s1 o1 U1 sU1 oU1 A1 ++ oL cyl o g1) ++ wP cy q2 N th kept far) (lv' := [(0, .ref (b)), (1, .ref (q 0)), (2, .ref (q2 0)), (3, .ref (o)), (4, .int (enc (5 * (j : Int))))]) (st' := [.int (enc (kM N x y))]) rfl rfl rfl ?_
  refine tw_istore (lv' := [(5, .int (enc (kM N x y))), (0, .ref (b)), (1, .ref (q 0)), (2, .ref (q2 0)), (3, .ref (o)), (4, .int (enc (5 * (j : Int))))]) X dL_law_405 (by decide) rfl ?_
  refine tw_aload_n X dL_law_407 3 rfl rfl ?_
  refine tw_aload_n X dL_law_408 1 rfl rfl ?_
  refine tw_iload X dL_law_409 5 rfl ?_
  refine tw_iconst X dL_law_411 ?_
  refine tw_iadd (z := 5 * (j : Int) + 1) X dL_law_412 rfl ?_
  refine tl_sld X hS9 hL (z := 5 * (j : Int) + 1) (by omega) dL_law_413 ?_
  refine Tst (st' := [.int (enc (x)), .ref (q2 0)]) (by rw [ex]) ?_
  refine tw_aload_n X dL_law_414 1 rfl rfl ?_
  refine tw_iload X dL_law_415 5 rfl ?_
  refine tw_iconst X dL_law_417 ?_
  refine tw_iadd (z := 5 * (j : Int) + 2) X dL_law_418 rfl ?_
  refine tl_sld X hS9 hL (z := 5 * (j : Int) + 2) (by omega) dL_law_419 ?_
  refine Tst (st' := [.int (enc (y)), .int (enc (x)), .ref (q2 0)]) (by rw [ey]) ?_
  refine tw_callV X (As := [.int (enc (x)), .int (enc (y))]) (st := []) vw_L_106 (m_X5_mend (q := q2) N th kept far x y hx hy B0 hF hB2) (wD cy q (if kM N x y = 0 then up N 6 x y else N) s1 o1 U1 sU1 oU1 A1 ++ oL cyl o g1) [] rfl rfl (q0 := 0) rfl rfl rfl ⟨rfl, rfl, Nat.le_of_ble_eq_true rfl, Nat.le_of_ble_eq_true rfl⟩ ⟨(show 100 + 40 * j + 2 + 0 ≤ 601024 by omega), (show 1400 + 250 * j + 12 + 0 ≤ 7293034 by omega)⟩ (Nat.le_of_ble_eq_true rfl) dL_law_420 (fun v w1 hp => ?_)
  obtain ⟨rfl, k2, f2, rfl⟩ := hp
  refine Teq (ws' := (wD cy q (if kM N x y = 0 then up N 6 x y else N) s1 o1 U1 sU1 oU1 A1 ++ oL cyl o g1) ++ wP cy q2 (if kM N x y = 0 then up N 6 x y else N) (kM N x y) k2 f2) (lv' := [(5, .int (enc (kM N x y))), (0, .ref (b)), (1, .ref (q 0)), (2, .ref (q2 0)), (3, .ref (o)), (4, .int (enc (5 * (j : Int))))]) (st' := [.int (enc (if kM N x y = 0 then N 4 x else 0))]) rfl rfl rfl ?_
  refine tw_istore (lv' := [(6, .int (enc (if kM N x y = 0 then N 4 x else 0))), (5, .int (enc (kM N x y))), (0, .ref (b)), (1, .ref (q 0)), (2, .ref (q2 0)), (3, .ref (o)), (4, .int (enc (5 * (j : Int))))]) X dL_law_423 (by decide) rfl ?_
  refine tw_aload_n X dL_law_425 4 rfl rfl ?_
  refine tw_callV X (As := []) (st := []) vw_L_93 (m_X5_thrown (q := q2) (if kM N x y = 0 then up N 6 x y else N) (kM N x y) k2 f2) (wD cy q (if kM N x y = 0 then up N 6 x y else N) s1 o1 U1 sU1 oU1 A1 ++ oL cyl o g1) [] rfl rfl (q0 := 0) rfl rfl rfl ⟨rfl, rfl, Nat.le_of_ble_eq_true rfl, Nat.le_of_ble_eq_true rfl⟩ ⟨(show 100 + 40 * j + 2 + 0 + 0 ≤ 601024 by omega), (show 1400 + 250 * j + 12 + 0 + 0 ≤ 7293034 by omega)⟩ (Nat.le_of_ble_eq_true rfl) dL_law_426 (fun v w1 hp => ?_)
  obtain ⟨rfl, rfl⟩ := hp
  refine Teq (ws' := (wD cy q (if kM N x y = 0 then up N 6 x y else N) s1 o1 U1 sU1 oU1 A1 ++ oL cyl o g1) ++ wP cy q2 (if kM N x y = 0 then up N 6 x y else N) (kM N x y) k2 f2) (lv' := [(6, .int (enc (if kM N x y = 0 then N 4 x else 0))), (5, .int (enc (kM N x y))), (0, .ref (b)), (1, .ref (q 0)), (2, .ref (q2 0)), (3, .ref (o)), (4, .int (enc (5 * (j : Int))))]) (st' := [.int (enc (kM N x y))]) rfl rfl rfl ?_
  refine tw_iload X dL_law_429 1 rfl ?_
  refine tw_icmp_eq (tgt := 436) X (In_kM _ _ _) (In_kM _ _ _) dL_law_431 (by decide) (fun _ => ?_) (fun z => absurd rfl z)
  refine tw_iload X dL_law_436 1 rfl ?_
  refine tw_if_ne (tgt := 453) X (In_kM _ _ _) dL_law_438 (by decide) (fun _ => ?_) (fun hk => ?_)
  · skip
    refine tw_goto (tgt := 1636) X dL_law_453 (by decide) ?_
    refine Tsub (lv' := [(0, .ref (b)), (1, .ref (q 0)), (2, .ref (q2 0)), (3, .ref (o)), (4, .int (enc (5 * (j : Int))))]) [2, 3, 4, 5, 6] rfl ?_
    exact kk (if kM N x y = 0 then up N 6 x y else N) s1 o1 U1 sU1 oU1 A1 g1 (kM N x y) k2 f2 _ _ (show 100 + 40 * j + 2 + 0 + 0 ≤ _ by omega) (show 1400 + 250 * j + 12 + 0 + 0 ≤ _ by omega) (wf_M hF) (hV1)
  · skip
    refine tw_aload_n X dL_law_441 5 rfl rfl ?_
    refine tw_iconst X dL_law_442 ?_
    refine tl_lald X B (g := g1) 45 rfl dL_law_443 ?_
    refine tw_iload X dL_law_444 0 rfl ?_
    refine tw_i2lr X dL_law_446 ?_
    refine tw_lcmp X dL_law_447 ?_
    refine Tst (st' := [.int (enc 0)]) (by rw [hg1 hk, if_pos hk, lg_self]) ?_
    refine tw_if_eq (tgt := 453) X In0 dL_law_448 (by decide) (fun _ => ?_) (fun z => absurd rfl z)
    refine tw_goto (tgt := 1636) X dL_law_453 (by decide) ?_
    refine Tsub (lv' := [(0, .ref (b)), (1, .ref (q 0)), (2, .ref (q2 0)), (3, .ref (o)), (4, .int (enc (5 * (j : Int))))]) [2, 3, 4, 5, 6] rfl ?_
    exact kk (if kM N x y = 0 then up N 6 x y else N) s1 o1 U1 sU1 oU1 A1 g1 (kM N x y) k2 f2 _ _ (show 100 + 40 * j + 2 + 0 + 0 ≤ _ by omega) (show 1400 + 250 * j + 12 + 0 + 0 ≤ _ by omega) (wf_M hF) (hV1)
set_option maxRecDepth 100000 in
set_option maxHeartbeats 4000000 in
theorem lc_4 {G : va_G} {cy cyl : ClassId} {c : Cx} {b L : Nat} {xs : Nat → Int32} {hh : List (Nat × Nat × Nat × Nat)} {q q2 : Nat → Nat} {o : Nat} {g : Nat → Int64} (X : Ok G cy c cL_law RL 9 room_1) (B : LB G cyl c hh) (hS9 : SX c b L xs) (hL : L ≤ 2560) (N : MT) (sN : Int → Int) (oN : Int) (U : MT) (sU : Int → Int) (oU : Int) (A : Int → Int) (th : Int) (kept far : Int → Int) (B0 : Int) (hF : WF N B0) (hB2 : B0 ≤ 800000) (hV : WVo N sN oN) (j : Nat) (hj : 5 * (j : Int) + 5 ≤ L) (kk : ∀ (N' : MT) (s' : Int → Int) (o' : Int) (U' : MT) (sU' : Int → Int) (oU' : Int) (A' : Int → Int) (g' : Nat → Int64) (th' : Int) (k' f' : Int → Int) (k9 n9 : Nat), k9 ≤ 140 + 40 * j → n9 ≤ 1650 + 250 * j → WF N' (B0 + 1300) → WVo N' s' o' → T G c room_1 9 k9 n9 ((wD cy q N' s' o' U' sU' oU' A' ++ oL cyl o g') ++ wP cy q2 N' th' k' f') 1636 [(0, .ref (b)), (1, .ref (q 0)), (2, .ref (q2 0)), (3, .ref (o)), (4, .int (enc (5 * (j : Int))))] []) : T G c room_1 9 (100 + 40 * j) (1400 + 250 * j) ((wD cy q N sN oN U sU oU A ++ oL cyl o g) ++ wP cy q2 N th kept far) 456 [(0, .ref (b)), (1, .ref (q 0)), (2, .ref (q2 0)), (3, .ref (o)), (4, .int (enc (5 * (j : Int))))] [] := by
  have hB := hF.bd (by omega)
  obtain ⟨w0, w1, w2, w3, w4⟩ := id hF.r
  have h17 := hF.2.2.2.2.2.1
  have h172 := hF.2.2.2.2.2.2.1
  obtain ⟨x, hx, ex⟩ : ∃ x : Int, In x ∧ (xs (5 * (j : Int) + 1).toNat).toInt = x := ⟨_, In_i32 _, rfl⟩
  refine tw_aload_n X dL_law_456 1 rfl rfl ?_
  refine tw_aload_n X dL_law_457 0 rfl rfl ?_
  refine tw_iload X dL_law_458 4 rfl ?_
  refine tw_iconst X dL_law_460 ?_
  refine tw_iadd (z := 5 * (j : Int) + 1) X dL_law_461 rfl ?_
  refine tl_sld X hS9 hL (z := 5 * (j : Int) + 1) (by omega) dL_law_462 ?_
  refine Tst (st' := [.int (enc (x)), .ref (q 0)]) (by rw [ex]) ?_
  refine tw_aload_n X dL_law_463 3 rfl rfl ?_
  refine tl_callW X B (As := [.ref (q 0), .int (enc (x)), .ref (o)]) (st := []) rfl xw_cutKnots (w_cutKnots (q := q) (o := o) (g := g) N sN oN U sU oU A x hx B0 hF hB2 hV) [] (wP cy q2 N th kept far) rfl rfl rfl ⟨rfl, rfl, Nat.le_of_ble_eq_true rfl, Nat.le_of_ble_eq_true rfl⟩ ⟨(show 100 + 40 * j + 2 ≤ 601024 by omega), (show 1400 + 250 * j + 12 ≤ 7293034 by omega)⟩ (Nat.le_of_ble_eq_true rfl) dL_law_464 (fun v w1 hp => ?_)
  obtain ⟨rfl, g1, s1, o1, U1, sU1, oU1, A1, hg1, hV1, rfl⟩ := hp
  refine Teq (ws' := (wD cy q (if kX N x = 0 then up N 5 x 0 else N) s1 o1 U1 sU1 oU1 A1 ++ oL cyl o g1) ++ wP cy q2 N th kept far) (lv' := [(0, .ref (b)), (1, .ref (q 0)), (2, .ref (q2 0)), (3, .ref (o)), (4, .int (enc (5 * (j : Int))))]) (st' := [.int (enc (kX N x))]) rfl rfl rfl ?_
  refine tw_istore (lv' := [(5, .int (enc (kX N x))), (0, .ref (b)), (1, .ref (q 0)), (2, .ref (q2 0)), (3, .ref (o)), (4, .int (enc (5 * (j : Int))))]) X dL_law_467 (by decide) rfl ?_
  refine tw_aload_n X dL_law_469 3 rfl rfl ?_
  refine tw_aload_n X dL_law_470 1 rfl rfl ?_
  refine tw_iload X dL_law_471 5 rfl ?_
  refine tw_iconst X dL_law_473 ?_
  refine tw_iadd (z := 5 * (j : Int) + 1) X dL_law_474 rfl ?_
  refine tl_sld X hS9 hL (z := 5 * (j : Int) + 1) (by omega) dL_law_475 ?_
  refine Tst (st' := [.int (enc (x)), .ref (q2 0)]) (by rw [ex]) ?_
  refine tw_callV X (As := [.int (enc (x))]) (st := []) vw_L_110 (m_X5_cutKnots (q := q2) N th kept far x hx B0 hF hB2) (wD cy q (if kX N x = 0 then up N 5 x 0 else N) s1 o1 U1 sU1 oU1 A1 ++ oL cyl o g1) [] rfl rfl (q0 := 0) rfl rfl rfl ⟨rfl, rfl, Nat.le_of_ble_eq_true rfl, Nat.le_of_ble_eq_true rfl⟩ ⟨(show 100 + 40 * j + 2 + 0 ≤ 601024 by omega), (show 1400 + 250 * j + 12 + 0 ≤ 7293034 by omega)⟩ (Nat.le_of_ble_eq_true rfl) dL_law_476 (fun v w1 hp => ?_)
  obtain ⟨rfl, k2, f2, rfl⟩ := hp
  refine Teq (ws' := (wD cy q (if kX N x = 0 then up N 5 x 0 else N) s1 o1 U1 sU1 oU1 A1 ++ oL cyl o g1) ++ wP cy q2 (if kX N x = 0 then up N 5 x 0 else N) (kX N x) k2 f2) (lv' := [(5, .int (enc (kX N x))), (0, .ref (b)), (1, .ref (q 0)), (2, .ref (q2 0)), (3, .ref (o)), (4, .int (enc (5 * (j : Int))))]) (st' := [.int (enc (if kX N x = 0 then N 5 x else 0))]) rfl rfl rfl ?_
  refine tw_istore (lv' := [(6, .int (enc (if kX N x = 0 then N 5 x else 0))), (5, .int (enc (kX N x))), (0, .ref (b)), (1, .ref (q 0)), (2, .ref (q2 0)), (3, .ref (o)), (4, .int (enc (5 * (j : Int))))]) X dL_law_479 (by decide) rfl ?_
  refine tw_aload_n X dL_law_481 4 rfl rfl ?_
  refine tw_callV X (As := []) (st := []) vw_L_93 (m_X5_thrown (q := q2) (if kX N x = 0 then up N 5 x 0 else N) (kX N x) k2 f2) (wD cy q (if kX N x = 0 then up N 5 x 0 else N) s1 o1 U1 sU1 oU1 A1 ++ oL cyl o g1) [] rfl rfl (q0 := 0) rfl rfl rfl ⟨rfl, rfl, Nat.le_of_ble_eq_true rfl, Nat.le_of_ble_eq_true rfl⟩ ⟨(show 100 + 40 * j + 2 + 0 + 0 ≤ 601024 by omega), (show 1400 + 250 * j + 12 + 0 + 0 ≤ 7293034 by omega)⟩ (Nat.le_of_ble_eq_true rfl) dL_law_482 (fun v w1 hp => ?_)
  obtain ⟨rfl, rfl⟩ := hp
  refine Teq (ws' := (wD cy q (if kX N x = 0 then up N 5 x 0 else N) s1 o1 U1 sU1 oU1 A1 ++ oL cyl o g1) ++ wP cy q2 (if kX N x = 0 then up N 5 x 0 else N) (kX N x) k2 f2) (lv' := [(6, .int (enc (if kX N x = 0 then N 5 x else 0))), (5, .int (enc (kX N x))), (0, .ref (b)), (1, .ref (q 0)), (2, .ref (q2 0)), (3, .ref (o)), (4, .int (enc (5 * (j : Int))))]) (st' := [.int (enc (kX N x))]) rfl rfl rfl ?_
  refine tw_iload X dL_law_485 1 rfl ?_
  refine tw_icmp_eq (tgt := 492) X (In_kX _ _) (In_kX _ _) dL_law_487 (by decide) (fun _ => ?_) (fun z => absurd rfl z)
  refine tw_iload X dL_law_492 1 rfl ?_
  refine tw_if_ne (tgt := 509) X (In_kX _ _) dL_law_494 (by decide) (fun _ => ?_) (fun hk => ?_)
  · skip
    refine tw_goto (tgt := 1636) X dL_law_509 (by decide) ?_
    refine Tsub (lv' := [(0, .ref (b)), (1, .ref (q 0)), (2, .ref (q2 0)), (3, .ref (o)), (4, .int (enc (5 * (j : Int))))]) [2, 3, 4, 5, 6] rfl ?_
    exact kk (if kX N x = 0 then up N 5 x 0 else N) s1 o1 U1 sU1 oU1 A1 g1 (kX N x) k2 f2 _ _ (show 100 + 40 * j + 2 + 0 + 0 ≤ _ by omega) (show 1400 + 250 * j + 12 + 0 + 0 ≤ _ by omega) (wf_X hF) (hV1)
  · skip
    refine tw_aload_n X dL_law_497 5 rfl rfl ?_
    refine tw_iconst X dL_law_498 ?_
    refine tl_lald X B (g := g1) 45 rfl dL_law_499 ?_
    refine tw_iload X dL_law_500 0 rfl ?_
    refine tw_i2lr X dL_law_502 ?_
    refine tw_lcmp X dL_law_503 ?_
    refine Tst (st' := [.int (enc 0)]) (by rw [hg1 hk, if_pos hk, lg_self]) ?_
    refine tw_if_eq (tgt := 509) X In0 dL_law_504 (by decide) (fun _ => ?_) (fun z => absurd rfl z)
    refine tw_goto (tgt := 1636) X dL_law_509 (by decide) ?_
    refine Tsub (lv' := [(0, .ref (b)), (1, .ref (q 0)), (2, .ref (q2 0)), (3, .ref (o)), (4, .int (enc (5 * (j : Int))))]) [2, 3, 4, 5, 6] rfl ?_
    exact kk (if kX N x = 0 then up N 5 x 0 else N) s1 o1 U1 sU1 oU1 A1 g1 (kX N x) k2 f2 _ _ (show 100 + 40 * j + 2 + 0 + 0 ≤ _ by omega) (show 1400 + 250 * j + 12 + 0 + 0 ≤ _ by omega) (wf_X hF) (hV1)
set_option maxRecDepth 100000 in
set_option maxHeartbeats 4000000 in
theorem lc_5 {G : va_G} {cy cyl : ClassId} {c : Cx} {b L : Nat} {xs : Nat → Int32} {hh : List (Nat × Nat × Nat × Nat)} {q q2 : Nat → Nat} {o : Nat} {g : Nat → Int64} (X : Ok G cy c cL_law RL 9 room_1) (B : LB G cyl c hh) (hS9 : SX c b L xs) (hL : L ≤ 2560) (N : MT) (sN : Int → Int) (oN : Int) (U : MT) (sU : Int → Int) (oU : Int) (A : Int → Int) (th : Int) (kept far : Int → Int) (B0 : Int) (hF : WF N B0) (hB2 : B0 ≤ 800000) (hV : WVo N sN oN) (j : Nat) (hj : 5 * (j : Int) + 5 ≤ L) (kk : ∀ (N' : MT) (s' : Int → Int) (o' : Int) (U' : MT) (sU' : Int → Int) (oU' : Int) (A' : Int → Int) (g' : Nat → Int64) (th' : Int) (k' f' : Int → Int) (k9 n9 : Nat), k9 ≤ 140 + 40 * j → n9 ≤ 1650 + 250 * j → WF N' (B0 + 1300) → WVo N' s' o' → T G c room_1 9 k9 n9 ((wD cy q N' s' o' U' sU' oU' A' ++ oL cyl o g') ++ wP cy q2 N' th' k' f') 1636 [(0, .ref (b)), (1, .ref (q 0)), (2, .ref (q2 0)), (3, .ref (o)), (4, .int (enc (5 * (j : Int))))] []) : T G c room_1 9 (100 + 40 * j) (1400 + 250 * j) ((wD cy q N sN oN U sU oU A ++ oL cyl o g) ++ wP cy q2 N th kept far) 512 [(0, .ref (b)), (1, .ref (q 0)), (2, .ref (q2 0)), (3, .ref (o)), (4, .int (enc (5 * (j : Int))))] [] := by
  have hB := hF.bd (by omega)
  obtain ⟨w0, w1, w2, w3, w4⟩ := id hF.r
  have h17 := hF.2.2.2.2.2.1
  have h172 := hF.2.2.2.2.2.2.1
  obtain ⟨x, hx, ex⟩ : ∃ x : Int, In x ∧ (xs (5 * (j : Int) + 1).toNat).toInt = x := ⟨_, In_i32 _, rfl⟩
  refine tw_aload_n X dL_law_512 1 rfl rfl ?_
  refine tw_aload_n X dL_law_513 0 rfl rfl ?_
  refine tw_iload X dL_law_514 4 rfl ?_
  refine tw_iconst X dL_law_516 ?_
  refine tw_iadd (z := 5 * (j : Int) + 1) X dL_law_517 rfl ?_
  refine tl_sld X hS9 hL (z := 5 * (j : Int) + 1) (by omega) dL_law_518 ?_
  refine Tst (st' := [.int (enc (x)), .ref (q 0)]) (by rw [ex]) ?_
  refine tw_aload_n X dL_law_519 3 rfl rfl ?_
  refine tl_callW X B (As := [.ref (q 0), .int (enc (x)), .ref (o)]) (st := []) rfl xw_pass (w_pass (q := q) (o := o) (g := g) N sN oN U sU oU A x hx B0 hF hB2 hV) [] (wP cy q2 N th kept far) rfl rfl rfl ⟨rfl, rfl, Nat.le_of_ble_eq_true rfl, Nat.le_of_ble_eq_true rfl⟩ ⟨(show 100 + 40 * j + 1 ≤ 601024 by omega), (show 1400 + 250 * j + 6 ≤ 7293034 by omega)⟩ (Nat.le_of_ble_eq_true rfl) dL_law_520 (fun v w1 hp => ?_)
  obtain ⟨rfl, g1, s1, o1, U1, sU1, oU1, A1, hg1, hV1, rfl⟩ := hp
  refine Teq (ws' := (wD cy q (if kP x = 0 then hoursM N x.toNat else N) s1 o1 U1 sU1 oU1 A1 ++ oL cyl o g1) ++ wP cy q2 N th kept far) (lv' := [(0, .ref (b)), (1, .ref (q 0)), (2, .ref (q2 0)), (3, .ref (o)), (4, .int (enc (5 * (j : Int))))]) (st' := [.int (enc (kP x))]) rfl rfl rfl ?_
  refine tw_istore (lv' := [(5, .int (enc (kP x))), (0, .ref (b)), (1, .ref (q 0)), (2, .ref (q2 0)), (3, .ref (o)), (4, .int (enc (5 * (j : Int))))]) X dL_law_523 (by decide) rfl ?_
  refine tw_aload_n X dL_law_525 3 rfl rfl ?_
  refine tw_aload_n X dL_law_526 1 rfl rfl ?_
  refine tw_iload X dL_law_527 5 rfl ?_
  refine tw_iconst X dL_law_529 ?_
  refine tw_iadd (z := 5 * (j : Int) + 1) X dL_law_530 rfl ?_
  refine tl_sld X hS9 hL (z := 5 * (j : Int) + 1) (by omega) dL_law_531 ?_
  refine Tst (st' := [.int (enc (x)), .ref (q2 0)]) (by rw [ex]) ?_
  refine tw_callV X (As := [.int (enc (x))]) (st := []) vw_L_113 (m_X5_pass (q := q2) N th kept far x hx B0 hF hB2) (wD cy q (if kP x = 0 then hoursM N x.toNat else N) s1 o1 U1 sU1 oU1 A1 ++ oL cyl o g1) [] rfl rfl (q0 := 0) rfl rfl rfl ⟨rfl, rfl, Nat.le_of_ble_eq_true rfl, Nat.le_of_ble_eq_true rfl⟩ ⟨(show 100 + 40 * j + 1 + 0 ≤ 601024 by omega), (show 1400 + 250 * j + 6 + 0 ≤ 7293034 by omega)⟩ (Nat.le_of_ble_eq_true rfl) dL_law_532 (fun v w1 hp => ?_)
  obtain ⟨rfl, k2, f2, rfl⟩ := hp
  refine Teq (ws' := (wD cy q (if kP x = 0 then hoursM N x.toNat else N) s1 o1 U1 sU1 oU1 A1 ++ oL cyl o g1) ++ wP cy q2 (if kP x = 0 then hoursM N x.toNat else N) (kP x) k2 f2) (lv' := [(5, .int (enc (kP x))), (0, .ref (b)), (1, .ref (q 0)), (2, .ref (q2 0)), (3, .ref (o)), (4, .int (enc (5 * (j : Int))))]) (st' := [.int (enc (if kP x = 0 then hoursM N x.toNat 18 0 - N 18 0 else 0))]) rfl rfl rfl ?_
  refine tw_istore (lv' := [(6, .int (enc (if kP x = 0 then hoursM N x.toNat 18 0 - N 18 0 else 0))), (5, .int (enc (kP x))), (0, .ref (b)), (1, .ref (q 0)), (2, .ref (q2 0)), (3, .ref (o)), (4, .int (enc (5 * (j : Int))))]) X dL_law_535 (by decide) rfl ?_
  refine tw_aload_n X dL_law_537 4 rfl rfl ?_
  refine tw_callV X (As := []) (st := []) vw_L_93 (m_X5_thrown (q := q2) (if kP x = 0 then hoursM N x.toNat else N) (kP x) k2 f2) (wD cy q (if kP x = 0 then hoursM N x.toNat else N) s1 o1 U1 sU1 oU1 A1 ++ oL cyl o g1) [] rfl rfl (q0 := 0) rfl rfl rfl ⟨rfl, rfl, Nat.le_of_ble_eq_true rfl, Nat.le_of_ble_eq_true rfl⟩ ⟨(show 100 + 40 * j + 1 + 0 + 0 ≤ 601024 by omega), (show 1400 + 250 * j + 6 + 0 + 0 ≤ 7293034 by omega)⟩ (Nat.le_of_ble_eq_true rfl) dL_law_538 (fun v w1 hp => ?_)
  obtain ⟨rfl, rfl⟩ := hp
  refine Teq (ws' := (wD cy q (if kP x = 0 then hoursM N x.toNat else N) s1 o1 U1 sU1 oU1 A1 ++ oL cyl o g1) ++ wP cy q2 (if kP x = 0 then hoursM N x.toNat else N) (kP x) k2 f2) (lv' := [(6, .int (enc (if kP x = 0 then hoursM N x.toNat 18 0 - N 18 0 else 0))), (5, .int (enc (kP x))), (0, .ref (b)), (1, .ref (q 0)), (2, .ref (q2 0)), (3, .ref (o)), (4, .int (enc (5 * (j : Int))))]) (st' := [.int (enc (kP x))]) rfl rfl rfl ?_
  refine tw_iload X dL_law_541 1 rfl ?_
  refine tw_icmp_eq (tgt := 548) X (In_kP _) (In_kP _) dL_law_543 (by decide) (fun _ => ?_) (fun z => absurd rfl z)
  refine tw_iload X dL_law_548 1 rfl ?_
  refine tw_if_ne (tgt := 565) X (In_kP _) dL_law_550 (by decide) (fun _ => ?_) (fun hk => ?_)
  · skip
    refine tw_goto (tgt := 1636) X dL_law_565 (by decide) ?_
    refine Tsub (lv' := [(0, .ref (b)), (1, .ref (q 0)), (2, .ref (q2 0)), (3, .ref (o)), (4, .int (enc (5 * (j : Int))))]) [2, 3, 4, 5, 6] rfl ?_
    exact kk (if kP x = 0 then hoursM N x.toNat else N) s1 o1 U1 sU1 oU1 A1 g1 (kP x) k2 f2 _ _ (show 100 + 40 * j + 1 + 0 + 0 ≤ _ by omega) (show 1400 + 250 * j + 6 + 0 + 0 ≤ _ by omega) (wf_P hF) (hV1)
  · skip
    refine tw_aload_n X dL_law_553 5 rfl rfl ?_
    refine tw_iconst X dL_law_554 ?_
    refine tl_lald X B (g := g1) 45 rfl dL_law_555 ?_
    refine tw_iload X dL_law_556 0 rfl ?_
    refine tw_i2lr X dL_law_558 ?_
    refine tw_lcmp X dL_law_559 ?_
    refine Tst (st' := [.int (enc 0)]) (by rw [hg1 hk, if_pos hk, lg_self]) ?_
    refine tw_if_eq (tgt := 565) X In0 dL_law_560 (by decide) (fun _ => ?_) (fun z => absurd rfl z)
    refine tw_goto (tgt := 1636) X dL_law_565 (by decide) ?_
    refine Tsub (lv' := [(0, .ref (b)), (1, .ref (q 0)), (2, .ref (q2 0)), (3, .ref (o)), (4, .int (enc (5 * (j : Int))))]) [2, 3, 4, 5, 6] rfl ?_
    exact kk (if kP x = 0 then hoursM N x.toNat else N) s1 o1 U1 sU1 oU1 A1 g1 (kP x) k2 f2 _ _ (show 100 + 40 * j + 1 + 0 + 0 ≤ _ by omega) (show 1400 + 250 * j + 6 + 0 + 0 ≤ _ by omega) (wf_P hF) (hV1)
set_option maxRecDepth 100000 in
set_option maxHeartbeats 4000000 in
theorem lc_6 {G : va_G} {cy cyl : ClassId} {c : Cx} {b L : Nat} {xs : Nat → Int32} {hh : List (Nat × Nat × Nat × Nat)} {q q2 : Nat → Nat} {o : Nat} {g : Nat → Int64} (X : Ok G cy c cL_law RL 9 room_1) (B : LB G cyl c hh) (hS9 : SX c b L xs) (hL : L ≤ 2560) (N : MT) (sN : Int → Int) (oN : Int) (U : MT) (sU : Int → Int) (oU : Int) (A : Int → Int) (th : Int) (kept far : Int → Int) (B0 : Int) (hF : WF N B0) (hB2 : B0 ≤ 800000) (hV : WVo N sN oN) (j : Nat) (hj : 5 * (j : Int) + 5 ≤ L) (kk : ∀ (N' : MT) (s' : Int → Int) (o' : Int) (U' : MT) (sU' : Int → Int) (oU' : Int) (A' : Int → Int) (g' : Nat → Int64) (th' : Int) (k' f' : Int → Int) (k9 n9 : Nat), k9 ≤ 140 + 40 * j → n9 ≤ 1650 + 250 * j → WF N' (B0 + 1300) → WVo N' s' o' → T G c room_1 9 k9 n9 ((wD cy q N' s' o' U' sU' oU' A' ++ oL cyl o g') ++ wP cy q2 N' th' k' f') 1636 [(0, .ref (b)), (1, .ref (q 0)), (2, .ref (q2 0)), (3, .ref (o)), (4, .int (enc (5 * (j : Int))))] []) : T G c room_1 9 (100 + 40 * j) (1400 + 250 * j) ((wD cy q N sN oN U sU oU A ++ oL cyl o g) ++ wP cy q2 N th kept far) 568 [(0, .ref (b)), (1, .ref (q 0)), (2, .ref (q2 0)), (3, .ref (o)), (4, .int (enc (5 * (j : Int))))] [] := by
  have hB := hF.bd (by omega)
  obtain ⟨w0, w1, w2, w3, w4⟩ := id hF.r
  have h17 := hF.2.2.2.2.2.1
  have h172 := hF.2.2.2.2.2.2.1
  refine tw_aload_n X dL_law_568 1 rfl rfl ?_
  refine tw_callV X (As := []) (st := []) vw_L_114 (m_X4_hour (q := q) N sN oN U sU oU A ) [] (oL cyl o g ++ wP cy q2 N th kept far) rfl rfl (q0 := 0) rfl rfl rfl ⟨rfl, rfl, Nat.le_of_ble_eq_true rfl, Nat.le_of_ble_eq_true rfl⟩ ⟨(show 100 + 40 * j + 0 ≤ 601024 by omega), (show 1400 + 250 * j + 0 ≤ 7293034 by omega)⟩ (Nat.le_of_ble_eq_true rfl) dL_law_569 (fun v w1 hp => ?_)
  obtain ⟨rfl, rfl⟩ := hp
  refine Teq (ws' := (wD cy q N sN oN U sU oU A ++ oL cyl o g) ++ wP cy q2 N th kept far) (lv' := [(0, .ref (b)), (1, .ref (q 0)), (2, .ref (q2 0)), (3, .ref (o)), (4, .int (enc (5 * (j : Int))))]) (st' := [.int (enc (N 20 0))]) rfl rfl rfl ?_
  refine tw_aload_n X dL_law_572 2 rfl rfl ?_
  refine tw_callV X (As := []) (st := [.int (enc (N 20 0))]) vw_L_117 (m_X5_hour (q := q2) N th kept far B0 hF hB2) (wD cy q N sN oN U sU oU A ++ oL cyl o g) [] rfl rfl (q0 := 0) rfl rfl rfl ⟨rfl, rfl, Nat.le_of_ble_eq_true rfl, Nat.le_of_ble_eq_true rfl⟩ ⟨(show 100 + 40 * j + 0 + 0 ≤ 601024 by omega), (show 1400 + 250 * j + 0 + 0 ≤ 7293034 by omega)⟩ (Nat.le_of_ble_eq_true rfl) dL_law_573 (fun v w1 hp => ?_)
  obtain ⟨rfl, k2, f2, rfl⟩ := hp
  refine Teq (ws' := (wD cy q N sN oN U sU oU A ++ oL cyl o g) ++ wP cy q2 N 0 k2 f2) (lv' := [(0, .ref (b)), (1, .ref (q 0)), (2, .ref (q2 0)), (3, .ref (o)), (4, .int (enc (5 * (j : Int))))]) (st' := [.int (enc (N 20 0)), .int (enc (N 20 0))]) rfl rfl rfl ?_
  have rB := hB 20 0
  have rB2 := hB 18 0
  refine tw_icmp_eq (tgt := 1636) X (In_of (by omega) (by omega)) (In_of (by omega) (by omega)) dL_law_576 (by decide) (fun _ => ?_) (fun z => absurd rfl z)
  refine Tsub (lv' := [(0, .ref (b)), (1, .ref (q 0)), (2, .ref (q2 0)), (3, .ref (o)), (4, .int (enc (5 * (j : Int))))]) [0, 1, 2, 3, 4] rfl ?_
  exact kk N sN oN U sU oU A g 0 k2 f2 _ _ (show 100 + 40 * j + 0 + 0 ≤ _ by omega) (show 1400 + 250 * j + 0 + 0 ≤ _ by omega) (hF.mono (by omega)) (hV)
set_option maxRecDepth 100000 in
set_option maxHeartbeats 4000000 in
theorem lc_7 {G : va_G} {cy cyl : ClassId} {c : Cx} {b L : Nat} {xs : Nat → Int32} {hh : List (Nat × Nat × Nat × Nat)} {q q2 : Nat → Nat} {o : Nat} {g : Nat → Int64} (X : Ok G cy c cL_law RL 9 room_1) (B : LB G cyl c hh) (hS9 : SX c b L xs) (hL : L ≤ 2560) (N : MT) (sN : Int → Int) (oN : Int) (U : MT) (sU : Int → Int) (oU : Int) (A : Int → Int) (th : Int) (kept far : Int → Int) (B0 : Int) (hF : WF N B0) (hB2 : B0 ≤ 800000) (hV : WVo N sN oN) (j : Nat) (hj : 5 * (j : Int) + 5 ≤ L) (kk : ∀ (N' : MT) (s' : Int → Int) (o' : Int) (U' : MT) (sU' : Int → Int) (oU' : Int) (A' : Int → Int) (g' : Nat → Int64) (th' : Int) (k' f' : Int → Int) (k9 n9 : Nat), k9 ≤ 140 + 40 * j → n9 ≤ 1650 + 250 * j → WF N' (B0 + 1300) → WVo N' s' o' → T G c room_1 9 k9 n9 ((wD cy q N' s' o' U' sU' oU' A' ++ oL cyl o g') ++ wP cy q2 N' th' k' f') 1636 [(0, .ref (b)), (1, .ref (q 0)), (2, .ref (q2 0)), (3, .ref (o)), (4, .int (enc (5 * (j : Int))))] []) : T G c room_1 9 (100 + 40 * j) (1400 + 250 * j) ((wD cy q N sN oN U sU oU A ++ oL cyl o g) ++ wP cy q2 N th kept far) 581 [(0, .ref (b)), (1, .ref (q 0)), (2, .ref (q2 0)), (3, .ref (o)), (4, .int (enc (5 * (j : Int))))] [] := by
  have hB := hF.bd (by omega)
  obtain ⟨w0, w1, w2, w3, w4⟩ := id hF.r
  have h17 := hF.2.2.2.2.2.1
  have h172 := hF.2.2.2.2.2.2.1
  refine tw_aload_n X dL_law_581 1 rfl rfl ?_
  refine tw_callV X (As := []) (st := []) vw_L_118 (m_X4_crossings (q := q) N sN oN U sU oU A ) [] (oL cyl o g ++ wP cy q2 N th kept far) rfl rfl (q0 := 0) rfl rfl rfl ⟨rfl, rfl, Nat.le_of_ble_eq_true rfl, Nat.le_of_ble_eq_true rfl⟩ ⟨(show 100 + 40 * j + 0 ≤ 601024 by omega), (show 1400 + 250 * j + 0 ≤ 7293034 by omega)⟩ (Nat.le_of_ble_eq_true rfl) dL_law_582 (fun v w1 hp => ?_)
  obtain ⟨rfl, rfl⟩ := hp
  refine Teq (ws' := (wD cy q N sN oN U sU oU A ++ oL cyl o g) ++ wP cy q2 N th kept far) (lv' := [(0, .ref (b)), (1, .ref (q 0)), (2, .ref (q2 0)), (3, .ref (o)), (4, .int (enc (5 * (j : Int))))]) (st' := [.int (enc (N 19 0))]) rfl rfl rfl ?_
  refine tw_aload_n X dL_law_585 2 rfl rfl ?_
  refine tw_callV X (As := []) (st := [.int (enc (N 19 0))]) vw_L_121 (m_X5_crossings (q := q2) N th kept far B0 hF hB2) (wD cy q N sN oN U sU oU A ++ oL cyl o g) [] rfl rfl (q0 := 0) rfl rfl rfl ⟨rfl, rfl, Nat.le_of_ble_eq_true rfl, Nat.le_of_ble_eq_true rfl⟩ ⟨(show 100 + 40 * j + 0 + 0 ≤ 601024 by omega), (show 1400 + 250 * j + 0 + 0 ≤ 7293034 by omega)⟩ (Nat.le_of_ble_eq_true rfl) dL_law_586 (fun v w1 hp => ?_)
  obtain ⟨rfl, k2, f2, rfl⟩ := hp
  refine Teq (ws' := (wD cy q N sN oN U sU oU A ++ oL cyl o g) ++ wP cy q2 N 0 k2 f2) (lv' := [(0, .ref (b)), (1, .ref (q 0)), (2, .ref (q2 0)), (3, .ref (o)), (4, .int (enc (5 * (j : Int))))]) (st' := [.int (enc (N 19 0)), .int (enc (N 19 0))]) rfl rfl rfl ?_
  have rB := hB 20 0
  have rB2 := hB 18 0
  refine tw_icmp_eq (tgt := 1636) X (In_of (by omega) (by omega)) (In_of (by omega) (by omega)) dL_law_589 (by decide) (fun _ => ?_) (fun z => absurd rfl z)
  refine Tsub (lv' := [(0, .ref (b)), (1, .ref (q 0)), (2, .ref (q2 0)), (3, .ref (o)), (4, .int (enc (5 * (j : Int))))]) [0, 1, 2, 3, 4] rfl ?_
  exact kk N sN oN U sU oU A g 0 k2 f2 _ _ (show 100 + 40 * j + 0 + 0 ≤ _ by omega) (show 1400 + 250 * j + 0 + 0 ≤ _ by omega) (hF.mono (by omega)) (hV)
set_option maxRecDepth 100000 in
set_option maxHeartbeats 4000000 in
theorem lc_8 {G : va_G} {cy cyl : ClassId} {c : Cx} {b L : Nat} {xs : Nat → Int32} {hh : List (Nat × Nat × Nat × Nat)} {q q2 : Nat → Nat} {o : Nat} {g : Nat → Int64} (X : Ok G cy c cL_law RL 9 room_1) (B : LB G cyl c hh) (hS9 : SX c b L xs) (hL : L ≤ 2560) (N : MT) (sN : Int → Int) (oN : Int) (U : MT) (sU : Int → Int) (oU : Int) (A : Int → Int) (th : Int) (kept far : Int → Int) (B0 : Int) (hF : WF N B0) (hB2 : B0 ≤ 800000) (hV : WVo N sN oN) (j : Nat) (hj : 5 * (j : Int) + 5 ≤ L) (kk : ∀ (N' : MT) (s' : Int → Int) (o' : Int) (U' : MT) (sU' : Int → Int) (oU' : Int) (A' : Int → Int) (g' : Nat → Int64) (th' : Int) (k' f' : Int → Int) (k9 n9 : Nat), k9 ≤ 140 + 40 * j → n9 ≤ 1650 + 250 * j → WF N' (B0 + 1300) → WVo N' s' o' → T G c room_1 9 k9 n9 ((wD cy q N' s' o' U' sU' oU' A' ++ oL cyl o g') ++ wP cy q2 N' th' k' f') 1636 [(0, .ref (b)), (1, .ref (q 0)), (2, .ref (q2 0)), (3, .ref (o)), (4, .int (enc (5 * (j : Int))))] []) : T G c room_1 9 (100 + 40 * j) (1400 + 250 * j) ((wD cy q N sN oN U sU oU A ++ oL cyl o g) ++ wP cy q2 N th kept far) 594 [(0, .ref (b)), (1, .ref (q 0)), (2, .ref (q2 0)), (3, .ref (o)), (4, .int (enc (5 * (j : Int))))] [] := by
  have hB := hF.bd (by omega)
  obtain ⟨w0, w1, w2, w3, w4⟩ := id hF.r
  have h17 := hF.2.2.2.2.2.1
  have h172 := hF.2.2.2.2.2.2.1
  refine tw_aload_n X dL_law_594 1 rfl rfl ?_
  refine tw_callV X (As := []) (st := []) vw_L_122 (m_X4_roads (q := q) N sN oN U sU oU A ) [] (oL cyl o g ++ wP cy q2 N th kept far) rfl rfl (q0 := 0) rfl rfl rfl ⟨rfl, rfl, Nat.le_of_ble_eq_true rfl, Nat.le_of_ble_eq_true rfl⟩ ⟨(show 100 + 40 * j + 0 ≤ 601024 by omega), (show 1400 + 250 * j + 0 ≤ 7293034 by omega)⟩ (Nat.le_of_ble_eq_true rfl) dL_law_595 (fun v w1 hp => ?_)
  obtain ⟨rfl, rfl⟩ := hp
  refine Teq (ws' := (wD cy q N sN oN U sU oU A ++ oL cyl o g) ++ wP cy q2 N th kept far) (lv' := [(0, .ref (b)), (1, .ref (q 0)), (2, .ref (q2 0)), (3, .ref (o)), (4, .int (enc (5 * (j : Int))))]) (st' := [.int (enc (N 16 0))]) rfl rfl rfl ?_
  refine tw_aload_n X dL_law_598 2 rfl rfl ?_
  refine tw_callV X (As := []) (st := [.int (enc (N 16 0))]) vw_L_125 (m_X5_roads (q := q2) N th kept far B0 hF hB2) (wD cy q N sN oN U sU oU A ++ oL cyl o g) [] rfl rfl (q0 := 0) rfl rfl rfl ⟨rfl, rfl, Nat.le_of_ble_eq_true rfl, Nat.le_of_ble_eq_true rfl⟩ ⟨(show 100 + 40 * j + 0 + 0 ≤ 601024 by omega), (show 1400 + 250 * j + 0 + 0 ≤ 7293034 by omega)⟩ (Nat.le_of_ble_eq_true rfl) dL_law_599 (fun v w1 hp => ?_)
  obtain ⟨rfl, k2, f2, rfl⟩ := hp
  refine Teq (ws' := (wD cy q N sN oN U sU oU A ++ oL cyl o g) ++ wP cy q2 N 0 k2 f2) (lv' := [(0, .ref (b)), (1, .ref (q 0)), (2, .ref (q2 0)), (3, .ref (o)), (4, .int (enc (5 * (j : Int))))]) (st' := [.int (enc (N 16 0)), .int (enc (N 16 0))]) rfl rfl rfl ?_
  have rB := hB 20 0
  have rB2 := hB 18 0
  refine tw_icmp_eq (tgt := 1636) X (In_of (by omega) (by omega)) (In_of (by omega) (by omega)) dL_law_602 (by decide) (fun _ => ?_) (fun z => absurd rfl z)
  refine Tsub (lv' := [(0, .ref (b)), (1, .ref (q 0)), (2, .ref (q2 0)), (3, .ref (o)), (4, .int (enc (5 * (j : Int))))]) [0, 1, 2, 3, 4] rfl ?_
  exact kk N sN oN U sU oU A g 0 k2 f2 _ _ (show 100 + 40 * j + 0 + 0 ≤ _ by omega) (show 1400 + 250 * j + 0 + 0 ≤ _ by omega) (hF.mono (by omega)) (hV)
set_option maxRecDepth 100000 in
set_option maxHeartbeats 4000000 in
theorem lc_9 {G : va_G} {cy cyl : ClassId} {c : Cx} {b L : Nat} {xs : Nat → Int32} {hh : List (Nat × Nat × Nat × Nat)} {q q2 : Nat → Nat} {o : Nat} {g : Nat → Int64} (X : Ok G cy c cL_law RL 9 room_1) (B : LB G cyl c hh) (hS9 : SX c b L xs) (hL : L ≤ 2560) (N : MT) (sN : Int → Int) (oN : Int) (U : MT) (sU : Int → Int) (oU : Int) (A : Int → Int) (th : Int) (kept far : Int → Int) (B0 : Int) (hF : WF N B0) (hB2 : B0 ≤ 800000) (hV : WVo N sN oN) (j : Nat) (hj : 5 * (j : Int) + 5 ≤ L) (kk : ∀ (N' : MT) (s' : Int → Int) (o' : Int) (U' : MT) (sU' : Int → Int) (oU' : Int) (A' : Int → Int) (g' : Nat → Int64) (th' : Int) (k' f' : Int → Int) (k9 n9 : Nat), k9 ≤ 140 + 40 * j → n9 ≤ 1650 + 250 * j → WF N' (B0 + 1300) → WVo N' s' o' → T G c room_1 9 k9 n9 ((wD cy q N' s' o' U' sU' oU' A' ++ oL cyl o g') ++ wP cy q2 N' th' k' f') 1636 [(0, .ref (b)), (1, .ref (q 0)), (2, .ref (q2 0)), (3, .ref (o)), (4, .int (enc (5 * (j : Int))))] []) : T G c room_1 9 (100 + 40 * j) (1400 + 250 * j) ((wD cy q N sN oN U sU oU A ++ oL cyl o g) ++ wP cy q2 N th kept far) 607 [(0, .ref (b)), (1, .ref (q 0)), (2, .ref (q2 0)), (3, .ref (o)), (4, .int (enc (5 * (j : Int))))] [] := by
  have hB := hF.bd (by omega)
  obtain ⟨w0, w1, w2, w3, w4⟩ := id hF.r
  have h17 := hF.2.2.2.2.2.1
  have h172 := hF.2.2.2.2.2.2.1
  refine tw_aload_n X dL_law_607 1 rfl rfl ?_
  refine tw_callV X (As := []) (st := []) vw_L_126 (m_X4_tourists (q := q) N sN oN U sU oU A ) [] (oL cyl o g ++ wP cy q2 N th kept far) rfl rfl (q0 := 0) rfl rfl rfl ⟨rfl, rfl, Nat.le_of_ble_eq_true rfl, Nat.le_of_ble_eq_true rfl⟩ ⟨(show 100 + 40 * j + 0 ≤ 601024 by omega), (show 1400 + 250 * j + 0 ≤ 7293034 by omega)⟩ (Nat.le_of_ble_eq_true rfl) dL_law_608 (fun v w1 hp => ?_)
  obtain ⟨rfl, rfl⟩ := hp
  refine Teq (ws' := (wD cy q N sN oN U sU oU A ++ oL cyl o g) ++ wP cy q2 N th kept far) (lv' := [(0, .ref (b)), (1, .ref (q 0)), (2, .ref (q2 0)), (3, .ref (o)), (4, .int (enc (5 * (j : Int))))]) (st' := [.int (enc (N 17 0))]) rfl rfl rfl ?_
  refine tw_aload_n X dL_law_611 2 rfl rfl ?_
  refine tw_callV X (As := []) (st := [.int (enc (N 17 0))]) vw_L_129 (m_X5_tourists (q := q2) N th kept far B0 hF hB2) (wD cy q N sN oN U sU oU A ++ oL cyl o g) [] rfl rfl (q0 := 0) rfl rfl rfl ⟨rfl, rfl, Nat.le_of_ble_eq_true rfl, Nat.le_of_ble_eq_true rfl⟩ ⟨(show 100 + 40 * j + 0 + 0 ≤ 601024 by omega), (show 1400 + 250 * j + 0 + 0 ≤ 7293034 by omega)⟩ (Nat.le_of_ble_eq_true rfl) dL_law_612 (fun v w1 hp => ?_)
  obtain ⟨rfl, k2, f2, rfl⟩ := hp
  refine Teq (ws' := (wD cy q N sN oN U sU oU A ++ oL cyl o g) ++ wP cy q2 N 0 k2 f2) (lv' := [(0, .ref (b)), (1, .ref (q 0)), (2, .ref (q2 0)), (3, .ref (o)), (4, .int (enc (5 * (j : Int))))]) (st' := [.int (enc (N 17 0)), .int (enc (N 17 0))]) rfl rfl rfl ?_
  have rB := hB 20 0
  have rB2 := hB 18 0
  refine tw_icmp_eq (tgt := 1636) X (In_of (by omega) (by omega)) (In_of (by omega) (by omega)) dL_law_615 (by decide) (fun _ => ?_) (fun z => absurd rfl z)
  refine Tsub (lv' := [(0, .ref (b)), (1, .ref (q 0)), (2, .ref (q2 0)), (3, .ref (o)), (4, .int (enc (5 * (j : Int))))]) [0, 1, 2, 3, 4] rfl ?_
  exact kk N sN oN U sU oU A g 0 k2 f2 _ _ (show 100 + 40 * j + 0 + 0 ≤ _ by omega) (show 1400 + 250 * j + 0 + 0 ≤ _ by omega) (hF.mono (by omega)) (hV)
set_option maxRecDepth 100000 in
set_option maxHeartbeats 4000000 in
theorem lc_10 {G : va_G} {cy cyl : ClassId} {c : Cx} {b L : Nat} {xs : Nat → Int32} {hh : List (Nat × Nat × Nat × Nat)} {q q2 : Nat → Nat} {o : Nat} {g : Nat → Int64} (X : Ok G cy c cL_law RL 9 room_1) (B : LB G cyl c hh) (hS9 : SX c b L xs) (hL : L ≤ 2560) (N : MT) (sN : Int → Int) (oN : Int) (U : MT) (sU : Int → Int) (oU : Int) (A : Int → Int) (th : Int) (kept far : Int → Int) (B0 : Int) (hF : WF N B0) (hB2 : B0 ≤ 800000) (hV : WVo N sN oN) (j : Nat) (hj : 5 * (j : Int) + 5 ≤ L) (kk : ∀ (N' : MT) (s' : Int → Int) (o' : Int) (U' : MT) (sU' : Int → Int) (oU' : Int) (A' : Int → Int) (g' : Nat → Int64) (th' : Int) (k' f' : Int → Int) (k9 n9 : Nat), k9 ≤ 140 + 40 * j → n9 ≤ 1650 + 250 * j → WF N' (B0 + 1300) → WVo N' s' o' → T G c room_1 9 k9 n9 ((wD cy q N' s' o' U' sU' oU' A' ++ oL cyl o g') ++ wP cy q2 N' th' k' f') 1636 [(0, .ref (b)), (1, .ref (q 0)), (2, .ref (q2 0)), (3, .ref (o)), (4, .int (enc (5 * (j : Int))))] []) : T G c room_1 9 (100 + 40 * j) (1400 + 250 * j) ((wD cy q N sN oN U sU oU A ++ oL cyl o g) ++ wP cy q2 N th kept far) 620 [(0, .ref (b)), (1, .ref (q 0)), (2, .ref (q2 0)), (3, .ref (o)), (4, .int (enc (5 * (j : Int))))] [] := by
  have hB := hF.bd (by omega)
  obtain ⟨w0, w1, w2, w3, w4⟩ := id hF.r
  have h17 := hF.2.2.2.2.2.1
  have h172 := hF.2.2.2.2.2.2.1
  refine tw_aload_n X dL_law_620 1 rfl rfl ?_
  refine tw_callV X (As := []) (st := []) vw_L_130 (m_X4_arrived (q := q) N sN oN U sU oU A ) [] (oL cyl o g ++ wP cy q2 N th kept far) rfl rfl (q0 := 0) rfl rfl rfl ⟨rfl, rfl, Nat.le_of_ble_eq_true rfl, Nat.le_of_ble_eq_true rfl⟩ ⟨(show 100 + 40 * j + 0 ≤ 601024 by omega), (show 1400 + 250 * j + 0 ≤ 7293034 by omega)⟩ (Nat.le_of_ble_eq_true rfl) dL_law_621 (fun v w1 hp => ?_)
  obtain ⟨rfl, rfl⟩ := hp
  refine Teq (ws' := (wD cy q N sN oN U sU oU A ++ oL cyl o g) ++ wP cy q2 N th kept far) (lv' := [(0, .ref (b)), (1, .ref (q 0)), (2, .ref (q2 0)), (3, .ref (o)), (4, .int (enc (5 * (j : Int))))]) (st' := [.int (enc (N 18 0))]) rfl rfl rfl ?_
  refine tw_aload_n X dL_law_624 2 rfl rfl ?_
  refine tw_callV X (As := []) (st := [.int (enc (N 18 0))]) vw_L_133 (m_X5_arrived (q := q2) N th kept far B0 hF hB2) (wD cy q N sN oN U sU oU A ++ oL cyl o g) [] rfl rfl (q0 := 0) rfl rfl rfl ⟨rfl, rfl, Nat.le_of_ble_eq_true rfl, Nat.le_of_ble_eq_true rfl⟩ ⟨(show 100 + 40 * j + 0 + 0 ≤ 601024 by omega), (show 1400 + 250 * j + 0 + 0 ≤ 7293034 by omega)⟩ (Nat.le_of_ble_eq_true rfl) dL_law_625 (fun v w1 hp => ?_)
  obtain ⟨rfl, k2, f2, rfl⟩ := hp
  refine Teq (ws' := (wD cy q N sN oN U sU oU A ++ oL cyl o g) ++ wP cy q2 N 0 k2 f2) (lv' := [(0, .ref (b)), (1, .ref (q 0)), (2, .ref (q2 0)), (3, .ref (o)), (4, .int (enc (5 * (j : Int))))]) (st' := [.int (enc (N 18 0)), .int (enc (N 18 0))]) rfl rfl rfl ?_
  have rB := hB 20 0
  have rB2 := hB 18 0
  refine tw_icmp_eq (tgt := 1636) X (In_of (by omega) (by omega)) (In_of (by omega) (by omega)) dL_law_628 (by decide) (fun _ => ?_) (fun z => absurd rfl z)
  refine Tsub (lv' := [(0, .ref (b)), (1, .ref (q 0)), (2, .ref (q2 0)), (3, .ref (o)), (4, .int (enc (5 * (j : Int))))]) [0, 1, 2, 3, 4] rfl ?_
  exact kk N sN oN U sU oU A g 0 k2 f2 _ _ (show 100 + 40 * j + 0 + 0 ≤ _ by omega) (show 1400 + 250 * j + 0 + 0 ≤ _ by omega) (hF.mono (by omega)) (hV)
set_option maxRecDepth 100000 in
set_option maxHeartbeats 4000000 in
theorem lc_11 {G : va_G} {cy cyl : ClassId} {c : Cx} {b L : Nat} {xs : Nat → Int32} {hh : List (Nat × Nat × Nat × Nat)} {q q2 : Nat → Nat} {o : Nat} {g : Nat → Int64} (X : Ok G cy c cL_law RL 9 room_1) (B : LB G cyl c hh) (hS9 : SX c b L xs) (hL : L ≤ 2560) (N : MT) (sN : Int → Int) (oN : Int) (U : MT) (sU : Int → Int) (oU : Int) (A : Int → Int) (th : Int) (kept far : Int → Int) (B0 : Int) (hF : WF N B0) (hB2 : B0 ≤ 800000) (hV : WVo N sN oN) (j : Nat) (hj : 5 * (j : Int) + 5 ≤ L) (kk : ∀ (N' : MT) (s' : Int → Int) (o' : Int) (U' : MT) (sU' : Int → Int) (oU' : Int) (A' : Int → Int) (g' : Nat → Int64) (th' : Int) (k' f' : Int → Int) (k9 n9 : Nat), k9 ≤ 140 + 40 * j → n9 ≤ 1650 + 250 * j → WF N' (B0 + 1300) → WVo N' s' o' → T G c room_1 9 k9 n9 ((wD cy q N' s' o' U' sU' oU' A' ++ oL cyl o g') ++ wP cy q2 N' th' k' f') 1636 [(0, .ref (b)), (1, .ref (q 0)), (2, .ref (q2 0)), (3, .ref (o)), (4, .int (enc (5 * (j : Int))))] []) : T G c room_1 9 (100 + 40 * j) (1400 + 250 * j) ((wD cy q N sN oN U sU oU A ++ oL cyl o g) ++ wP cy q2 N th kept far) 633 [(0, .ref (b)), (1, .ref (q 0)), (2, .ref (q2 0)), (3, .ref (o)), (4, .int (enc (5 * (j : Int))))] [] := by
  have hB := hF.bd (by omega)
  obtain ⟨w0, w1, w2, w3, w4⟩ := id hF.r
  have h17 := hF.2.2.2.2.2.1
  have h172 := hF.2.2.2.2.2.2.1
  refine tw_aload_n X dL_law_633 1 rfl rfl ?_
  refine tw_callV X (As := []) (st := []) vw_L_134 (m_X4_closedRoads (q := q) N sN oN U sU oU A hB (by omega)) [] (oL cyl o g ++ wP cy q2 N th kept far) rfl rfl (q0 := 0) rfl rfl rfl ⟨rfl, rfl, Nat.le_of_ble_eq_true rfl, Nat.le_of_ble_eq_true rfl⟩ ⟨(show 100 + 40 * j + 0 ≤ 601024 by omega), (show 1400 + 250 * j + 0 ≤ 7293034 by omega)⟩ (Nat.le_of_ble_eq_true rfl) dL_law_634 (fun v w1 hp => ?_)
  obtain ⟨rfl, rfl⟩ := hp
  refine Teq (ws' := (wD cy q N sN oN U sU oU A ++ oL cyl o g) ++ wP cy q2 N th kept far) (lv' := [(0, .ref (b)), (1, .ref (q 0)), (2, .ref (q2 0)), (3, .ref (o)), (4, .int (enc (5 * (j : Int))))]) (st' := [.int (enc (cntC N (N 16 0).toNat))]) rfl rfl rfl ?_
  refine tw_aload_n X dL_law_637 2 rfl rfl ?_
  refine tw_callV X (As := []) (st := [.int (enc (cntC N (N 16 0).toNat))]) vw_L_137 (m_X5_closedRoads (q := q2) N th kept far B0 hF hB2) (wD cy q N sN oN U sU oU A ++ oL cyl o g) [] rfl rfl (q0 := 0) rfl rfl rfl ⟨rfl, rfl, Nat.le_of_ble_eq_true rfl, Nat.le_of_ble_eq_true rfl⟩ ⟨(show 100 + 40 * j + 0 + 0 ≤ 601024 by omega), (show 1400 + 250 * j + 0 + 0 ≤ 7293034 by omega)⟩ (Nat.le_of_ble_eq_true rfl) dL_law_638 (fun v w1 hp => ?_)
  obtain ⟨rfl, k2, f2, rfl⟩ := hp
  refine Teq (ws' := (wD cy q N sN oN U sU oU A ++ oL cyl o g) ++ wP cy q2 N 0 k2 f2) (lv' := [(0, .ref (b)), (1, .ref (q 0)), (2, .ref (q2 0)), (3, .ref (o)), (4, .int (enc (5 * (j : Int))))]) (st' := [.int (enc (cntC N (N 16 0).toNat)), .int (enc (cntC N (N 16 0).toNat))]) rfl rfl rfl ?_
  have r1 := cntC_rng N (N 16 0).toNat
  have rB := hB 20 0
  have rB2 := hB 18 0
  refine tw_icmp_eq (tgt := 1636) X (In_of (by omega) (by omega)) (In_of (by omega) (by omega)) dL_law_641 (by decide) (fun _ => ?_) (fun z => absurd rfl z)
  refine Tsub (lv' := [(0, .ref (b)), (1, .ref (q 0)), (2, .ref (q2 0)), (3, .ref (o)), (4, .int (enc (5 * (j : Int))))]) [0, 1, 2, 3, 4] rfl ?_
  exact kk N sN oN U sU oU A g 0 k2 f2 _ _ (show 100 + 40 * j + 0 + 0 ≤ _ by omega) (show 1400 + 250 * j + 0 + 0 ≤ _ by omega) (hF.mono (by omega)) (hV)
set_option maxRecDepth 100000 in
set_option maxHeartbeats 4000000 in
theorem lc_12 {G : va_G} {cy cyl : ClassId} {c : Cx} {b L : Nat} {xs : Nat → Int32} {hh : List (Nat × Nat × Nat × Nat)} {q q2 : Nat → Nat} {o : Nat} {g : Nat → Int64} (X : Ok G cy c cL_law RL 9 room_1) (B : LB G cyl c hh) (hS9 : SX c b L xs) (hL : L ≤ 2560) (N : MT) (sN : Int → Int) (oN : Int) (U : MT) (sU : Int → Int) (oU : Int) (A : Int → Int) (th : Int) (kept far : Int → Int) (B0 : Int) (hF : WF N B0) (hB2 : B0 ≤ 800000) (hV : WVo N sN oN) (j : Nat) (hj : 5 * (j : Int) + 5 ≤ L) (kk : ∀ (N' : MT) (s' : Int → Int) (o' : Int) (U' : MT) (sU' : Int → Int) (oU' : Int) (A' : Int → Int) (g' : Nat → Int64) (th' : Int) (k' f' : Int → Int) (k9 n9 : Nat), k9 ≤ 140 + 40 * j → n9 ≤ 1650 + 250 * j → WF N' (B0 + 1300) → WVo N' s' o' → T G c room_1 9 k9 n9 ((wD cy q N' s' o' U' sU' oU' A' ++ oL cyl o g') ++ wP cy q2 N' th' k' f') 1636 [(0, .ref (b)), (1, .ref (q 0)), (2, .ref (q2 0)), (3, .ref (o)), (4, .int (enc (5 * (j : Int))))] []) : T G c room_1 9 (100 + 40 * j) (1400 + 250 * j) ((wD cy q N sN oN U sU oU A ++ oL cyl o g) ++ wP cy q2 N th kept far) 646 [(0, .ref (b)), (1, .ref (q 0)), (2, .ref (q2 0)), (3, .ref (o)), (4, .int (enc (5 * (j : Int))))] [] := by
  have hB := hF.bd (by omega)
  obtain ⟨w0, w1, w2, w3, w4⟩ := id hF.r
  have h17 := hF.2.2.2.2.2.1
  have h172 := hF.2.2.2.2.2.2.1
  refine tw_aload_n X dL_law_646 1 rfl rfl ?_
  refine tw_callV X (As := []) (st := []) vw_L_138 (m_X4_allFrayed (q := q) N sN oN U sU oU A hB (by omega)) [] (oL cyl o g ++ wP cy q2 N th kept far) rfl rfl (q0 := 0) rfl rfl rfl ⟨rfl, rfl, Nat.le_of_ble_eq_true rfl, Nat.le_of_ble_eq_true rfl⟩ ⟨(show 100 + 40 * j + 0 ≤ 601024 by omega), (show 1400 + 250 * j + 0 ≤ 7293034 by omega)⟩ (Nat.le_of_ble_eq_true rfl) dL_law_647 (fun v w1 hp => ?_)
  obtain ⟨rfl, rfl⟩ := hp
  refine Teq (ws' := (wD cy q N sN oN U sU oU A ++ oL cyl o g) ++ wP cy q2 N th kept far) (lv' := [(0, .ref (b)), (1, .ref (q 0)), (2, .ref (q2 0)), (3, .ref (o)), (4, .int (enc (5 * (j : Int))))]) (st' := [.int (enc (frI N (N 17 0).toNat))]) rfl rfl rfl ?_
  refine tw_aload_n X dL_law_650 2 rfl rfl ?_
  refine tw_callV X (As := []) (st := [.int (enc (frI N (N 17 0).toNat))]) vw_L_141 (m_X5_allFrayed (q := q2) N th kept far B0 hF hB2) (wD cy q N sN oN U sU oU A ++ oL cyl o g) [] rfl rfl (q0 := 0) rfl rfl rfl ⟨rfl, rfl, Nat.le_of_ble_eq_true rfl, Nat.le_of_ble_eq_true rfl⟩ ⟨(show 100 + 40 * j + 0 + 0 ≤ 601024 by omega), (show 1400 + 250 * j + 0 + 0 ≤ 7293034 by omega)⟩ (Nat.le_of_ble_eq_true rfl) dL_law_651 (fun v w1 hp => ?_)
  obtain ⟨rfl, k2, f2, rfl⟩ := hp
  refine Teq (ws' := (wD cy q N sN oN U sU oU A ++ oL cyl o g) ++ wP cy q2 N 0 k2 f2) (lv' := [(0, .ref (b)), (1, .ref (q 0)), (2, .ref (q2 0)), (3, .ref (o)), (4, .int (enc (5 * (j : Int))))]) (st' := [.int (enc (frI N (N 17 0).toNat)), .int (enc (frI N (N 17 0).toNat))]) rfl rfl rfl ?_
  have r1 := frI_rng hB (N 17 0).toNat
  have rB := hB 20 0
  have rB2 := hB 18 0
  refine tw_icmp_eq (tgt := 1636) X (In_of (by omega) (by omega)) (In_of (by omega) (by omega)) dL_law_654 (by decide) (fun _ => ?_) (fun z => absurd rfl z)
  refine Tsub (lv' := [(0, .ref (b)), (1, .ref (q 0)), (2, .ref (q2 0)), (3, .ref (o)), (4, .int (enc (5 * (j : Int))))]) [0, 1, 2, 3, 4] rfl ?_
  exact kk N sN oN U sU oU A g 0 k2 f2 _ _ (show 100 + 40 * j + 0 + 0 ≤ _ by omega) (show 1400 + 250 * j + 0 + 0 ≤ _ by omega) (hF.mono (by omega)) (hV)
set_option maxRecDepth 100000 in
set_option maxHeartbeats 4000000 in
theorem lc_13 {G : va_G} {cy cyl : ClassId} {c : Cx} {b L : Nat} {xs : Nat → Int32} {hh : List (Nat × Nat × Nat × Nat)} {q q2 : Nat → Nat} {o : Nat} {g : Nat → Int64} (X : Ok G cy c cL_law RL 9 room_1) (B : LB G cyl c hh) (hS9 : SX c b L xs) (hL : L ≤ 2560) (N : MT) (sN : Int → Int) (oN : Int) (U : MT) (sU : Int → Int) (oU : Int) (A : Int → Int) (th : Int) (kept far : Int → Int) (B0 : Int) (hF : WF N B0) (hB2 : B0 ≤ 800000) (hV : WVo N sN oN) (j : Nat) (hj : 5 * (j : Int) + 5 ≤ L) (kk : ∀ (N' : MT) (s' : Int → Int) (o' : Int) (U' : MT) (sU' : Int → Int) (oU' : Int) (A' : Int → Int) (g' : Nat → Int64) (th' : Int) (k' f' : Int → Int) (k9 n9 : Nat), k9 ≤ 140 + 40 * j → n9 ≤ 1650 + 250 * j → WF N' (B0 + 1300) → WVo N' s' o' → T G c room_1 9 k9 n9 ((wD cy q N' s' o' U' sU' oU' A' ++ oL cyl o g') ++ wP cy q2 N' th' k' f') 1636 [(0, .ref (b)), (1, .ref (q 0)), (2, .ref (q2 0)), (3, .ref (o)), (4, .int (enc (5 * (j : Int))))] []) : T G c room_1 9 (100 + 40 * j) (1400 + 250 * j) ((wD cy q N sN oN U sU oU A ++ oL cyl o g) ++ wP cy q2 N th kept far) 659 [(0, .ref (b)), (1, .ref (q 0)), (2, .ref (q2 0)), (3, .ref (o)), (4, .int (enc (5 * (j : Int))))] [] := by
  have hB := hF.bd (by omega)
  obtain ⟨w0, w1, w2, w3, w4⟩ := id hF.r
  have h17 := hF.2.2.2.2.2.1
  have h172 := hF.2.2.2.2.2.2.1
  obtain ⟨x, hx, ex⟩ : ∃ x : Int, In x ∧ (xs (5 * (j : Int) + 1).toNat).toInt = x := ⟨_, In_i32 _, rfl⟩
  refine tw_aload_n X dL_law_659 1 rfl rfl ?_
  refine tw_aload_n X dL_law_660 0 rfl rfl ?_
  refine tw_iload X dL_law_661 4 rfl ?_
  refine tw_iconst X dL_law_663 ?_
  refine tw_iadd (z := 5 * (j : Int) + 1) X dL_law_664 rfl ?_
  refine tl_sld X hS9 hL (z := 5 * (j : Int) + 1) (by omega) dL_law_665 ?_
  refine Tst (st' := [.int (enc (x)), .ref (q 0)]) (by rw [ex]) ?_
  refine tw_aload_n X dL_law_666 3 rfl rfl ?_
  refine tl_callW X B (As := [.ref (q 0), .int (enc (x)), .ref (o)]) (st := []) rfl xw_lengthOf (w_lengthOf (q := q) (o := o) (g := g) N sN oN U sU oU A x hx B0 hF hB2 hV) [] (wP cy q2 N th kept far) rfl rfl rfl ⟨rfl, rfl, Nat.le_of_ble_eq_true rfl, Nat.le_of_ble_eq_true rfl⟩ ⟨(show 100 + 40 * j + 1 ≤ 601024 by omega), (show 1400 + 250 * j + 6 ≤ 7293034 by omega)⟩ (Nat.le_of_ble_eq_true rfl) dL_law_667 (fun v w1 hp => ?_)
  obtain ⟨rfl, g1, s1, o1, U1, sU1, oU1, A1, hg1, hV1, rfl⟩ := hp
  refine Teq (ws' := (wD cy q N s1 o1 U1 sU1 oU1 A1 ++ oL cyl o g1) ++ wP cy q2 N th kept far) (lv' := [(0, .ref (b)), (1, .ref (q 0)), (2, .ref (q2 0)), (3, .ref (o)), (4, .int (enc (5 * (j : Int))))]) (st' := [.int (enc (kR N x))]) rfl rfl rfl ?_
  refine tw_istore (lv' := [(5, .int (enc (kR N x))), (0, .ref (b)), (1, .ref (q 0)), (2, .ref (q2 0)), (3, .ref (o)), (4, .int (enc (5 * (j : Int))))]) X dL_law_670 (by decide) rfl ?_
  refine tw_aload_n X dL_law_672 3 rfl rfl ?_
  refine tw_aload_n X dL_law_673 1 rfl rfl ?_
  refine tw_iload X dL_law_674 5 rfl ?_
  refine tw_iconst X dL_law_676 ?_
  refine tw_iadd (z := 5 * (j : Int) + 1) X dL_law_677 rfl ?_
  refine tl_sld X hS9 hL (z := 5 * (j : Int) + 1) (by omega) dL_law_678 ?_
  refine Tst (st' := [.int (enc (x)), .ref (q2 0)]) (by rw [ex]) ?_
  refine tw_callV X (As := [.int (enc (x))]) (st := []) vw_L_144 (m_X5_lengthOf (q := q2) N th kept far x hx B0 hF hB2) (wD cy q N s1 o1 U1 sU1 oU1 A1 ++ oL cyl o g1) [] rfl rfl (q0 := 0) rfl rfl rfl ⟨rfl, rfl, Nat.le_of_ble_eq_true rfl, Nat.le_of_ble_eq_true rfl⟩ ⟨(show 100 + 40 * j + 1 + 0 ≤ 601024 by omega), (show 1400 + 250 * j + 6 + 0 ≤ 7293034 by omega)⟩ (Nat.le_of_ble_eq_true rfl) dL_law_679 (fun v w1 hp => ?_)
  obtain ⟨rfl, k2, f2, rfl⟩ := hp
  refine Teq (ws' := (wD cy q N s1 o1 U1 sU1 oU1 A1 ++ oL cyl o g1) ++ wP cy q2 N (kR N x) k2 f2) (lv' := [(5, .int (enc (kR N x))), (0, .ref (b)), (1, .ref (q 0)), (2, .ref (q2 0)), (3, .ref (o)), (4, .int (enc (5 * (j : Int))))]) (st' := [.int (enc (if kR N x = 0 then len N x else 0))]) rfl rfl rfl ?_
  refine tw_istore (lv' := [(6, .int (enc (if kR N x = 0 then len N x else 0))), (5, .int (enc (kR N x))), (0, .ref (b)), (1, .ref (q 0)), (2, .ref (q2 0)), (3, .ref (o)), (4, .int (enc (5 * (j : Int))))]) X dL_law_682 (by decide) rfl ?_
  refine tw_aload_n X dL_law_684 4 rfl rfl ?_
  refine tw_callV X (As := []) (st := []) vw_L_93 (m_X5_thrown (q := q2) N (kR N x) k2 f2) (wD cy q N s1 o1 U1 sU1 oU1 A1 ++ oL cyl o g1) [] rfl rfl (q0 := 0) rfl rfl rfl ⟨rfl, rfl, Nat.le_of_ble_eq_true rfl, Nat.le_of_ble_eq_true rfl⟩ ⟨(show 100 + 40 * j + 1 + 0 + 0 ≤ 601024 by omega), (show 1400 + 250 * j + 6 + 0 + 0 ≤ 7293034 by omega)⟩ (Nat.le_of_ble_eq_true rfl) dL_law_685 (fun v w1 hp => ?_)
  obtain ⟨rfl, rfl⟩ := hp
  refine Teq (ws' := (wD cy q N s1 o1 U1 sU1 oU1 A1 ++ oL cyl o g1) ++ wP cy q2 N (kR N x) k2 f2) (lv' := [(6, .int (enc (if kR N x = 0 then len N x else 0))), (5, .int (enc (kR N x))), (0, .ref (b)), (1, .ref (q 0)), (2, .ref (q2 0)), (3, .ref (o)), (4, .int (enc (5 * (j : Int))))]) (st' := [.int (enc (kR N x))]) rfl rfl rfl ?_
  refine tw_iload X dL_law_688 1 rfl ?_
  refine tw_icmp_eq (tgt := 695) X (In_kR _ _) (In_kR _ _) dL_law_690 (by decide) (fun _ => ?_) (fun z => absurd rfl z)
  refine tw_iload X dL_law_695 1 rfl ?_
  refine tw_if_ne (tgt := 712) X (In_kR _ _) dL_law_697 (by decide) (fun _ => ?_) (fun hk => ?_)
  · skip
    refine tw_goto (tgt := 1636) X dL_law_712 (by decide) ?_
    refine Tsub (lv' := [(0, .ref (b)), (1, .ref (q 0)), (2, .ref (q2 0)), (3, .ref (o)), (4, .int (enc (5 * (j : Int))))]) [2, 3, 4, 5, 6] rfl ?_
    exact kk N s1 o1 U1 sU1 oU1 A1 g1 (kR N x) k2 f2 _ _ (show 100 + 40 * j + 1 + 0 + 0 ≤ _ by omega) (show 1400 + 250 * j + 6 + 0 + 0 ≤ _ by omega) (hF.mono (by omega)) (hV1)
  · skip
    refine tw_aload_n X dL_law_700 5 rfl rfl ?_
    refine tw_iconst X dL_law_701 ?_
    refine tl_lald X B (g := g1) 45 rfl dL_law_702 ?_
    refine tw_iload X dL_law_703 0 rfl ?_
    refine tw_i2lr X dL_law_705 ?_
    refine tw_lcmp X dL_law_706 ?_
    refine Tst (st' := [.int (enc 0)]) (by rw [hg1 hk, if_pos hk, lg_self]) ?_
    refine tw_if_eq (tgt := 712) X In0 dL_law_707 (by decide) (fun _ => ?_) (fun z => absurd rfl z)
    refine tw_goto (tgt := 1636) X dL_law_712 (by decide) ?_
    refine Tsub (lv' := [(0, .ref (b)), (1, .ref (q 0)), (2, .ref (q2 0)), (3, .ref (o)), (4, .int (enc (5 * (j : Int))))]) [2, 3, 4, 5, 6] rfl ?_
    exact kk N s1 o1 U1 sU1 oU1 A1 g1 (kR N x) k2 f2 _ _ (show 100 + 40 * j + 1 + 0 + 0 ≤ _ by omega) (show 1400 + 250 * j + 6 + 0 + 0 ≤ _ by omega) (hF.mono (by omega)) (hV1)
set_option maxRecDepth 100000 in
set_option maxHeartbeats 4000000 in
theorem lc_14 {G : va_G} {cy cyl : ClassId} {c : Cx} {b L : Nat} {xs : Nat → Int32} {hh : List (Nat × Nat × Nat × Nat)} {q q2 : Nat → Nat} {o : Nat} {g : Nat → Int64} (X : Ok G cy c cL_law RL 9 room_1) (B : LB G cyl c hh) (hS9 : SX c b L xs) (hL : L ≤ 2560) (N : MT) (sN : Int → Int) (oN : Int) (U : MT) (sU : Int → Int) (oU : Int) (A : Int → Int) (th : Int) (kept far : Int → Int) (B0 : Int) (hF : WF N B0) (hB2 : B0 ≤ 800000) (hV : WVo N sN oN) (j : Nat) (hj : 5 * (j : Int) + 5 ≤ L) (kk : ∀ (N' : MT) (s' : Int → Int) (o' : Int) (U' : MT) (sU' : Int → Int) (oU' : Int) (A' : Int → Int) (g' : Nat → Int64) (th' : Int) (k' f' : Int → Int) (k9 n9 : Nat), k9 ≤ 140 + 40 * j → n9 ≤ 1650 + 250 * j → WF N' (B0 + 1300) → WVo N' s' o' → T G c room_1 9 k9 n9 ((wD cy q N' s' o' U' sU' oU' A' ++ oL cyl o g') ++ wP cy q2 N' th' k' f') 1636 [(0, .ref (b)), (1, .ref (q 0)), (2, .ref (q2 0)), (3, .ref (o)), (4, .int (enc (5 * (j : Int))))] []) : T G c room_1 9 (100 + 40 * j) (1400 + 250 * j) ((wD cy q N sN oN U sU oU A ++ oL cyl o g) ++ wP cy q2 N th kept far) 715 [(0, .ref (b)), (1, .ref (q 0)), (2, .ref (q2 0)), (3, .ref (o)), (4, .int (enc (5 * (j : Int))))] [] := by
  have hB := hF.bd (by omega)
  obtain ⟨w0, w1, w2, w3, w4⟩ := id hF.r
  have h17 := hF.2.2.2.2.2.1
  have h172 := hF.2.2.2.2.2.2.1
  obtain ⟨x, hx, ex⟩ : ∃ x : Int, In x ∧ (xs (5 * (j : Int) + 1).toNat).toInt = x := ⟨_, In_i32 _, rfl⟩
  refine tw_aload_n X dL_law_715 1 rfl rfl ?_
  refine tw_aload_n X dL_law_716 0 rfl rfl ?_
  refine tw_iload X dL_law_717 4 rfl ?_
  refine tw_iconst X dL_law_719 ?_
  refine tw_iadd (z := 5 * (j : Int) + 1) X dL_law_720 rfl ?_
  refine tl_sld X hS9 hL (z := 5 * (j : Int) + 1) (by omega) dL_law_721 ?_
  refine Tst (st' := [.int (enc (x)), .ref (q 0)]) (by rw [ex]) ?_
  refine tw_aload_n X dL_law_722 3 rfl rfl ?_
  refine tl_callW X B (As := [.ref (q 0), .int (enc (x)), .ref (o)]) (st := []) rfl xw_wearOf (w_wearOf (q := q) (o := o) (g := g) N sN oN U sU oU A x hx B0 hF hB2 hV) [] (wP cy q2 N th kept far) rfl rfl rfl ⟨rfl, rfl, Nat.le_of_ble_eq_true rfl, Nat.le_of_ble_eq_true rfl⟩ ⟨(show 100 + 40 * j + 1 ≤ 601024 by omega), (show 1400 + 250 * j + 6 ≤ 7293034 by omega)⟩ (Nat.le_of_ble_eq_true rfl) dL_law_723 (fun v w1 hp => ?_)
  obtain ⟨rfl, g1, s1, o1, U1, sU1, oU1, A1, hg1, hV1, rfl⟩ := hp
  refine Teq (ws' := (wD cy q N s1 o1 U1 sU1 oU1 A1 ++ oL cyl o g1) ++ wP cy q2 N th kept far) (lv' := [(0, .ref (b)), (1, .ref (q 0)), (2, .ref (q2 0)), (3, .ref (o)), (4, .int (enc (5 * (j : Int))))]) (st' := [.int (enc (kR N x))]) rfl rfl rfl ?_
  refine tw_istore (lv' := [(5, .int (enc (kR N x))), (0, .ref (b)), (1, .ref (q 0)), (2, .ref (q2 0)), (3, .ref (o)), (4, .int (enc (5 * (j : Int))))]) X dL_law_726 (by decide) rfl ?_
  refine tw_aload_n X dL_law_728 3 rfl rfl ?_
  refine tw_aload_n X dL_law_729 1 rfl rfl ?_
  refine tw_iload X dL_law_730 5 rfl ?_
  refine tw_iconst X dL_law_732 ?_
  refine tw_iadd (z := 5 * (j : Int) + 1) X dL_law_733 rfl ?_
  refine tl_sld X hS9 hL (z := 5 * (j : Int) + 1) (by omega) dL_law_734 ?_
  refine Tst (st' := [.int (enc (x)), .ref (q2 0)]) (by rw [ex]) ?_
  refine tw_callV X (As := [.int (enc (x))]) (st := []) vw_L_147 (m_X5_wearOf (q := q2) N th kept far x hx B0 hF hB2) (wD cy q N s1 o1 U1 sU1 oU1 A1 ++ oL cyl o g1) [] rfl rfl (q0 := 0) rfl rfl rfl ⟨rfl, rfl, Nat.le_of_ble_eq_true rfl, Nat.le_of_ble_eq_true rfl⟩ ⟨(show 100 + 40 * j + 1 + 0 ≤ 601024 by omega), (show 1400 + 250 * j + 6 + 0 ≤ 7293034 by omega)⟩ (Nat.le_of_ble_eq_true rfl) dL_law_735 (fun v w1 hp => ?_)
  obtain ⟨rfl, k2, f2, rfl⟩ := hp
  refine Teq (ws' := (wD cy q N s1 o1 U1 sU1 oU1 A1 ++ oL cyl o g1) ++ wP cy q2 N (kR N x) k2 f2) (lv' := [(5, .int (enc (kR N x))), (0, .ref (b)), (1, .ref (q 0)), (2, .ref (q2 0)), (3, .ref (o)), (4, .int (enc (5 * (j : Int))))]) (st' := [.int (enc (if kR N x = 0 then N 4 x else 0))]) rfl rfl rfl ?_
  refine tw_istore (lv' := [(6, .int (enc (if kR N x = 0 then N 4 x else 0))), (5, .int (enc (kR N x))), (0, .ref (b)), (1, .ref (q 0)), (2, .ref (q2 0)), (3, .ref (o)), (4, .int (enc (5 * (j : Int))))]) X dL_law_738 (by decide) rfl ?_
  refine tw_aload_n X dL_law_740 4 rfl rfl ?_
  refine tw_callV X (As := []) (st := []) vw_L_93 (m_X5_thrown (q := q2) N (kR N x) k2 f2) (wD cy q N s1 o1 U1 sU1 oU1 A1 ++ oL cyl o g1) [] rfl rfl (q0 := 0) rfl rfl rfl ⟨rfl, rfl, Nat.le_of_ble_eq_true rfl, Nat.le_of_ble_eq_true rfl⟩ ⟨(show 100 + 40 * j + 1 + 0 + 0 ≤ 601024 by omega), (show 1400 + 250 * j + 6 + 0 + 0 ≤ 7293034 by omega)⟩ (Nat.le_of_ble_eq_true rfl) dL_law_741 (fun v w1 hp => ?_)
  obtain ⟨rfl, rfl⟩ := hp
  refine Teq (ws' := (wD cy q N s1 o1 U1 sU1 oU1 A1 ++ oL cyl o g1) ++ wP cy q2 N (kR N x) k2 f2) (lv' := [(6, .int (enc (if kR N x = 0 then N 4 x else 0))), (5, .int (enc (kR N x))), (0, .ref (b)), (1, .ref (q 0)), (2, .ref (q2 0)), (3, .ref (o)), (4, .int (enc (5 * (j : Int))))]) (st' := [.int (enc (kR N x))]) rfl rfl rfl ?_
  refine tw_iload X dL_law_744 1 rfl ?_
  refine tw_icmp_eq (tgt := 751) X (In_kR _ _) (In_kR _ _) dL_law_746 (by decide) (fun _ => ?_) (fun z => absurd rfl z)
  refine tw_iload X dL_law_751 1 rfl ?_
  refine tw_if_ne (tgt := 768) X (In_kR _ _) dL_law_753 (by decide) (fun _ => ?_) (fun hk => ?_)
  · skip
    refine tw_goto (tgt := 1636) X dL_law_768 (by decide) ?_
    refine Tsub (lv' := [(0, .ref (b)), (1, .ref (q 0)), (2, .ref (q2 0)), (3, .ref (o)), (4, .int (enc (5 * (j : Int))))]) [2, 3, 4, 5, 6] rfl ?_
    exact kk N s1 o1 U1 sU1 oU1 A1 g1 (kR N x) k2 f2 _ _ (show 100 + 40 * j + 1 + 0 + 0 ≤ _ by omega) (show 1400 + 250 * j + 6 + 0 + 0 ≤ _ by omega) (hF.mono (by omega)) (hV1)
  · skip
    refine tw_aload_n X dL_law_756 5 rfl rfl ?_
    refine tw_iconst X dL_law_757 ?_
    refine tl_lald X B (g := g1) 45 rfl dL_law_758 ?_
    refine tw_iload X dL_law_759 0 rfl ?_
    refine tw_i2lr X dL_law_761 ?_
    refine tw_lcmp X dL_law_762 ?_
    refine Tst (st' := [.int (enc 0)]) (by rw [hg1 hk, if_pos hk, lg_self]) ?_
    refine tw_if_eq (tgt := 768) X In0 dL_law_763 (by decide) (fun _ => ?_) (fun z => absurd rfl z)
    refine tw_goto (tgt := 1636) X dL_law_768 (by decide) ?_
    refine Tsub (lv' := [(0, .ref (b)), (1, .ref (q 0)), (2, .ref (q2 0)), (3, .ref (o)), (4, .int (enc (5 * (j : Int))))]) [2, 3, 4, 5, 6] rfl ?_
    exact kk N s1 o1 U1 sU1 oU1 A1 g1 (kR N x) k2 f2 _ _ (show 100 + 40 * j + 1 + 0 + 0 ≤ _ by omega) (show 1400 + 250 * j + 6 + 0 + 0 ≤ _ by omega) (hF.mono (by omega)) (hV1)
set_option maxRecDepth 100000 in
set_option maxHeartbeats 4000000 in
theorem lc_15 {G : va_G} {cy cyl : ClassId} {c : Cx} {b L : Nat} {xs : Nat → Int32} {hh : List (Nat × Nat × Nat × Nat)} {q q2 : Nat → Nat} {o : Nat} {g : Nat → Int64} (X : Ok G cy c cL_law RL 9 room_1) (B : LB G cyl c hh) (hS9 : SX c b L xs) (hL : L ≤ 2560) (N : MT) (sN : Int → Int) (oN : Int) (U : MT) (sU : Int → Int) (oU : Int) (A : Int → Int) (th : Int) (kept far : Int → Int) (B0 : Int) (hF : WF N B0) (hB2 : B0 ≤ 800000) (hV : WVo N sN oN) (j : Nat) (hj : 5 * (j : Int) + 5 ≤ L) (kk : ∀ (N' : MT) (s' : Int → Int) (o' : Int) (U' : MT) (sU' : Int → Int) (oU' : Int) (A' : Int → Int) (g' : Nat → Int64) (th' : Int) (k' f' : Int → Int) (k9 n9 : Nat), k9 ≤ 140 + 40 * j → n9 ≤ 1650 + 250 * j → WF N' (B0 + 1300) → WVo N' s' o' → T G c room_1 9 k9 n9 ((wD cy q N' s' o' U' sU' oU' A' ++ oL cyl o g') ++ wP cy q2 N' th' k' f') 1636 [(0, .ref (b)), (1, .ref (q 0)), (2, .ref (q2 0)), (3, .ref (o)), (4, .int (enc (5 * (j : Int))))] []) : T G c room_1 9 (100 + 40 * j) (1400 + 250 * j) ((wD cy q N sN oN U sU oU A ++ oL cyl o g) ++ wP cy q2 N th kept far) 771 [(0, .ref (b)), (1, .ref (q 0)), (2, .ref (q2 0)), (3, .ref (o)), (4, .int (enc (5 * (j : Int))))] [] := by
  have hB := hF.bd (by omega)
  obtain ⟨w0, w1, w2, w3, w4⟩ := id hF.r
  have h17 := hF.2.2.2.2.2.1
  have h172 := hF.2.2.2.2.2.2.1
  obtain ⟨x, hx, ex⟩ : ∃ x : Int, In x ∧ (xs (5 * (j : Int) + 1).toNat).toInt = x := ⟨_, In_i32 _, rfl⟩
  refine tw_aload_n X dL_law_771 1 rfl rfl ?_
  refine tw_aload_n X dL_law_772 0 rfl rfl ?_
  refine tw_iload X dL_law_773 4 rfl ?_
  refine tw_iconst X dL_law_775 ?_
  refine tw_iadd (z := 5 * (j : Int) + 1) X dL_law_776 rfl ?_
  refine tl_sld X hS9 hL (z := 5 * (j : Int) + 1) (by omega) dL_law_777 ?_
  refine Tst (st' := [.int (enc (x)), .ref (q 0)]) (by rw [ex]) ?_
  refine tw_aload_n X dL_law_778 3 rfl rfl ?_
  refine tl_callW X B (As := [.ref (q 0), .int (enc (x)), .ref (o)]) (st := []) rfl xw_knotsOf (w_knotsOf (q := q) (o := o) (g := g) N sN oN U sU oU A x hx B0 hF hB2 hV) [] (wP cy q2 N th kept far) rfl rfl rfl ⟨rfl, rfl, Nat.le_of_ble_eq_true rfl, Nat.le_of_ble_eq_true rfl⟩ ⟨(show 100 + 40 * j + 1 ≤ 601024 by omega), (show 1400 + 250 * j + 6 ≤ 7293034 by omega)⟩ (Nat.le_of_ble_eq_true rfl) dL_law_779 (fun v w1 hp => ?_)
  obtain ⟨rfl, g1, s1, o1, U1, sU1, oU1, A1, hg1, hV1, rfl⟩ := hp
  refine Teq (ws' := (wD cy q N s1 o1 U1 sU1 oU1 A1 ++ oL cyl o g1) ++ wP cy q2 N th kept far) (lv' := [(0, .ref (b)), (1, .ref (q 0)), (2, .ref (q2 0)), (3, .ref (o)), (4, .int (enc (5 * (j : Int))))]) (st' := [.int (enc (kR N x))]) rfl rfl rfl ?_
  refine tw_istore (lv' := [(5, .int (enc (kR N x))), (0, .ref (b)), (1, .ref (q 0)), (2, .ref (q2 0)), (3, .ref (o)), (4, .int (enc (5 * (j : Int))))]) X dL_law_782 (by decide) rfl ?_
  refine tw_aload_n X dL_law_784 3 rfl rfl ?_
  refine tw_aload_n X dL_law_785 1 rfl rfl ?_
  refine tw_iload X dL_law_786 5 rfl ?_
  refine tw_iconst X dL_law_788 ?_
  refine tw_iadd (z := 5 * (j : Int) + 1) X dL_law_789 rfl ?_
  refine tl_sld X hS9 hL (z := 5 * (j : Int) + 1) (by omega) dL_law_790 ?_
  refine Tst (st' := [.int (enc (x)), .ref (q2 0)]) (by rw [ex]) ?_
  refine tw_callV X (As := [.int (enc (x))]) (st := []) vw_L_150 (m_X5_knotsOf (q := q2) N th kept far x hx B0 hF hB2) (wD cy q N s1 o1 U1 sU1 oU1 A1 ++ oL cyl o g1) [] rfl rfl (q0 := 0) rfl rfl rfl ⟨rfl, rfl, Nat.le_of_ble_eq_true rfl, Nat.le_of_ble_eq_true rfl⟩ ⟨(show 100 + 40 * j + 1 + 0 ≤ 601024 by omega), (show 1400 + 250 * j + 6 + 0 ≤ 7293034 by omega)⟩ (Nat.le_of_ble_eq_true rfl) dL_law_791 (fun v w1 hp => ?_)
  obtain ⟨rfl, k2, f2, rfl⟩ := hp
  refine Teq (ws' := (wD cy q N s1 o1 U1 sU1 oU1 A1 ++ oL cyl o g1) ++ wP cy q2 N (kR N x) k2 f2) (lv' := [(5, .int (enc (kR N x))), (0, .ref (b)), (1, .ref (q 0)), (2, .ref (q2 0)), (3, .ref (o)), (4, .int (enc (5 * (j : Int))))]) (st' := [.int (enc (if kR N x = 0 then N 5 x else 0))]) rfl rfl rfl ?_
  refine tw_istore (lv' := [(6, .int (enc (if kR N x = 0 then N 5 x else 0))), (5, .int (enc (kR N x))), (0, .ref (b)), (1, .ref (q 0)), (2, .ref (q2 0)), (3, .ref (o)), (4, .int (enc (5 * (j : Int))))]) X dL_law_794 (by decide) rfl ?_
  refine tw_aload_n X dL_law_796 4 rfl rfl ?_
  refine tw_callV X (As := []) (st := []) vw_L_93 (m_X5_thrown (q := q2) N (kR N x) k2 f2) (wD cy q N s1 o1 U1 sU1 oU1 A1 ++ oL cyl o g1) [] rfl rfl (q0 := 0) rfl rfl rfl ⟨rfl, rfl, Nat.le_of_ble_eq_true rfl, Nat.le_of_ble_eq_true rfl⟩ ⟨(show 100 + 40 * j + 1 + 0 + 0 ≤ 601024 by omega), (show 1400 + 250 * j + 6 + 0 + 0 ≤ 7293034 by omega)⟩ (Nat.le_of_ble_eq_true rfl) dL_law_797 (fun v w1 hp => ?_)
  obtain ⟨rfl, rfl⟩ := hp
  refine Teq (ws' := (wD cy q N s1 o1 U1 sU1 oU1 A1 ++ oL cyl o g1) ++ wP cy q2 N (kR N x) k2 f2) (lv' := [(6, .int (enc (if kR N x = 0 then N 5 x else 0))), (5, .int (enc (kR N x))), (0, .ref (b)), (1, .ref (q 0)), (2, .ref (q2 0)), (3, .ref (o)), (4, .int (enc (5 * (j : Int))))]) (st' := [.int (enc (kR N x))]) rfl rfl rfl ?_
  refine tw_iload X dL_law_800 1 rfl ?_
  refine tw_icmp_eq (tgt := 807) X (In_kR _ _) (In_kR _ _) dL_law_802 (by decide) (fun _ => ?_) (fun z => absurd rfl z)
  refine tw_iload X dL_law_807 1 rfl ?_
  refine tw_if_ne (tgt := 824) X (In_kR _ _) dL_law_809 (by decide) (fun _ => ?_) (fun hk => ?_)
  · skip
    refine tw_goto (tgt := 1636) X dL_law_824 (by decide) ?_
    refine Tsub (lv' := [(0, .ref (b)), (1, .ref (q 0)), (2, .ref (q2 0)), (3, .ref (o)), (4, .int (enc (5 * (j : Int))))]) [2, 3, 4, 5, 6] rfl ?_
    exact kk N s1 o1 U1 sU1 oU1 A1 g1 (kR N x) k2 f2 _ _ (show 100 + 40 * j + 1 + 0 + 0 ≤ _ by omega) (show 1400 + 250 * j + 6 + 0 + 0 ≤ _ by omega) (hF.mono (by omega)) (hV1)
  · skip
    refine tw_aload_n X dL_law_812 5 rfl rfl ?_
    refine tw_iconst X dL_law_813 ?_
    refine tl_lald X B (g := g1) 45 rfl dL_law_814 ?_
    refine tw_iload X dL_law_815 0 rfl ?_
    refine tw_i2lr X dL_law_817 ?_
    refine tw_lcmp X dL_law_818 ?_
    refine Tst (st' := [.int (enc 0)]) (by rw [hg1 hk, if_pos hk, lg_self]) ?_
    refine tw_if_eq (tgt := 824) X In0 dL_law_819 (by decide) (fun _ => ?_) (fun z => absurd rfl z)
    refine tw_goto (tgt := 1636) X dL_law_824 (by decide) ?_
    refine Tsub (lv' := [(0, .ref (b)), (1, .ref (q 0)), (2, .ref (q2 0)), (3, .ref (o)), (4, .int (enc (5 * (j : Int))))]) [2, 3, 4, 5, 6] rfl ?_
    exact kk N s1 o1 U1 sU1 oU1 A1 g1 (kR N x) k2 f2 _ _ (show 100 + 40 * j + 1 + 0 + 0 ≤ _ by omega) (show 1400 + 250 * j + 6 + 0 + 0 ≤ _ by omega) (hF.mono (by omega)) (hV1)
set_option maxRecDepth 100000 in
set_option maxHeartbeats 4000000 in
theorem lc_16 {G : va_G} {cy cyl : ClassId} {c : Cx} {b L : Nat} {xs : Nat → Int32} {hh : List (Nat × Nat × Nat × Nat)} {q q2 : Nat → Nat} {o : Nat} {g : Nat → Int64} (X : Ok G cy c cL_law RL 9 room_1) (B : LB G cyl c hh) (hS9 : SX c b L xs) (hL : L ≤ 2560) (N : MT) (sN : Int → Int) (oN : Int) (U : MT) (sU : Int → Int) (oU : Int) (A : Int → Int) (th : Int) (kept far : Int → Int) (B0 : Int) (hF : WF N B0) (hB2 : B0 ≤ 800000) (hV : WVo N sN oN) (j : Nat) (hj : 5 * (j : Int) + 5 ≤ L) (kk : ∀ (N' : MT) (s' : Int → Int) (o' : Int) (U' : MT) (sU' : Int → Int) (oU' : Int) (A' : Int → Int) (g' : Nat → Int64) (th' : Int) (k' f' : Int → Int) (k9 n9 : Nat), k9 ≤ 140 + 40 * j → n9 ≤ 1650 + 250 * j → WF N' (B0 + 1300) → WVo N' s' o' → T G c room_1 9 k9 n9 ((wD cy q N' s' o' U' sU' oU' A' ++ oL cyl o g') ++ wP cy q2 N' th' k' f') 1636 [(0, .ref (b)), (1, .ref (q 0)), (2, .ref (q2 0)), (3, .ref (o)), (4, .int (enc (5 * (j : Int))))] []) : T G c room_1 9 (100 + 40 * j) (1400 + 250 * j) ((wD cy q N sN oN U sU oU A ++ oL cyl o g) ++ wP cy q2 N th kept far) 827 [(0, .ref (b)), (1, .ref (q 0)), (2, .ref (q2 0)), (3, .ref (o)), (4, .int (enc (5 * (j : Int))))] [] := by
  have hB := hF.bd (by omega)
  obtain ⟨w0, w1, w2, w3, w4⟩ := id hF.r
  have h17 := hF.2.2.2.2.2.1
  have h172 := hF.2.2.2.2.2.2.1
  obtain ⟨x, hx, ex⟩ : ∃ x : Int, In x ∧ (xs (5 * (j : Int) + 1).toNat).toInt = x := ⟨_, In_i32 _, rfl⟩
  refine tw_aload_n X dL_law_827 1 rfl rfl ?_
  refine tw_aload_n X dL_law_828 0 rfl rfl ?_
  refine tw_iload X dL_law_829 4 rfl ?_
  refine tw_iconst X dL_law_831 ?_
  refine tw_iadd (z := 5 * (j : Int) + 1) X dL_law_832 rfl ?_
  refine tl_sld X hS9 hL (z := 5 * (j : Int) + 1) (by omega) dL_law_833 ?_
  refine Tst (st' := [.int (enc (x)), .ref (q 0)]) (by rw [ex]) ?_
  refine tw_aload_n X dL_law_834 3 rfl rfl ?_
  refine tl_callW X B (As := [.ref (q 0), .int (enc (x)), .ref (o)]) (st := []) rfl xw_closedFor (w_closedFor (q := q) (o := o) (g := g) N sN oN U sU oU A x hx B0 hF hB2 hV) [] (wP cy q2 N th kept far) rfl rfl rfl ⟨rfl, rfl, Nat.le_of_ble_eq_true rfl, Nat.le_of_ble_eq_true rfl⟩ ⟨(show 100 + 40 * j + 1 ≤ 601024 by omega), (show 1400 + 250 * j + 6 ≤ 7293034 by omega)⟩ (Nat.le_of_ble_eq_true rfl) dL_law_835 (fun v w1 hp => ?_)
  obtain ⟨rfl, g1, s1, o1, U1, sU1, oU1, A1, hg1, hV1, rfl⟩ := hp
  refine Teq (ws' := (wD cy q N s1 o1 U1 sU1 oU1 A1 ++ oL cyl o g1) ++ wP cy q2 N th kept far) (lv' := [(0, .ref (b)), (1, .ref (q 0)), (2, .ref (q2 0)), (3, .ref (o)), (4, .int (enc (5 * (j : Int))))]) (st' := [.int (enc (kR N x))]) rfl rfl rfl ?_
  refine tw_istore (lv' := [(5, .int (enc (kR N x))), (0, .ref (b)), (1, .ref (q 0)), (2, .ref (q2 0)), (3, .ref (o)), (4, .int (enc (5 * (j : Int))))]) X dL_law_838 (by decide) rfl ?_
  refine tw_aload_n X dL_law_840 3 rfl rfl ?_
  refine tw_aload_n X dL_law_841 1 rfl rfl ?_
  refine tw_iload X dL_law_842 5 rfl ?_
  refine tw_iconst X dL_law_844 ?_
  refine tw_iadd (z := 5 * (j : Int) + 1) X dL_law_845 rfl ?_
  refine tl_sld X hS9 hL (z := 5 * (j : Int) + 1) (by omega) dL_law_846 ?_
  refine Tst (st' := [.int (enc (x)), .ref (q2 0)]) (by rw [ex]) ?_
  refine tw_callV X (As := [.int (enc (x))]) (st := []) vw_L_153 (m_X5_closedFor (q := q2) N th kept far x hx B0 hF hB2) (wD cy q N s1 o1 U1 sU1 oU1 A1 ++ oL cyl o g1) [] rfl rfl (q0 := 0) rfl rfl rfl ⟨rfl, rfl, Nat.le_of_ble_eq_true rfl, Nat.le_of_ble_eq_true rfl⟩ ⟨(show 100 + 40 * j + 1 + 0 ≤ 601024 by omega), (show 1400 + 250 * j + 6 + 0 ≤ 7293034 by omega)⟩ (Nat.le_of_ble_eq_true rfl) dL_law_847 (fun v w1 hp => ?_)
  obtain ⟨rfl, k2, f2, rfl⟩ := hp
  refine Teq (ws' := (wD cy q N s1 o1 U1 sU1 oU1 A1 ++ oL cyl o g1) ++ wP cy q2 N (kR N x) k2 f2) (lv' := [(5, .int (enc (kR N x))), (0, .ref (b)), (1, .ref (q 0)), (2, .ref (q2 0)), (3, .ref (o)), (4, .int (enc (5 * (j : Int))))]) (st' := [.int (enc (if kR N x = 0 then N 6 x else 0))]) rfl rfl rfl ?_
  refine tw_istore (lv' := [(6, .int (enc (if kR N x = 0 then N 6 x else 0))), (5, .int (enc (kR N x))), (0, .ref (b)), (1, .ref (q 0)), (2, .ref (q2 0)), (3, .ref (o)), (4, .int (enc (5 * (j : Int))))]) X dL_law_850 (by decide) rfl ?_
  refine tw_aload_n X dL_law_852 4 rfl rfl ?_
  refine tw_callV X (As := []) (st := []) vw_L_93 (m_X5_thrown (q := q2) N (kR N x) k2 f2) (wD cy q N s1 o1 U1 sU1 oU1 A1 ++ oL cyl o g1) [] rfl rfl (q0 := 0) rfl rfl rfl ⟨rfl, rfl, Nat.le_of_ble_eq_true rfl, Nat.le_of_ble_eq_true rfl⟩ ⟨(show 100 + 40 * j + 1 + 0 + 0 ≤ 601024 by omega), (show 1400 + 250 * j + 6 + 0 + 0 ≤ 7293034 by omega)⟩ (Nat.le_of_ble_eq_true rfl) dL_law_853 (fun v w1 hp => ?_)
  obtain ⟨rfl, rfl⟩ := hp
  refine Teq (ws' := (wD cy q N s1 o1 U1 sU1 oU1 A1 ++ oL cyl o g1) ++ wP cy q2 N (kR N x) k2 f2) (lv' := [(6, .int (enc (if kR N x = 0 then N 6 x else 0))), (5, .int (enc (kR N x))), (0, .ref (b)), (1, .ref (q 0)), (2, .ref (q2 0)), (3, .ref (o)), (4, .int (enc (5 * (j : Int))))]) (st' := [.int (enc (kR N x))]) rfl rfl rfl ?_
  refine tw_iload X dL_law_856 1 rfl ?_
  refine tw_icmp_eq (tgt := 863) X (In_kR _ _) (In_kR _ _) dL_law_858 (by decide) (fun _ => ?_) (fun z => absurd rfl z)
  refine tw_iload X dL_law_863 1 rfl ?_
  refine tw_if_ne (tgt := 880) X (In_kR _ _) dL_law_865 (by decide) (fun _ => ?_) (fun hk => ?_)
  · skip
    refine tw_goto (tgt := 1636) X dL_law_880 (by decide) ?_
    refine Tsub (lv' := [(0, .ref (b)), (1, .ref (q 0)), (2, .ref (q2 0)), (3, .ref (o)), (4, .int (enc (5 * (j : Int))))]) [2, 3, 4, 5, 6] rfl ?_
    exact kk N s1 o1 U1 sU1 oU1 A1 g1 (kR N x) k2 f2 _ _ (show 100 + 40 * j + 1 + 0 + 0 ≤ _ by omega) (show 1400 + 250 * j + 6 + 0 + 0 ≤ _ by omega) (hF.mono (by omega)) (hV1)
  · skip
    refine tw_aload_n X dL_law_868 5 rfl rfl ?_
    refine tw_iconst X dL_law_869 ?_
    refine tl_lald X B (g := g1) 45 rfl dL_law_870 ?_
    refine tw_iload X dL_law_871 0 rfl ?_
    refine tw_i2lr X dL_law_873 ?_
    refine tw_lcmp X dL_law_874 ?_
    refine Tst (st' := [.int (enc 0)]) (by rw [hg1 hk, if_pos hk, lg_self]) ?_
    refine tw_if_eq (tgt := 880) X In0 dL_law_875 (by decide) (fun _ => ?_) (fun z => absurd rfl z)
    refine tw_goto (tgt := 1636) X dL_law_880 (by decide) ?_
    refine Tsub (lv' := [(0, .ref (b)), (1, .ref (q 0)), (2, .ref (q2 0)), (3, .ref (o)), (4, .int (enc (5 * (j : Int))))]) [2, 3, 4, 5, 6] rfl ?_
    exact kk N s1 o1 U1 sU1 oU1 A1 g1 (kR N x) k2 f2 _ _ (show 100 + 40 * j + 1 + 0 + 0 ≤ _ by omega) (show 1400 + 250 * j + 6 + 0 + 0 ≤ _ by omega) (hF.mono (by omega)) (hV1)
set_option maxRecDepth 100000 in
set_option maxHeartbeats 4000000 in
theorem lc_17 {G : va_G} {cy cyl : ClassId} {c : Cx} {b L : Nat} {xs : Nat → Int32} {hh : List (Nat × Nat × Nat × Nat)} {q q2 : Nat → Nat} {o : Nat} {g : Nat → Int64} (X : Ok G cy c cL_law RL 9 room_1) (B : LB G cyl c hh) (hS9 : SX c b L xs) (hL : L ≤ 2560) (N : MT) (sN : Int → Int) (oN : Int) (U : MT) (sU : Int → Int) (oU : Int) (A : Int → Int) (th : Int) (kept far : Int → Int) (B0 : Int) (hF : WF N B0) (hB2 : B0 ≤ 800000) (hV : WVo N sN oN) (j : Nat) (hj : 5 * (j : Int) + 5 ≤ L) (kk : ∀ (N' : MT) (s' : Int → Int) (o' : Int) (U' : MT) (sU' : Int → Int) (oU' : Int) (A' : Int → Int) (g' : Nat → Int64) (th' : Int) (k' f' : Int → Int) (k9 n9 : Nat), k9 ≤ 140 + 40 * j → n9 ≤ 1650 + 250 * j → WF N' (B0 + 1300) → WVo N' s' o' → T G c room_1 9 k9 n9 ((wD cy q N' s' o' U' sU' oU' A' ++ oL cyl o g') ++ wP cy q2 N' th' k' f') 1636 [(0, .ref (b)), (1, .ref (q 0)), (2, .ref (q2 0)), (3, .ref (o)), (4, .int (enc (5 * (j : Int))))] []) : T G c room_1 9 (100 + 40 * j) (1400 + 250 * j) ((wD cy q N sN oN U sU oU A ++ oL cyl o g) ++ wP cy q2 N th kept far) 883 [(0, .ref (b)), (1, .ref (q 0)), (2, .ref (q2 0)), (3, .ref (o)), (4, .int (enc (5 * (j : Int))))] [] := by
  have hB := hF.bd (by omega)
  obtain ⟨w0, w1, w2, w3, w4⟩ := id hF.r
  have h17 := hF.2.2.2.2.2.1
  have h172 := hF.2.2.2.2.2.2.1
  obtain ⟨x, hx, ex⟩ : ∃ x : Int, In x ∧ (xs (5 * (j : Int) + 1).toNat).toInt = x := ⟨_, In_i32 _, rfl⟩
  refine tw_aload_n X dL_law_883 1 rfl rfl ?_
  refine tw_aload_n X dL_law_884 0 rfl rfl ?_
  refine tw_iload X dL_law_885 4 rfl ?_
  refine tw_iconst X dL_law_887 ?_
  refine tw_iadd (z := 5 * (j : Int) + 1) X dL_law_888 rfl ?_
  refine tl_sld X hS9 hL (z := 5 * (j : Int) + 1) (by omega) dL_law_889 ?_
  refine Tst (st' := [.int (enc (x)), .ref (q 0)]) (by rw [ex]) ?_
  refine tw_aload_n X dL_law_890 3 rfl rfl ?_
  refine tl_callW X B (As := [.ref (q 0), .int (enc (x)), .ref (o)]) (st := []) rfl xw_touristsOn (w_touristsOn (q := q) (o := o) (g := g) N sN oN U sU oU A x hx B0 hF hB2 hV) [] (wP cy q2 N th kept far) rfl rfl rfl ⟨rfl, rfl, Nat.le_of_ble_eq_true rfl, Nat.le_of_ble_eq_true rfl⟩ ⟨(show 100 + 40 * j + 1 ≤ 601024 by omega), (show 1400 + 250 * j + 6 ≤ 7293034 by omega)⟩ (Nat.le_of_ble_eq_true rfl) dL_law_891 (fun v w1 hp => ?_)
  obtain ⟨rfl, g1, s1, o1, U1, sU1, oU1, A1, hg1, hV1, rfl⟩ := hp
  refine Teq (ws' := (wD cy q N s1 o1 U1 sU1 oU1 A1 ++ oL cyl o g1) ++ wP cy q2 N th kept far) (lv' := [(0, .ref (b)), (1, .ref (q 0)), (2, .ref (q2 0)), (3, .ref (o)), (4, .int (enc (5 * (j : Int))))]) (st' := [.int (enc (kR N x))]) rfl rfl rfl ?_
  refine tw_istore (lv' := [(5, .int (enc (kR N x))), (0, .ref (b)), (1, .ref (q 0)), (2, .ref (q2 0)), (3, .ref (o)), (4, .int (enc (5 * (j : Int))))]) X dL_law_894 (by decide) rfl ?_
  refine tw_aload_n X dL_law_896 3 rfl rfl ?_
  refine tw_aload_n X dL_law_897 1 rfl rfl ?_
  refine tw_iload X dL_law_898 5 rfl ?_
  refine tw_iconst X dL_law_900 ?_
  refine tw_iadd (z := 5 * (j : Int) + 1) X dL_law_901 rfl ?_
  refine tl_sld X hS9 hL (z := 5 * (j : Int) + 1) (by omega) dL_law_902 ?_
  refine Tst (st' := [.int (enc (x)), .ref (q2 0)]) (by rw [ex]) ?_
  refine tw_callV X (As := [.int (enc (x))]) (st := []) vw_L_156 (m_X5_touristsOn (q := q2) N th kept far x hx B0 hF hB2) (wD cy q N s1 o1 U1 sU1 oU1 A1 ++ oL cyl o g1) [] rfl rfl (q0 := 0) rfl rfl rfl ⟨rfl, rfl, Nat.le_of_ble_eq_true rfl, Nat.le_of_ble_eq_true rfl⟩ ⟨(show 100 + 40 * j + 1 + 0 ≤ 601024 by omega), (show 1400 + 250 * j + 6 + 0 ≤ 7293034 by omega)⟩ (Nat.le_of_ble_eq_true rfl) dL_law_903 (fun v w1 hp => ?_)
  obtain ⟨rfl, k2, f2, rfl⟩ := hp
  refine Teq (ws' := (wD cy q N s1 o1 U1 sU1 oU1 A1 ++ oL cyl o g1) ++ wP cy q2 N (kR N x) k2 f2) (lv' := [(5, .int (enc (kR N x))), (0, .ref (b)), (1, .ref (q 0)), (2, .ref (q2 0)), (3, .ref (o)), (4, .int (enc (5 * (j : Int))))]) (st' := [.int (enc (if kR N x = 0 then onR N x (N 17 0).toNat else 0))]) rfl rfl rfl ?_
  refine tw_istore (lv' := [(6, .int (enc (if kR N x = 0 then onR N x (N 17 0).toNat else 0))), (5, .int (enc (kR N x))), (0, .ref (b)), (1, .ref (q 0)), (2, .ref (q2 0)), (3, .ref (o)), (4, .int (enc (5 * (j : Int))))]) X dL_law_906 (by decide) rfl ?_
  refine tw_aload_n X dL_law_908 4 rfl rfl ?_
  refine tw_callV X (As := []) (st := []) vw_L_93 (m_X5_thrown (q := q2) N (kR N x) k2 f2) (wD cy q N s1 o1 U1 sU1 oU1 A1 ++ oL cyl o g1) [] rfl rfl (q0 := 0) rfl rfl rfl ⟨rfl, rfl, Nat.le_of_ble_eq_true rfl, Nat.le_of_ble_eq_true rfl⟩ ⟨(show 100 + 40 * j + 1 + 0 + 0 ≤ 601024 by omega), (show 1400 + 250 * j + 6 + 0 + 0 ≤ 7293034 by omega)⟩ (Nat.le_of_ble_eq_true rfl) dL_law_909 (fun v w1 hp => ?_)
  obtain ⟨rfl, rfl⟩ := hp
  refine Teq (ws' := (wD cy q N s1 o1 U1 sU1 oU1 A1 ++ oL cyl o g1) ++ wP cy q2 N (kR N x) k2 f2) (lv' := [(6, .int (enc (if kR N x = 0 then onR N x (N 17 0).toNat else 0))), (5, .int (enc (kR N x))), (0, .ref (b)), (1, .ref (q 0)), (2, .ref (q2 0)), (3, .ref (o)), (4, .int (enc (5 * (j : Int))))]) (st' := [.int (enc (kR N x))]) rfl rfl rfl ?_
  refine tw_iload X dL_law_912 1 rfl ?_
  refine tw_icmp_eq (tgt := 919) X (In_kR _ _) (In_kR _ _) dL_law_914 (by decide) (fun _ => ?_) (fun z => absurd rfl z)
  refine tw_iload X dL_law_919 1 rfl ?_
  refine tw_if_ne (tgt := 936) X (In_kR _ _) dL_law_921 (by decide) (fun _ => ?_) (fun hk => ?_)
  · skip
    refine tw_goto (tgt := 1636) X dL_law_936 (by decide) ?_
    refine Tsub (lv' := [(0, .ref (b)), (1, .ref (q 0)), (2, .ref (q2 0)), (3, .ref (o)), (4, .int (enc (5 * (j : Int))))]) [2, 3, 4, 5, 6] rfl ?_
    exact kk N s1 o1 U1 sU1 oU1 A1 g1 (kR N x) k2 f2 _ _ (show 100 + 40 * j + 1 + 0 + 0 ≤ _ by omega) (show 1400 + 250 * j + 6 + 0 + 0 ≤ _ by omega) (hF.mono (by omega)) (hV1)
  · skip
    refine tw_aload_n X dL_law_924 5 rfl rfl ?_
    refine tw_iconst X dL_law_925 ?_
    refine tl_lald X B (g := g1) 45 rfl dL_law_926 ?_
    refine tw_iload X dL_law_927 0 rfl ?_
    refine tw_i2lr X dL_law_929 ?_
    refine tw_lcmp X dL_law_930 ?_
    refine Tst (st' := [.int (enc 0)]) (by rw [hg1 hk, if_pos hk, lg_self]) ?_
    refine tw_if_eq (tgt := 936) X In0 dL_law_931 (by decide) (fun _ => ?_) (fun z => absurd rfl z)
    refine tw_goto (tgt := 1636) X dL_law_936 (by decide) ?_
    refine Tsub (lv' := [(0, .ref (b)), (1, .ref (q 0)), (2, .ref (q2 0)), (3, .ref (o)), (4, .int (enc (5 * (j : Int))))]) [2, 3, 4, 5, 6] rfl ?_
    exact kk N s1 o1 U1 sU1 oU1 A1 g1 (kR N x) k2 f2 _ _ (show 100 + 40 * j + 1 + 0 + 0 ≤ _ by omega) (show 1400 + 250 * j + 6 + 0 + 0 ≤ _ by omega) (hF.mono (by omega)) (hV1)
set_option maxRecDepth 100000 in
set_option maxHeartbeats 4000000 in
theorem lc_18 {G : va_G} {cy cyl : ClassId} {c : Cx} {b L : Nat} {xs : Nat → Int32} {hh : List (Nat × Nat × Nat × Nat)} {q q2 : Nat → Nat} {o : Nat} {g : Nat → Int64} (X : Ok G cy c cL_law RL 9 room_1) (B : LB G cyl c hh) (hS9 : SX c b L xs) (hL : L ≤ 2560) (N : MT) (sN : Int → Int) (oN : Int) (U : MT) (sU : Int → Int) (oU : Int) (A : Int → Int) (th : Int) (kept far : Int → Int) (B0 : Int) (hF : WF N B0) (hB2 : B0 ≤ 800000) (hV : WVo N sN oN) (j : Nat) (hj : 5 * (j : Int) + 5 ≤ L) (kk : ∀ (N' : MT) (s' : Int → Int) (o' : Int) (U' : MT) (sU' : Int → Int) (oU' : Int) (A' : Int → Int) (g' : Nat → Int64) (th' : Int) (k' f' : Int → Int) (k9 n9 : Nat), k9 ≤ 140 + 40 * j → n9 ≤ 1650 + 250 * j → WF N' (B0 + 1300) → WVo N' s' o' → T G c room_1 9 k9 n9 ((wD cy q N' s' o' U' sU' oU' A' ++ oL cyl o g') ++ wP cy q2 N' th' k' f') 1636 [(0, .ref (b)), (1, .ref (q 0)), (2, .ref (q2 0)), (3, .ref (o)), (4, .int (enc (5 * (j : Int))))] []) : T G c room_1 9 (100 + 40 * j) (1400 + 250 * j) ((wD cy q N sN oN U sU oU A ++ oL cyl o g) ++ wP cy q2 N th kept far) 939 [(0, .ref (b)), (1, .ref (q 0)), (2, .ref (q2 0)), (3, .ref (o)), (4, .int (enc (5 * (j : Int))))] [] := by
  have hB := hF.bd (by omega)
  obtain ⟨w0, w1, w2, w3, w4⟩ := id hF.r
  have h17 := hF.2.2.2.2.2.1
  have h172 := hF.2.2.2.2.2.2.1
  refine tw_aload_n X dL_law_939 1 rfl rfl ?_
  refine tw_callV X (As := []) (st := []) vw_L_157 (m_X4_mostWorn (q := q) N sN oN U sU oU A hB (by omega)) [] (oL cyl o g ++ wP cy q2 N th kept far) rfl rfl (q0 := 0) rfl rfl rfl ⟨rfl, rfl, Nat.le_of_ble_eq_true rfl, Nat.le_of_ble_eq_true rfl⟩ ⟨(show 100 + 40 * j + 0 ≤ 601024 by omega), (show 1400 + 250 * j + 0 ≤ 7293034 by omega)⟩ (Nat.le_of_ble_eq_true rfl) dL_law_940 (fun v w1 hp => ?_)
  obtain ⟨rfl, rfl⟩ := hp
  refine Teq (ws' := (wD cy q N sN oN U sU oU A ++ oL cyl o g) ++ wP cy q2 N th kept far) (lv' := [(0, .ref (b)), (1, .ref (q 0)), (2, .ref (q2 0)), (3, .ref (o)), (4, .int (enc (5 * (j : Int))))]) (st' := [.int (enc ((mostW N (N 16 0).toNat).1))]) rfl rfl rfl ?_
  refine tw_aload_n X dL_law_943 2 rfl rfl ?_
  refine tw_callV X (As := []) (st := [.int (enc ((mostW N (N 16 0).toNat).1))]) vw_L_160 (m_X5_mostWorn (q := q2) N th kept far B0 hF hB2) (wD cy q N sN oN U sU oU A ++ oL cyl o g) [] rfl rfl (q0 := 0) rfl rfl rfl ⟨rfl, rfl, Nat.le_of_ble_eq_true rfl, Nat.le_of_ble_eq_true rfl⟩ ⟨(show 100 + 40 * j + 0 + 0 ≤ 601024 by omega), (show 1400 + 250 * j + 0 + 0 ≤ 7293034 by omega)⟩ (Nat.le_of_ble_eq_true rfl) dL_law_944 (fun v w1 hp => ?_)
  obtain ⟨rfl, k2, f2, rfl⟩ := hp
  refine Teq (ws' := (wD cy q N sN oN U sU oU A ++ oL cyl o g) ++ wP cy q2 N 0 k2 f2) (lv' := [(0, .ref (b)), (1, .ref (q 0)), (2, .ref (q2 0)), (3, .ref (o)), (4, .int (enc (5 * (j : Int))))]) (st' := [.int (enc ((mostW N (N 16 0).toNat).1)), .int (enc ((mostW N (N 16 0).toNat).1))]) rfl rfl rfl ?_
  have r1 := mostW_rng N (N 16 0).toNat
  have rB := hB 20 0
  have rB2 := hB 18 0
  refine tw_icmp_eq (tgt := 1636) X (In_of (by omega) (by omega)) (In_of (by omega) (by omega)) dL_law_947 (by decide) (fun _ => ?_) (fun z => absurd rfl z)
  refine Tsub (lv' := [(0, .ref (b)), (1, .ref (q 0)), (2, .ref (q2 0)), (3, .ref (o)), (4, .int (enc (5 * (j : Int))))]) [0, 1, 2, 3, 4] rfl ?_
  exact kk N sN oN U sU oU A g 0 k2 f2 _ _ (show 100 + 40 * j + 0 + 0 ≤ _ by omega) (show 1400 + 250 * j + 0 + 0 ≤ _ by omega) (hF.mono (by omega)) (hV)
set_option maxRecDepth 100000 in
set_option maxHeartbeats 4000000 in
theorem lc_19 {G : va_G} {cy cyl : ClassId} {c : Cx} {b L : Nat} {xs : Nat → Int32} {hh : List (Nat × Nat × Nat × Nat)} {q q2 : Nat → Nat} {o : Nat} {g : Nat → Int64} (X : Ok G cy c cL_law RL 9 room_1) (B : LB G cyl c hh) (hS9 : SX c b L xs) (hL : L ≤ 2560) (N : MT) (sN : Int → Int) (oN : Int) (U : MT) (sU : Int → Int) (oU : Int) (A : Int → Int) (th : Int) (kept far : Int → Int) (B0 : Int) (hF : WF N B0) (hB2 : B0 ≤ 800000) (hV : WVo N sN oN) (j : Nat) (hj : 5 * (j : Int) + 5 ≤ L) (kk : ∀ (N' : MT) (s' : Int → Int) (o' : Int) (U' : MT) (sU' : Int → Int) (oU' : Int) (A' : Int → Int) (g' : Nat → Int64) (th' : Int) (k' f' : Int → Int) (k9 n9 : Nat), k9 ≤ 140 + 40 * j → n9 ≤ 1650 + 250 * j → WF N' (B0 + 1300) → WVo N' s' o' → T G c room_1 9 k9 n9 ((wD cy q N' s' o' U' sU' oU' A' ++ oL cyl o g') ++ wP cy q2 N' th' k' f') 1636 [(0, .ref (b)), (1, .ref (q 0)), (2, .ref (q2 0)), (3, .ref (o)), (4, .int (enc (5 * (j : Int))))] []) : T G c room_1 9 (100 + 40 * j) (1400 + 250 * j) ((wD cy q N sN oN U sU oU A ++ oL cyl o g) ++ wP cy q2 N th kept far) 952 [(0, .ref (b)), (1, .ref (q 0)), (2, .ref (q2 0)), (3, .ref (o)), (4, .int (enc (5 * (j : Int))))] [] := by
  have hB := hF.bd (by omega)
  obtain ⟨w0, w1, w2, w3, w4⟩ := id hF.r
  have h17 := hF.2.2.2.2.2.1
  have h172 := hF.2.2.2.2.2.2.1
  obtain ⟨x, hx, ex⟩ : ∃ x : Int, In x ∧ (xs (5 * (j : Int) + 1).toNat).toInt = x := ⟨_, In_i32 _, rfl⟩
  obtain ⟨y, hy, ey⟩ : ∃ y : Int, In y ∧ (xs (5 * (j : Int) + 2).toNat).toInt = y := ⟨_, In_i32 _, rfl⟩
  refine tw_aload_n X dL_law_952 1 rfl rfl ?_
  refine tw_aload_n X dL_law_953 0 rfl rfl ?_
  refine tw_iload X dL_law_954 4 rfl ?_
  refine tw_iconst X dL_law_956 ?_
  refine tw_iadd (z := 5 * (j : Int) + 1) X dL_law_957 rfl ?_
  refine tl_sld X hS9 hL (z := 5 * (j : Int) + 1) (by omega) dL_law_958 ?_
  refine Tst (st' := [.int (enc (x)), .ref (q 0)]) (by rw [ex]) ?_
  refine tw_aload_n X dL_law_959 0 rfl rfl ?_
  refine tw_iload X dL_law_960 4 rfl ?_
  refine tw_iconst X dL_law_962 ?_
  refine tw_iadd (z := 5 * (j : Int) + 2) X dL_law_963 rfl ?_
  refine tl_sld X hS9 hL (z := 5 * (j : Int) + 2) (by omega) dL_law_964 ?_
  refine Tst (st' := [.int (enc (y)), .int (enc (x)), .ref (q 0)]) (by rw [ey]) ?_
  refine tw_aload_n X dL_law_965 3 rfl rfl ?_
  refine tl_callW X B (As := [.ref (q 0), .int (enc (x)), .int (enc (y)), .ref (o)]) (st := []) rfl xw_openDistance (w_openDistance (q := q) (o := o) (g := g) N sN oN U sU oU A x y hx hy B0 hF hB2 hV) [] (wP cy q2 N th kept far) rfl rfl rfl ⟨rfl, rfl, Nat.le_of_ble_eq_true rfl, Nat.le_of_ble_eq_true rfl⟩ ⟨(show 100 + 40 * j + 2 ≤ 601024 by omega), (show 1400 + 250 * j + 12 ≤ 7293034 by omega)⟩ (Nat.le_of_ble_eq_true rfl) dL_law_966 (fun v w1 hp => ?_)
  obtain ⟨rfl, g1, s1, o1, U1, sU1, oU1, A1, hg1, hV1, rfl⟩ := hp
  refine Teq (ws' := (wD cy q N s1 o1 U1 sU1 oU1 A1 ++ oL cyl o g1) ++ wP cy q2 N th kept far) (lv' := [(0, .ref (b)), (1, .ref (q 0)), (2, .ref (q2 0)), (3, .ref (o)), (4, .int (enc (5 * (j : Int))))]) (st' := [.int (enc (kC N x y))]) rfl rfl rfl ?_
  refine tw_istore (lv' := [(5, .int (enc (kC N x y))), (0, .ref (b)), (1, .ref (q 0)), (2, .ref (q2 0)), (3, .ref (o)), (4, .int (enc (5 * (j : Int))))]) X dL_law_969 (by decide) rfl ?_
  refine tw_aload_n X dL_law_971 3 rfl rfl ?_
  refine tw_aload_n X dL_law_972 1 rfl rfl ?_
  refine tw_iload X dL_law_973 5 rfl ?_
  refine tw_iconst X dL_law_975 ?_
  refine tw_iadd (z := 5 * (j : Int) + 1) X dL_law_976 rfl ?_
  refine tl_sld X hS9 hL (z := 5 * (j : Int) + 1) (by omega) dL_law_977 ?_
  refine Tst (st' := [.int (enc (x)), .ref (q2 0)]) (by rw [ex]) ?_
  refine tw_aload_n X dL_law_978 1 rfl rfl ?_
  refine tw_iload X dL_law_979 5 rfl ?_
  refine tw_iconst X dL_law_981 ?_
  refine tw_iadd (z := 5 * (j : Int) + 2) X dL_law_982 rfl ?_
  refine tl_sld X hS9 hL (z := 5 * (j : Int) + 2) (by omega) dL_law_983 ?_
  refine Tst (st' := [.int (enc (y)), .int (enc (x)), .ref (q2 0)]) (by rw [ey]) ?_
  refine tw_callV X (As := [.int (enc (x)), .int (enc (y))]) (st := []) vw_L_163 (m_X5_openDistance (q := q2) N th kept far x y hx hy B0 hF hB2) (wD cy q N s1 o1 U1 sU1 oU1 A1 ++ oL cyl o g1) [] rfl rfl (q0 := 0) rfl rfl rfl ⟨rfl, rfl, Nat.le_of_ble_eq_true rfl, Nat.le_of_ble_eq_true rfl⟩ ⟨(show 100 + 40 * j + 2 + 0 ≤ 601024 by omega), (show 1400 + 250 * j + 12 + 0 ≤ 7293034 by omega)⟩ (Nat.le_of_ble_eq_true rfl) dL_law_984 (fun v w1 hp => ?_)
  obtain ⟨rfl, k2, f2, rfl⟩ := hp
  refine Teq (ws' := (wD cy q N s1 o1 U1 sU1 oU1 A1 ++ oL cyl o g1) ++ wP cy q2 N (kC N x y) k2 f2) (lv' := [(5, .int (enc (kC N x y))), (0, .ref (b)), (1, .ref (q 0)), (2, .ref (q2 0)), (3, .ref (o)), (4, .int (enc (5 * (j : Int))))]) (st' := [.int (enc (if kC N x y = 0 then dO N true x y else 0))]) rfl rfl rfl ?_
  refine tw_istore (lv' := [(6, .int (enc (if kC N x y = 0 then dO N true x y else 0))), (5, .int (enc (kC N x y))), (0, .ref (b)), (1, .ref (q 0)), (2, .ref (q2 0)), (3, .ref (o)), (4, .int (enc (5 * (j : Int))))]) X dL_law_987 (by decide) rfl ?_
  refine tw_aload_n X dL_law_989 4 rfl rfl ?_
  refine tw_callV X (As := []) (st := []) vw_L_93 (m_X5_thrown (q := q2) N (kC N x y) k2 f2) (wD cy q N s1 o1 U1 sU1 oU1 A1 ++ oL cyl o g1) [] rfl rfl (q0 := 0) rfl rfl rfl ⟨rfl, rfl, Nat.le_of_ble_eq_true rfl, Nat.le_of_ble_eq_true rfl⟩ ⟨(show 100 + 40 * j + 2 + 0 + 0 ≤ 601024 by omega), (show 1400 + 250 * j + 12 + 0 + 0 ≤ 7293034 by omega)⟩ (Nat.le_of_ble_eq_true rfl) dL_law_990 (fun v w1 hp => ?_)
  obtain ⟨rfl, rfl⟩ := hp
  refine Teq (ws' := (wD cy q N s1 o1 U1 sU1 oU1 A1 ++ oL cyl o g1) ++ wP cy q2 N (kC N x y) k2 f2) (lv' := [(6, .int (enc (if kC N x y = 0 then dO N true x y else 0))), (5, .int (enc (kC N x y))), (0, .ref (b)), (1, .ref (q 0)), (2, .ref (q2 0)), (3, .ref (o)), (4, .int (enc (5 * (j : Int))))]) (st' := [.int (enc (kC N x y))]) rfl rfl rfl ?_
  refine tw_iload X dL_law_993 1 rfl ?_
  refine tw_icmp_eq (tgt := 1000) X (In_kC _ _ _) (In_kC _ _ _) dL_law_995 (by decide) (fun _ => ?_) (fun z => absurd rfl z)
  refine tw_iload X dL_law_1000 1 rfl ?_
  refine tw_if_ne (tgt := 1017) X (In_kC _ _ _) dL_law_1002 (by decide) (fun _ => ?_) (fun hk => ?_)
  · skip
    refine tw_goto (tgt := 1636) X dL_law_1017 (by decide) ?_
    refine Tsub (lv' := [(0, .ref (b)), (1, .ref (q 0)), (2, .ref (q2 0)), (3, .ref (o)), (4, .int (enc (5 * (j : Int))))]) [2, 3, 4, 5, 6] rfl ?_
    exact kk N s1 o1 U1 sU1 oU1 A1 g1 (kC N x y) k2 f2 _ _ (show 100 + 40 * j + 2 + 0 + 0 ≤ _ by omega) (show 1400 + 250 * j + 12 + 0 + 0 ≤ _ by omega) (hF.mono (by omega)) (hV1)
  · skip
    refine tw_aload_n X dL_law_1005 5 rfl rfl ?_
    refine tw_iconst X dL_law_1006 ?_
    refine tl_lald X B (g := g1) 45 rfl dL_law_1007 ?_
    refine tw_iload X dL_law_1008 0 rfl ?_
    refine tw_i2lr X dL_law_1010 ?_
    refine tw_lcmp X dL_law_1011 ?_
    refine Tst (st' := [.int (enc 0)]) (by rw [hg1 hk, if_pos hk, lg_self]) ?_
    refine tw_if_eq (tgt := 1017) X In0 dL_law_1012 (by decide) (fun _ => ?_) (fun z => absurd rfl z)
    refine tw_goto (tgt := 1636) X dL_law_1017 (by decide) ?_
    refine Tsub (lv' := [(0, .ref (b)), (1, .ref (q 0)), (2, .ref (q2 0)), (3, .ref (o)), (4, .int (enc (5 * (j : Int))))]) [2, 3, 4, 5, 6] rfl ?_
    exact kk N s1 o1 U1 sU1 oU1 A1 g1 (kC N x y) k2 f2 _ _ (show 100 + 40 * j + 2 + 0 + 0 ≤ _ by omega) (show 1400 + 250 * j + 12 + 0 + 0 ≤ _ by omega) (hF.mono (by omega)) (hV1)
set_option maxRecDepth 100000 in
set_option maxHeartbeats 4000000 in
theorem lc_20 {G : va_G} {cy cyl : ClassId} {c : Cx} {b L : Nat} {xs : Nat → Int32} {hh : List (Nat × Nat × Nat × Nat)} {q q2 : Nat → Nat} {o : Nat} {g : Nat → Int64} (X : Ok G cy c cL_law RL 9 room_1) (B : LB G cyl c hh) (hS9 : SX c b L xs) (hL : L ≤ 2560) (N : MT) (sN : Int → Int) (oN : Int) (U : MT) (sU : Int → Int) (oU : Int) (A : Int → Int) (th : Int) (kept far : Int → Int) (B0 : Int) (hF : WF N B0) (hB2 : B0 ≤ 800000) (hV : WVo N sN oN) (j : Nat) (hj : 5 * (j : Int) + 5 ≤ L) (kk : ∀ (N' : MT) (s' : Int → Int) (o' : Int) (U' : MT) (sU' : Int → Int) (oU' : Int) (A' : Int → Int) (g' : Nat → Int64) (th' : Int) (k' f' : Int → Int) (k9 n9 : Nat), k9 ≤ 140 + 40 * j → n9 ≤ 1650 + 250 * j → WF N' (B0 + 1300) → WVo N' s' o' → T G c room_1 9 k9 n9 ((wD cy q N' s' o' U' sU' oU' A' ++ oL cyl o g') ++ wP cy q2 N' th' k' f') 1636 [(0, .ref (b)), (1, .ref (q 0)), (2, .ref (q2 0)), (3, .ref (o)), (4, .int (enc (5 * (j : Int))))] []) : T G c room_1 9 (100 + 40 * j) (1400 + 250 * j) ((wD cy q N sN oN U sU oU A ++ oL cyl o g) ++ wP cy q2 N th kept far) 1020 [(0, .ref (b)), (1, .ref (q 0)), (2, .ref (q2 0)), (3, .ref (o)), (4, .int (enc (5 * (j : Int))))] [] := by
  have hB := hF.bd (by omega)
  obtain ⟨w0, w1, w2, w3, w4⟩ := id hF.r
  have h17 := hF.2.2.2.2.2.1
  have h172 := hF.2.2.2.2.2.2.1
  obtain ⟨x, hx, ex⟩ : ∃ x : Int, In x ∧ (xs (5 * (j : Int) + 1).toNat).toInt = x := ⟨_, In_i32 _, rfl⟩
  obtain ⟨y, hy, ey⟩ : ∃ y : Int, In y ∧ (xs (5 * (j : Int) + 2).toNat).toInt = y := ⟨_, In_i32 _, rfl⟩
  refine tw_aload_n X dL_law_1020 1 rfl rfl ?_
  refine tw_aload_n X dL_law_1021 0 rfl rfl ?_
  refine tw_iload X dL_law_1022 4 rfl ?_
  refine tw_iconst X dL_law_1024 ?_
  refine tw_iadd (z := 5 * (j : Int) + 1) X dL_law_1025 rfl ?_
  refine tl_sld X hS9 hL (z := 5 * (j : Int) + 1) (by omega) dL_law_1026 ?_
  refine Tst (st' := [.int (enc (x)), .ref (q 0)]) (by rw [ex]) ?_
  refine tw_aload_n X dL_law_1027 0 rfl rfl ?_
  refine tw_iload X dL_law_1028 4 rfl ?_
  refine tw_iconst X dL_law_1030 ?_
  refine tw_iadd (z := 5 * (j : Int) + 2) X dL_law_1031 rfl ?_
  refine tl_sld X hS9 hL (z := 5 * (j : Int) + 2) (by omega) dL_law_1032 ?_
  refine Tst (st' := [.int (enc (y)), .int (enc (x)), .ref (q 0)]) (by rw [ey]) ?_
  refine tw_aload_n X dL_law_1033 3 rfl rfl ?_
  refine tl_callW X B (As := [.ref (q 0), .int (enc (x)), .int (enc (y)), .ref (o)]) (st := []) rfl xw_distance (w_distance (q := q) (o := o) (g := g) N sN oN U sU oU A x y hx hy B0 hF hB2 hV) [] (wP cy q2 N th kept far) rfl rfl rfl ⟨rfl, rfl, Nat.le_of_ble_eq_true rfl, Nat.le_of_ble_eq_true rfl⟩ ⟨(show 100 + 40 * j + 2 ≤ 601024 by omega), (show 1400 + 250 * j + 12 ≤ 7293034 by omega)⟩ (Nat.le_of_ble_eq_true rfl) dL_law_1034 (fun v w1 hp => ?_)
  obtain ⟨rfl, g1, s1, o1, U1, sU1, oU1, A1, hg1, hV1, rfl⟩ := hp
  refine Teq (ws' := (wD cy q N s1 o1 U1 sU1 oU1 A1 ++ oL cyl o g1) ++ wP cy q2 N th kept far) (lv' := [(0, .ref (b)), (1, .ref (q 0)), (2, .ref (q2 0)), (3, .ref (o)), (4, .int (enc (5 * (j : Int))))]) (st' := [.int (enc (kC N x y))]) rfl rfl rfl ?_
  refine tw_istore (lv' := [(5, .int (enc (kC N x y))), (0, .ref (b)), (1, .ref (q 0)), (2, .ref (q2 0)), (3, .ref (o)), (4, .int (enc (5 * (j : Int))))]) X dL_law_1037 (by decide) rfl ?_
  refine tw_aload_n X dL_law_1039 3 rfl rfl ?_
  refine tw_aload_n X dL_law_1040 1 rfl rfl ?_
  refine tw_iload X dL_law_1041 5 rfl ?_
  refine tw_iconst X dL_law_1043 ?_
  refine tw_iadd (z := 5 * (j : Int) + 1) X dL_law_1044 rfl ?_
  refine tl_sld X hS9 hL (z := 5 * (j : Int) + 1) (by omega) dL_law_1045 ?_
  refine Tst (st' := [.int (enc (x)), .ref (q2 0)]) (by rw [ex]) ?_
  refine tw_aload_n X dL_law_1046 1 rfl rfl ?_
  refine tw_iload X dL_law_1047 5 rfl ?_
  refine tw_iconst X dL_law_1049 ?_
  refine tw_iadd (z := 5 * (j : Int) + 2) X dL_law_1050 rfl ?_
  refine tl_sld X hS9 hL (z := 5 * (j : Int) + 2) (by omega) dL_law_1051 ?_
  refine Tst (st' := [.int (enc (y)), .int (enc (x)), .ref (q2 0)]) (by rw [ey]) ?_
  refine tw_callV X (As := [.int (enc (x)), .int (enc (y))]) (st := []) vw_L_166 (m_X5_distance (q := q2) N th kept far x y hx hy B0 hF hB2) (wD cy q N s1 o1 U1 sU1 oU1 A1 ++ oL cyl o g1) [] rfl rfl (q0 := 0) rfl rfl rfl ⟨rfl, rfl, Nat.le_of_ble_eq_true rfl, Nat.le_of_ble_eq_true rfl⟩ ⟨(show 100 + 40 * j + 2 + 0 ≤ 601024 by omega), (show 1400 + 250 * j + 12 + 0 ≤ 7293034 by omega)⟩ (Nat.le_of_ble_eq_true rfl) dL_law_1052 (fun v w1 hp => ?_)
  obtain ⟨rfl, k2, f2, rfl⟩ := hp
  refine Teq (ws' := (wD cy q N s1 o1 U1 sU1 oU1 A1 ++ oL cyl o g1) ++ wP cy q2 N (kC N x y) k2 f2) (lv' := [(5, .int (enc (kC N x y))), (0, .ref (b)), (1, .ref (q 0)), (2, .ref (q2 0)), (3, .ref (o)), (4, .int (enc (5 * (j : Int))))]) (st' := [.int (enc (if kC N x y = 0 then dO N false x y else 0))]) rfl rfl rfl ?_
  refine tw_istore (lv' := [(6, .int (enc (if kC N x y = 0 then dO N false x y else 0))), (5, .int (enc (kC N x y))), (0, .ref (b)), (1, .ref (q 0)), (2, .ref (q2 0)), (3, .ref (o)), (4, .int (enc (5 * (j : Int))))]) X dL_law_1055 (by decide) rfl ?_
  refine tw_aload_n X dL_law_1057 4 rfl rfl ?_
  refine tw_callV X (As := []) (st := []) vw_L_93 (m_X5_thrown (q := q2) N (kC N x y) k2 f2) (wD cy q N s1 o1 U1 sU1 oU1 A1 ++ oL cyl o g1) [] rfl rfl (q0 := 0) rfl rfl rfl ⟨rfl, rfl, Nat.le_of_ble_eq_true rfl, Nat.le_of_ble_eq_true rfl⟩ ⟨(show 100 + 40 * j + 2 + 0 + 0 ≤ 601024 by omega), (show 1400 + 250 * j + 12 + 0 + 0 ≤ 7293034 by omega)⟩ (Nat.le_of_ble_eq_true rfl) dL_law_1058 (fun v w1 hp => ?_)
  obtain ⟨rfl, rfl⟩ := hp
  refine Teq (ws' := (wD cy q N s1 o1 U1 sU1 oU1 A1 ++ oL cyl o g1) ++ wP cy q2 N (kC N x y) k2 f2) (lv' := [(6, .int (enc (if kC N x y = 0 then dO N false x y else 0))), (5, .int (enc (kC N x y))), (0, .ref (b)), (1, .ref (q 0)), (2, .ref (q2 0)), (3, .ref (o)), (4, .int (enc (5 * (j : Int))))]) (st' := [.int (enc (kC N x y))]) rfl rfl rfl ?_
  refine tw_iload X dL_law_1061 1 rfl ?_
  refine tw_icmp_eq (tgt := 1068) X (In_kC _ _ _) (In_kC _ _ _) dL_law_1063 (by decide) (fun _ => ?_) (fun z => absurd rfl z)
  refine tw_iload X dL_law_1068 1 rfl ?_
  refine tw_if_ne (tgt := 1085) X (In_kC _ _ _) dL_law_1070 (by decide) (fun _ => ?_) (fun hk => ?_)
  · skip
    refine tw_goto (tgt := 1636) X dL_law_1085 (by decide) ?_
    refine Tsub (lv' := [(0, .ref (b)), (1, .ref (q 0)), (2, .ref (q2 0)), (3, .ref (o)), (4, .int (enc (5 * (j : Int))))]) [2, 3, 4, 5, 6] rfl ?_
    exact kk N s1 o1 U1 sU1 oU1 A1 g1 (kC N x y) k2 f2 _ _ (show 100 + 40 * j + 2 + 0 + 0 ≤ _ by omega) (show 1400 + 250 * j + 12 + 0 + 0 ≤ _ by omega) (hF.mono (by omega)) (hV1)
  · skip
    refine tw_aload_n X dL_law_1073 5 rfl rfl ?_
    refine tw_iconst X dL_law_1074 ?_
    refine tl_lald X B (g := g1) 45 rfl dL_law_1075 ?_
    refine tw_iload X dL_law_1076 0 rfl ?_
    refine tw_i2lr X dL_law_1078 ?_
    refine tw_lcmp X dL_law_1079 ?_
    refine Tst (st' := [.int (enc 0)]) (by rw [hg1 hk, if_pos hk, lg_self]) ?_
    refine tw_if_eq (tgt := 1085) X In0 dL_law_1080 (by decide) (fun _ => ?_) (fun z => absurd rfl z)
    refine tw_goto (tgt := 1636) X dL_law_1085 (by decide) ?_
    refine Tsub (lv' := [(0, .ref (b)), (1, .ref (q 0)), (2, .ref (q2 0)), (3, .ref (o)), (4, .int (enc (5 * (j : Int))))]) [2, 3, 4, 5, 6] rfl ?_
    exact kk N s1 o1 U1 sU1 oU1 A1 g1 (kC N x y) k2 f2 _ _ (show 100 + 40 * j + 2 + 0 + 0 ≤ _ by omega) (show 1400 + 250 * j + 12 + 0 + 0 ≤ _ by omega) (hF.mono (by omega)) (hV1)
set_option maxRecDepth 100000 in
set_option maxHeartbeats 4000000 in
theorem lc_21 {G : va_G} {cy cyl : ClassId} {c : Cx} {b L : Nat} {xs : Nat → Int32} {hh : List (Nat × Nat × Nat × Nat)} {q q2 : Nat → Nat} {o : Nat} {g : Nat → Int64} (X : Ok G cy c cL_law RL 9 room_1) (B : LB G cyl c hh) (hS9 : SX c b L xs) (hL : L ≤ 2560) (N : MT) (sN : Int → Int) (oN : Int) (U : MT) (sU : Int → Int) (oU : Int) (A : Int → Int) (th : Int) (kept far : Int → Int) (B0 : Int) (hF : WF N B0) (hB2 : B0 ≤ 800000) (hV : WVo N sN oN) (j : Nat) (hj : 5 * (j : Int) + 5 ≤ L) (kk : ∀ (N' : MT) (s' : Int → Int) (o' : Int) (U' : MT) (sU' : Int → Int) (oU' : Int) (A' : Int → Int) (g' : Nat → Int64) (th' : Int) (k' f' : Int → Int) (k9 n9 : Nat), k9 ≤ 140 + 40 * j → n9 ≤ 1650 + 250 * j → WF N' (B0 + 1300) → WVo N' s' o' → T G c room_1 9 k9 n9 ((wD cy q N' s' o' U' sU' oU' A' ++ oL cyl o g') ++ wP cy q2 N' th' k' f') 1636 [(0, .ref (b)), (1, .ref (q 0)), (2, .ref (q2 0)), (3, .ref (o)), (4, .int (enc (5 * (j : Int))))] []) : T G c room_1 9 (100 + 40 * j) (1400 + 250 * j) ((wD cy q N sN oN U sU oU A ++ oL cyl o g) ++ wP cy q2 N th kept far) 1088 [(0, .ref (b)), (1, .ref (q 0)), (2, .ref (q2 0)), (3, .ref (o)), (4, .int (enc (5 * (j : Int))))] [] := by
  have hB := hF.bd (by omega)
  obtain ⟨w0, w1, w2, w3, w4⟩ := id hF.r
  have h17 := hF.2.2.2.2.2.1
  have h172 := hF.2.2.2.2.2.2.1
  obtain ⟨x, hx, ex⟩ : ∃ x : Int, In x ∧ (xs (5 * (j : Int) + 1).toNat).toInt = x := ⟨_, In_i32 _, rfl⟩
  obtain ⟨y, hy, ey⟩ : ∃ y : Int, In y ∧ (xs (5 * (j : Int) + 2).toNat).toInt = y := ⟨_, In_i32 _, rfl⟩
  refine tw_aload_n X dL_law_1088 1 rfl rfl ?_
  refine tw_aload_n X dL_law_1089 0 rfl rfl ?_
  refine tw_iload X dL_law_1090 4 rfl ?_
  refine tw_iconst X dL_law_1092 ?_
  refine tw_iadd (z := 5 * (j : Int) + 1) X dL_law_1093 rfl ?_
  refine tl_sld X hS9 hL (z := 5 * (j : Int) + 1) (by omega) dL_law_1094 ?_
  refine Tst (st' := [.int (enc (x)), .ref (q 0)]) (by rw [ex]) ?_
  refine tw_aload_n X dL_law_1095 0 rfl rfl ?_
  refine tw_iload X dL_law_1096 4 rfl ?_
  refine tw_iconst X dL_law_1098 ?_
  refine tw_iadd (z := 5 * (j : Int) + 2) X dL_law_1099 rfl ?_
  refine tl_sld X hS9 hL (z := 5 * (j : Int) + 2) (by omega) dL_law_1100 ?_
  refine Tst (st' := [.int (enc (y)), .int (enc (x)), .ref (q 0)]) (by rw [ey]) ?_
  refine tw_aload_n X dL_law_1101 3 rfl rfl ?_
  refine tl_callW X B (As := [.ref (q 0), .int (enc (x)), .int (enc (y)), .ref (o)]) (st := []) rfl xw_nextRoad (w_nextRoad (q := q) (o := o) (g := g) N sN oN U sU oU A x y hx hy B0 hF hB2 hV) [] (wP cy q2 N th kept far) rfl rfl rfl ⟨rfl, rfl, Nat.le_of_ble_eq_true rfl, Nat.le_of_ble_eq_true rfl⟩ ⟨(show 100 + 40 * j + 2 ≤ 601024 by omega), (show 1400 + 250 * j + 12 ≤ 7293034 by omega)⟩ (Nat.le_of_ble_eq_true rfl) dL_law_1102 (fun v w1 hp => ?_)
  obtain ⟨rfl, g1, s1, o1, U1, sU1, oU1, A1, hg1, hV1, rfl⟩ := hp
  refine Teq (ws' := (wD cy q N s1 o1 U1 sU1 oU1 A1 ++ oL cyl o g1) ++ wP cy q2 N th kept far) (lv' := [(0, .ref (b)), (1, .ref (q 0)), (2, .ref (q2 0)), (3, .ref (o)), (4, .int (enc (5 * (j : Int))))]) (st' := [.int (enc (kC N x y))]) rfl rfl rfl ?_
  refine tw_istore (lv' := [(5, .int (enc (kC N x y))), (0, .ref (b)), (1, .ref (q 0)), (2, .ref (q2 0)), (3, .ref (o)), (4, .int (enc (5 * (j : Int))))]) X dL_law_1105 (by decide) rfl ?_
  refine tw_aload_n X dL_law_1107 3 rfl rfl ?_
  refine tw_aload_n X dL_law_1108 1 rfl rfl ?_
  refine tw_iload X dL_law_1109 5 rfl ?_
  refine tw_iconst X dL_law_1111 ?_
  refine tw_iadd (z := 5 * (j : Int) + 1) X dL_law_1112 rfl ?_
  refine tl_sld X hS9 hL (z := 5 * (j : Int) + 1) (by omega) dL_law_1113 ?_
  refine Tst (st' := [.int (enc (x)), .ref (q2 0)]) (by rw [ex]) ?_
  refine tw_aload_n X dL_law_1114 1 rfl rfl ?_
  refine tw_iload X dL_law_1115 5 rfl ?_
  refine tw_iconst X dL_law_1117 ?_
  refine tw_iadd (z := 5 * (j : Int) + 2) X dL_law_1118 rfl ?_
  refine tl_sld X hS9 hL (z := 5 * (j : Int) + 2) (by omega) dL_law_1119 ?_
  refine Tst (st' := [.int (enc (y)), .int (enc (x)), .ref (q2 0)]) (by rw [ey]) ?_
  refine tw_callV X (As := [.int (enc (x)), .int (enc (y))]) (st := []) vw_L_169 (m_X5_nextRoad (q := q2) N th kept far x y hx hy B0 hF hB2) (wD cy q N s1 o1 U1 sU1 oU1 A1 ++ oL cyl o g1) [] rfl rfl (q0 := 0) rfl rfl rfl ⟨rfl, rfl, Nat.le_of_ble_eq_true rfl, Nat.le_of_ble_eq_true rfl⟩ ⟨(show 100 + 40 * j + 2 + 0 ≤ 601024 by omega), (show 1400 + 250 * j + 12 + 0 ≤ 7293034 by omega)⟩ (Nat.le_of_ble_eq_true rfl) dL_law_1120 (fun v w1 hp => ?_)
  obtain ⟨rfl, k2, f2, rfl⟩ := hp
  refine Teq (ws' := (wD cy q N s1 o1 U1 sU1 oU1 A1 ++ oL cyl o g1) ++ wP cy q2 N (kC N x y) k2 f2) (lv' := [(5, .int (enc (kC N x y))), (0, .ref (b)), (1, .ref (q 0)), (2, .ref (q2 0)), (3, .ref (o)), (4, .int (enc (5 * (j : Int))))]) (st' := [.int (enc (if kC N x y = 0 then if x = y then -1 else toward N x y else 0))]) rfl rfl rfl ?_
  refine tw_istore (lv' := [(6, .int (enc (if kC N x y = 0 then if x = y then -1 else toward N x y else 0))), (5, .int (enc (kC N x y))), (0, .ref (b)), (1, .ref (q 0)), (2, .ref (q2 0)), (3, .ref (o)), (4, .int (enc (5 * (j : Int))))]) X dL_law_1123 (by decide) rfl ?_
  refine tw_aload_n X dL_law_1125 4 rfl rfl ?_
  refine tw_callV X (As := []) (st := []) vw_L_93 (m_X5_thrown (q := q2) N (kC N x y) k2 f2) (wD cy q N s1 o1 U1 sU1 oU1 A1 ++ oL cyl o g1) [] rfl rfl (q0 := 0) rfl rfl rfl ⟨rfl, rfl, Nat.le_of_ble_eq_true rfl, Nat.le_of_ble_eq_true rfl⟩ ⟨(show 100 + 40 * j + 2 + 0 + 0 ≤ 601024 by omega), (show 1400 + 250 * j + 12 + 0 + 0 ≤ 7293034 by omega)⟩ (Nat.le_of_ble_eq_true rfl) dL_law_1126 (fun v w1 hp => ?_)
  obtain ⟨rfl, rfl⟩ := hp
  refine Teq (ws' := (wD cy q N s1 o1 U1 sU1 oU1 A1 ++ oL cyl o g1) ++ wP cy q2 N (kC N x y) k2 f2) (lv' := [(6, .int (enc (if kC N x y = 0 then if x = y then -1 else toward N x y else 0))), (5, .int (enc (kC N x y))), (0, .ref (b)), (1, .ref (q 0)), (2, .ref (q2 0)), (3, .ref (o)), (4, .int (enc (5 * (j : Int))))]) (st' := [.int (enc (kC N x y))]) rfl rfl rfl ?_
  refine tw_iload X dL_law_1129 1 rfl ?_
  refine tw_icmp_eq (tgt := 1136) X (In_kC _ _ _) (In_kC _ _ _) dL_law_1131 (by decide) (fun _ => ?_) (fun z => absurd rfl z)
  refine tw_iload X dL_law_1136 1 rfl ?_
  refine tw_if_ne (tgt := 1153) X (In_kC _ _ _) dL_law_1138 (by decide) (fun _ => ?_) (fun hk => ?_)
  · skip
    refine tw_goto (tgt := 1636) X dL_law_1153 (by decide) ?_
    refine Tsub (lv' := [(0, .ref (b)), (1, .ref (q 0)), (2, .ref (q2 0)), (3, .ref (o)), (4, .int (enc (5 * (j : Int))))]) [2, 3, 4, 5, 6] rfl ?_
    exact kk N s1 o1 U1 sU1 oU1 A1 g1 (kC N x y) k2 f2 _ _ (show 100 + 40 * j + 2 + 0 + 0 ≤ _ by omega) (show 1400 + 250 * j + 12 + 0 + 0 ≤ _ by omega) (hF.mono (by omega)) (hV1)
  · skip
    refine tw_aload_n X dL_law_1141 5 rfl rfl ?_
    refine tw_iconst X dL_law_1142 ?_
    refine tl_lald X B (g := g1) 45 rfl dL_law_1143 ?_
    refine tw_iload X dL_law_1144 0 rfl ?_
    refine tw_i2lr X dL_law_1146 ?_
    refine tw_lcmp X dL_law_1147 ?_
    refine Tst (st' := [.int (enc 0)]) (by rw [hg1 hk, if_pos hk, lg_self]) ?_
    refine tw_if_eq (tgt := 1153) X In0 dL_law_1148 (by decide) (fun _ => ?_) (fun z => absurd rfl z)
    refine tw_goto (tgt := 1636) X dL_law_1153 (by decide) ?_
    refine Tsub (lv' := [(0, .ref (b)), (1, .ref (q 0)), (2, .ref (q2 0)), (3, .ref (o)), (4, .int (enc (5 * (j : Int))))]) [2, 3, 4, 5, 6] rfl ?_
    exact kk N s1 o1 U1 sU1 oU1 A1 g1 (kC N x y) k2 f2 _ _ (show 100 + 40 * j + 2 + 0 + 0 ≤ _ by omega) (show 1400 + 250 * j + 12 + 0 + 0 ≤ _ by omega) (hF.mono (by omega)) (hV1)
set_option maxRecDepth 100000 in
set_option maxHeartbeats 4000000 in
theorem lc_22 {G : va_G} {cy cyl : ClassId} {c : Cx} {b L : Nat} {xs : Nat → Int32} {hh : List (Nat × Nat × Nat × Nat)} {q q2 : Nat → Nat} {o : Nat} {g : Nat → Int64} (X : Ok G cy c cL_law RL 9 room_1) (B : LB G cyl c hh) (hS9 : SX c b L xs) (hL : L ≤ 2560) (N : MT) (sN : Int → Int) (oN : Int) (U : MT) (sU : Int → Int) (oU : Int) (A : Int → Int) (th : Int) (kept far : Int → Int) (B0 : Int) (hF : WF N B0) (hB2 : B0 ≤ 800000) (hV : WVo N sN oN) (j : Nat) (hj : 5 * (j : Int) + 5 ≤ L) (kk : ∀ (N' : MT) (s' : Int → Int) (o' : Int) (U' : MT) (sU' : Int → Int) (oU' : Int) (A' : Int → Int) (g' : Nat → Int64) (th' : Int) (k' f' : Int → Int) (k9 n9 : Nat), k9 ≤ 140 + 40 * j → n9 ≤ 1650 + 250 * j → WF N' (B0 + 1300) → WVo N' s' o' → T G c room_1 9 k9 n9 ((wD cy q N' s' o' U' sU' oU' A' ++ oL cyl o g') ++ wP cy q2 N' th' k' f') 1636 [(0, .ref (b)), (1, .ref (q 0)), (2, .ref (q2 0)), (3, .ref (o)), (4, .int (enc (5 * (j : Int))))] []) : T G c room_1 9 (100 + 40 * j) (1400 + 250 * j) ((wD cy q N sN oN U sU oU A ++ oL cyl o g) ++ wP cy q2 N th kept far) 1156 [(0, .ref (b)), (1, .ref (q 0)), (2, .ref (q2 0)), (3, .ref (o)), (4, .int (enc (5 * (j : Int))))] [] := by
  have hB := hF.bd (by omega)
  obtain ⟨w0, w1, w2, w3, w4⟩ := id hF.r
  have h17 := hF.2.2.2.2.2.1
  have h172 := hF.2.2.2.2.2.2.1
  refine tw_aload_n X dL_law_1156 1 rfl rfl ?_
  refine tw_callV X (As := []) (st := []) vw_L_170 (m_X4_partedPairs (q := q) N sN oN U sU oU A B0 hF hB2 hV) [] (oL cyl o g ++ wP cy q2 N th kept far) rfl rfl (q0 := 0) rfl rfl rfl ⟨rfl, rfl, Nat.le_of_ble_eq_true rfl, Nat.le_of_ble_eq_true rfl⟩ ⟨(show 100 + 40 * j + 0 ≤ 601024 by omega), (show 1400 + 250 * j + 0 ≤ 7293034 by omega)⟩ (Nat.le_of_ble_eq_true rfl) dL_law_1157 (fun v w1 hp => ?_)
  obtain ⟨rfl, sf, hVf, rfl⟩ := hp
  refine Teq (ws' := (wD cy q N sf 0 U sU oU A ++ oL cyl o g) ++ wP cy q2 N th kept far) (lv' := [(0, .ref (b)), (1, .ref (q 0)), (2, .ref (q2 0)), (3, .ref (o)), (4, .int (enc (5 * (j : Int))))]) (st' := [.int (enc (pdP N (N 19 0).toNat))]) rfl rfl rfl ?_
  refine tw_aload_n X dL_law_1160 2 rfl rfl ?_
  refine tw_callV X (As := []) (st := [.int (enc (pdP N (N 19 0).toNat))]) vw_L_173 (m_X5_partedPairs (q := q2) N th kept far B0 hF hB2) (wD cy q N sf 0 U sU oU A ++ oL cyl o g) [] rfl rfl (q0 := 0) rfl rfl rfl ⟨rfl, rfl, Nat.le_of_ble_eq_true rfl, Nat.le_of_ble_eq_true rfl⟩ ⟨(show 100 + 40 * j + 0 + 0 ≤ 601024 by omega), (show 1400 + 250 * j + 0 + 0 ≤ 7293034 by omega)⟩ (Nat.le_of_ble_eq_true rfl) dL_law_1161 (fun v w1 hp => ?_)
  obtain ⟨rfl, k2, f2, rfl⟩ := hp
  refine Teq (ws' := (wD cy q N sf 0 U sU oU A ++ oL cyl o g) ++ wP cy q2 N 0 k2 f2) (lv' := [(0, .ref (b)), (1, .ref (q 0)), (2, .ref (q2 0)), (3, .ref (o)), (4, .int (enc (5 * (j : Int))))]) (st' := [.int (enc (pdP N (N 19 0).toNat)), .int (enc (pdP N (N 19 0).toNat))]) rfl rfl rfl ?_
  have r1 := pdP_rng N (N 19 0).toNat (by omega)
  have rB := hB 20 0
  have rB2 := hB 18 0
  refine tw_icmp_eq (tgt := 1636) X (In_of (by omega) (by omega)) (In_of (by omega) (by omega)) dL_law_1164 (by decide) (fun _ => ?_) (fun z => absurd rfl z)
  refine Tsub (lv' := [(0, .ref (b)), (1, .ref (q 0)), (2, .ref (q2 0)), (3, .ref (o)), (4, .int (enc (5 * (j : Int))))]) [0, 1, 2, 3, 4] rfl ?_
  exact kk N sf 0 U sU oU A g 0 k2 f2 _ _ (show 100 + 40 * j + 0 + 0 ≤ _ by omega) (show 1400 + 250 * j + 0 + 0 ≤ _ by omega) (hF.mono (by omega)) (⟨Or.inl rfl, fun _ => hVf⟩)
set_option maxRecDepth 100000 in
set_option maxHeartbeats 4000000 in
theorem lc_23 {G : va_G} {cy cyl : ClassId} {c : Cx} {b L : Nat} {xs : Nat → Int32} {hh : List (Nat × Nat × Nat × Nat)} {q q2 : Nat → Nat} {o : Nat} {g : Nat → Int64} (X : Ok G cy c cL_law RL 9 room_1) (B : LB G cyl c hh) (hS9 : SX c b L xs) (hL : L ≤ 2560) (N : MT) (sN : Int → Int) (oN : Int) (U : MT) (sU : Int → Int) (oU : Int) (A : Int → Int) (th : Int) (kept far : Int → Int) (B0 : Int) (hF : WF N B0) (hB2 : B0 ≤ 800000) (hV : WVo N sN oN) (j : Nat) (hj : 5 * (j : Int) + 5 ≤ L) (kk : ∀ (N' : MT) (s' : Int → Int) (o' : Int) (U' : MT) (sU' : Int → Int) (oU' : Int) (A' : Int → Int) (g' : Nat → Int64) (th' : Int) (k' f' : Int → Int) (k9 n9 : Nat), k9 ≤ 140 + 40 * j → n9 ≤ 1650 + 250 * j → WF N' (B0 + 1300) → WVo N' s' o' → T G c room_1 9 k9 n9 ((wD cy q N' s' o' U' sU' oU' A' ++ oL cyl o g') ++ wP cy q2 N' th' k' f') 1636 [(0, .ref (b)), (1, .ref (q 0)), (2, .ref (q2 0)), (3, .ref (o)), (4, .int (enc (5 * (j : Int))))] []) : T G c room_1 9 (100 + 40 * j) (1400 + 250 * j) ((wD cy q N sN oN U sU oU A ++ oL cyl o g) ++ wP cy q2 N th kept far) 1169 [(0, .ref (b)), (1, .ref (q 0)), (2, .ref (q2 0)), (3, .ref (o)), (4, .int (enc (5 * (j : Int))))] [] := by
  have hB := hF.bd (by omega)
  obtain ⟨w0, w1, w2, w3, w4⟩ := id hF.r
  have h17 := hF.2.2.2.2.2.1
  have h172 := hF.2.2.2.2.2.2.1
  obtain ⟨x, hx, ex⟩ : ∃ x : Int, In x ∧ (xs (5 * (j : Int) + 1).toNat).toInt = x := ⟨_, In_i32 _, rfl⟩
  refine tw_aload_n X dL_law_1169 1 rfl rfl ?_
  refine tw_aload_n X dL_law_1170 0 rfl rfl ?_
  refine tw_iload X dL_law_1171 4 rfl ?_
  refine tw_iconst X dL_law_1173 ?_
  refine tw_iadd (z := 5 * (j : Int) + 1) X dL_law_1174 rfl ?_
  refine tl_sld X hS9 hL (z := 5 * (j : Int) + 1) (by omega) dL_law_1175 ?_
  refine Tst (st' := [.int (enc (x)), .ref (q 0)]) (by rw [ex]) ?_
  refine tw_aload_n X dL_law_1176 3 rfl rfl ?_
  refine tl_callW X B (As := [.ref (q 0), .int (enc (x)), .ref (o)]) (st := []) rfl xw_placeOf (w_placeOf (q := q) (o := o) (g := g) N sN oN U sU oU A x hx B0 hF hB2 hV) [] (wP cy q2 N th kept far) rfl rfl rfl ⟨rfl, rfl, Nat.le_of_ble_eq_true rfl, Nat.le_of_ble_eq_true rfl⟩ ⟨(show 100 + 40 * j + 1 ≤ 601024 by omega), (show 1400 + 250 * j + 6 ≤ 7293034 by omega)⟩ (Nat.le_of_ble_eq_true rfl) dL_law_1177 (fun v w1 hp => ?_)
  obtain ⟨rfl, g1, s1, o1, U1, sU1, oU1, A1, hg1, hV1, rfl⟩ := hp
  refine Teq (ws' := (wD cy q N s1 o1 U1 sU1 oU1 A1 ++ oL cyl o g1) ++ wP cy q2 N th kept far) (lv' := [(0, .ref (b)), (1, .ref (q 0)), (2, .ref (q2 0)), (3, .ref (o)), (4, .int (enc (5 * (j : Int))))]) (st' := [.int (enc (kT N x))]) rfl rfl rfl ?_
  refine tw_istore (lv' := [(5, .int (enc (kT N x))), (0, .ref (b)), (1, .ref (q 0)), (2, .ref (q2 0)), (3, .ref (o)), (4, .int (enc (5 * (j : Int))))]) X dL_law_1180 (by decide) rfl ?_
  refine tw_aload_n X dL_law_1182 3 rfl rfl ?_
  refine tw_aload_n X dL_law_1183 1 rfl rfl ?_
  refine tw_iload X dL_law_1184 5 rfl ?_
  refine tw_iconst X dL_law_1186 ?_
  refine tw_iadd (z := 5 * (j : Int) + 1) X dL_law_1187 rfl ?_
  refine tl_sld X hS9 hL (z := 5 * (j : Int) + 1) (by omega) dL_law_1188 ?_
  refine Tst (st' := [.int (enc (x)), .ref (q2 0)]) (by rw [ex]) ?_
  refine tw_callV X (As := [.int (enc (x))]) (st := []) vw_L_176 (m_X5_placeOf (q := q2) N th kept far x hx B0 hF hB2) (wD cy q N s1 o1 U1 sU1 oU1 A1 ++ oL cyl o g1) [] rfl rfl (q0 := 0) rfl rfl rfl ⟨rfl, rfl, Nat.le_of_ble_eq_true rfl, Nat.le_of_ble_eq_true rfl⟩ ⟨(show 100 + 40 * j + 1 + 0 ≤ 601024 by omega), (show 1400 + 250 * j + 6 + 0 ≤ 7293034 by omega)⟩ (Nat.le_of_ble_eq_true rfl) dL_law_1189 (fun v w1 hp => ?_)
  obtain ⟨rfl, k2, f2, rfl⟩ := hp
  refine Teq (ws' := (wD cy q N s1 o1 U1 sU1 oU1 A1 ++ oL cyl o g1) ++ wP cy q2 N (kT N x) k2 f2) (lv' := [(5, .int (enc (kT N x))), (0, .ref (b)), (1, .ref (q 0)), (2, .ref (q2 0)), (3, .ref (o)), (4, .int (enc (5 * (j : Int))))]) (st' := [.int (enc (if kT N x = 0 then N 7 x else 0))]) rfl rfl rfl ?_
  refine tw_istore (lv' := [(6, .int (enc (if kT N x = 0 then N 7 x else 0))), (5, .int (enc (kT N x))), (0, .ref (b)), (1, .ref (q 0)), (2, .ref (q2 0)), (3, .ref (o)), (4, .int (enc (5 * (j : Int))))]) X dL_law_1192 (by decide) rfl ?_
  refine tw_aload_n X dL_law_1194 4 rfl rfl ?_
  refine tw_callV X (As := []) (st := []) vw_L_93 (m_X5_thrown (q := q2) N (kT N x) k2 f2) (wD cy q N s1 o1 U1 sU1 oU1 A1 ++ oL cyl o g1) [] rfl rfl (q0 := 0) rfl rfl rfl ⟨rfl, rfl, Nat.le_of_ble_eq_true rfl, Nat.le_of_ble_eq_true rfl⟩ ⟨(show 100 + 40 * j + 1 + 0 + 0 ≤ 601024 by omega), (show 1400 + 250 * j + 6 + 0 + 0 ≤ 7293034 by omega)⟩ (Nat.le_of_ble_eq_true rfl) dL_law_1195 (fun v w1 hp => ?_)
  obtain ⟨rfl, rfl⟩ := hp
  refine Teq (ws' := (wD cy q N s1 o1 U1 sU1 oU1 A1 ++ oL cyl o g1) ++ wP cy q2 N (kT N x) k2 f2) (lv' := [(6, .int (enc (if kT N x = 0 then N 7 x else 0))), (5, .int (enc (kT N x))), (0, .ref (b)), (1, .ref (q 0)), (2, .ref (q2 0)), (3, .ref (o)), (4, .int (enc (5 * (j : Int))))]) (st' := [.int (enc (kT N x))]) rfl rfl rfl ?_
  refine tw_iload X dL_law_1198 1 rfl ?_
  refine tw_icmp_eq (tgt := 1205) X (In_kT _ _) (In_kT _ _) dL_law_1200 (by decide) (fun _ => ?_) (fun z => absurd rfl z)
  refine tw_iload X dL_law_1205 1 rfl ?_
  refine tw_if_ne (tgt := 1222) X (In_kT _ _) dL_law_1207 (by decide) (fun _ => ?_) (fun hk => ?_)
  · skip
    refine tw_goto (tgt := 1636) X dL_law_1222 (by decide) ?_
    refine Tsub (lv' := [(0, .ref (b)), (1, .ref (q 0)), (2, .ref (q2 0)), (3, .ref (o)), (4, .int (enc (5 * (j : Int))))]) [2, 3, 4, 5, 6] rfl ?_
    exact kk N s1 o1 U1 sU1 oU1 A1 g1 (kT N x) k2 f2 _ _ (show 100 + 40 * j + 1 + 0 + 0 ≤ _ by omega) (show 1400 + 250 * j + 6 + 0 + 0 ≤ _ by omega) (hF.mono (by omega)) (hV1)
  · skip
    refine tw_aload_n X dL_law_1210 5 rfl rfl ?_
    refine tw_iconst X dL_law_1211 ?_
    refine tl_lald X B (g := g1) 45 rfl dL_law_1212 ?_
    refine tw_iload X dL_law_1213 0 rfl ?_
    refine tw_i2lr X dL_law_1215 ?_
    refine tw_lcmp X dL_law_1216 ?_
    refine Tst (st' := [.int (enc 0)]) (by rw [hg1 hk, if_pos hk, lg_self]) ?_
    refine tw_if_eq (tgt := 1222) X In0 dL_law_1217 (by decide) (fun _ => ?_) (fun z => absurd rfl z)
    refine tw_goto (tgt := 1636) X dL_law_1222 (by decide) ?_
    refine Tsub (lv' := [(0, .ref (b)), (1, .ref (q 0)), (2, .ref (q2 0)), (3, .ref (o)), (4, .int (enc (5 * (j : Int))))]) [2, 3, 4, 5, 6] rfl ?_
    exact kk N s1 o1 U1 sU1 oU1 A1 g1 (kT N x) k2 f2 _ _ (show 100 + 40 * j + 1 + 0 + 0 ≤ _ by omega) (show 1400 + 250 * j + 6 + 0 + 0 ≤ _ by omega) (hF.mono (by omega)) (hV1)
set_option maxRecDepth 100000 in
set_option maxHeartbeats 4000000 in
theorem lc_24 {G : va_G} {cy cyl : ClassId} {c : Cx} {b L : Nat} {xs : Nat → Int32} {hh : List (Nat × Nat × Nat × Nat)} {q q2 : Nat → Nat} {o : Nat} {g : Nat → Int64} (X : Ok G cy c cL_law RL 9 room_1) (B : LB G cyl c hh) (hS9 : SX c b L xs) (hL : L ≤ 2560) (N : MT) (sN : Int → Int) (oN : Int) (U : MT) (sU : Int → Int) (oU : Int) (A : Int → Int) (th : Int) (kept far : Int → Int) (B0 : Int) (hF : WF N B0) (hB2 : B0 ≤ 800000) (hV : WVo N sN oN) (j : Nat) (hj : 5 * (j : Int) + 5 ≤ L) (kk : ∀ (N' : MT) (s' : Int → Int) (o' : Int) (U' : MT) (sU' : Int → Int) (oU' : Int) (A' : Int → Int) (g' : Nat → Int64) (th' : Int) (k' f' : Int → Int) (k9 n9 : Nat), k9 ≤ 140 + 40 * j → n9 ≤ 1650 + 250 * j → WF N' (B0 + 1300) → WVo N' s' o' → T G c room_1 9 k9 n9 ((wD cy q N' s' o' U' sU' oU' A' ++ oL cyl o g') ++ wP cy q2 N' th' k' f') 1636 [(0, .ref (b)), (1, .ref (q 0)), (2, .ref (q2 0)), (3, .ref (o)), (4, .int (enc (5 * (j : Int))))] []) : T G c room_1 9 (100 + 40 * j) (1400 + 250 * j) ((wD cy q N sN oN U sU oU A ++ oL cyl o g) ++ wP cy q2 N th kept far) 1225 [(0, .ref (b)), (1, .ref (q 0)), (2, .ref (q2 0)), (3, .ref (o)), (4, .int (enc (5 * (j : Int))))] [] := by
  have hB := hF.bd (by omega)
  obtain ⟨w0, w1, w2, w3, w4⟩ := id hF.r
  have h17 := hF.2.2.2.2.2.1
  have h172 := hF.2.2.2.2.2.2.1
  obtain ⟨x, hx, ex⟩ : ∃ x : Int, In x ∧ (xs (5 * (j : Int) + 1).toNat).toInt = x := ⟨_, In_i32 _, rfl⟩
  refine tw_aload_n X dL_law_1225 1 rfl rfl ?_
  refine tw_aload_n X dL_law_1226 0 rfl rfl ?_
  refine tw_iload X dL_law_1227 4 rfl ?_
  refine tw_iconst X dL_law_1229 ?_
  refine tw_iadd (z := 5 * (j : Int) + 1) X dL_law_1230 rfl ?_
  refine tl_sld X hS9 hL (z := 5 * (j : Int) + 1) (by omega) dL_law_1231 ?_
  refine Tst (st' := [.int (enc (x)), .ref (q 0)]) (by rw [ex]) ?_
  refine tw_aload_n X dL_law_1232 3 rfl rfl ?_
  refine tl_callW X B (As := [.ref (q 0), .int (enc (x)), .ref (o)]) (st := []) rfl xw_roadOf (w_roadOf (q := q) (o := o) (g := g) N sN oN U sU oU A x hx B0 hF hB2 hV) [] (wP cy q2 N th kept far) rfl rfl rfl ⟨rfl, rfl, Nat.le_of_ble_eq_true rfl, Nat.le_of_ble_eq_true rfl⟩ ⟨(show 100 + 40 * j + 1 ≤ 601024 by omega), (show 1400 + 250 * j + 6 ≤ 7293034 by omega)⟩ (Nat.le_of_ble_eq_true rfl) dL_law_1233 (fun v w1 hp => ?_)
  obtain ⟨rfl, g1, s1, o1, U1, sU1, oU1, A1, hg1, hV1, rfl⟩ := hp
  refine Teq (ws' := (wD cy q N s1 o1 U1 sU1 oU1 A1 ++ oL cyl o g1) ++ wP cy q2 N th kept far) (lv' := [(0, .ref (b)), (1, .ref (q 0)), (2, .ref (q2 0)), (3, .ref (o)), (4, .int (enc (5 * (j : Int))))]) (st' := [.int (enc (kT N x))]) rfl rfl rfl ?_
  refine tw_istore (lv' := [(5, .int (enc (kT N x))), (0, .ref (b)), (1, .ref (q 0)), (2, .ref (q2 0)), (3, .ref (o)), (4, .int (enc (5 * (j : Int))))]) X dL_law_1236 (by decide) rfl ?_
  refine tw_aload_n X dL_law_1238 3 rfl rfl ?_
  refine tw_aload_n X dL_law_1239 1 rfl rfl ?_
  refine tw_iload X dL_law_1240 5 rfl ?_
  refine tw_iconst X dL_law_1242 ?_
  refine tw_iadd (z := 5 * (j : Int) + 1) X dL_law_1243 rfl ?_
  refine tl_sld X hS9 hL (z := 5 * (j : Int) + 1) (by omega) dL_law_1244 ?_
  refine Tst (st' := [.int (enc (x)), .ref (q2 0)]) (by rw [ex]) ?_
  refine tw_callV X (As := [.int (enc (x))]) (st := []) vw_L_179 (m_X5_roadOf (q := q2) N th kept far x hx B0 hF hB2) (wD cy q N s1 o1 U1 sU1 oU1 A1 ++ oL cyl o g1) [] rfl rfl (q0 := 0) rfl rfl rfl ⟨rfl, rfl, Nat.le_of_ble_eq_true rfl, Nat.le_of_ble_eq_true rfl⟩ ⟨(show 100 + 40 * j + 1 + 0 ≤ 601024 by omega), (show 1400 + 250 * j + 6 + 0 ≤ 7293034 by omega)⟩ (Nat.le_of_ble_eq_true rfl) dL_law_1245 (fun v w1 hp => ?_)
  obtain ⟨rfl, k2, f2, rfl⟩ := hp
  refine Teq (ws' := (wD cy q N s1 o1 U1 sU1 oU1 A1 ++ oL cyl o g1) ++ wP cy q2 N (kT N x) k2 f2) (lv' := [(5, .int (enc (kT N x))), (0, .ref (b)), (1, .ref (q 0)), (2, .ref (q2 0)), (3, .ref (o)), (4, .int (enc (5 * (j : Int))))]) (st' := [.int (enc (if kT N x = 0 then N 8 x else 0))]) rfl rfl rfl ?_
  refine tw_istore (lv' := [(6, .int (enc (if kT N x = 0 then N 8 x else 0))), (5, .int (enc (kT N x))), (0, .ref (b)), (1, .ref (q 0)), (2, .ref (q2 0)), (3, .ref (o)), (4, .int (enc (5 * (j : Int))))]) X dL_law_1248 (by decide) rfl ?_
  refine tw_aload_n X dL_law_1250 4 rfl rfl ?_
  refine tw_callV X (As := []) (st := []) vw_L_93 (m_X5_thrown (q := q2) N (kT N x) k2 f2) (wD cy q N s1 o1 U1 sU1 oU1 A1 ++ oL cyl o g1) [] rfl rfl (q0 := 0) rfl rfl rfl ⟨rfl, rfl, Nat.le_of_ble_eq_true rfl, Nat.le_of_ble_eq_true rfl⟩ ⟨(show 100 + 40 * j + 1 + 0 + 0 ≤ 601024 by omega), (show 1400 + 250 * j + 6 + 0 + 0 ≤ 7293034 by omega)⟩ (Nat.le_of_ble_eq_true rfl) dL_law_1251 (fun v w1 hp => ?_)
  obtain ⟨rfl, rfl⟩ := hp
  refine Teq (ws' := (wD cy q N s1 o1 U1 sU1 oU1 A1 ++ oL cyl o g1) ++ wP cy q2 N (kT N x) k2 f2) (lv' := [(6, .int (enc (if kT N x = 0 then N 8 x else 0))), (5, .int (enc (kT N x))), (0, .ref (b)), (1, .ref (q 0)), (2, .ref (q2 0)), (3, .ref (o)), (4, .int (enc (5 * (j : Int))))]) (st' := [.int (enc (kT N x))]) rfl rfl rfl ?_
  refine tw_iload X dL_law_1254 1 rfl ?_
  refine tw_icmp_eq (tgt := 1261) X (In_kT _ _) (In_kT _ _) dL_law_1256 (by decide) (fun _ => ?_) (fun z => absurd rfl z)
  refine tw_iload X dL_law_1261 1 rfl ?_
  refine tw_if_ne (tgt := 1278) X (In_kT _ _) dL_law_1263 (by decide) (fun _ => ?_) (fun hk => ?_)
  · skip
    refine tw_goto (tgt := 1636) X dL_law_1278 (by decide) ?_
    refine Tsub (lv' := [(0, .ref (b)), (1, .ref (q 0)), (2, .ref (q2 0)), (3, .ref (o)), (4, .int (enc (5 * (j : Int))))]) [2, 3, 4, 5, 6] rfl ?_
    exact kk N s1 o1 U1 sU1 oU1 A1 g1 (kT N x) k2 f2 _ _ (show 100 + 40 * j + 1 + 0 + 0 ≤ _ by omega) (show 1400 + 250 * j + 6 + 0 + 0 ≤ _ by omega) (hF.mono (by omega)) (hV1)
  · skip
    refine tw_aload_n X dL_law_1266 5 rfl rfl ?_
    refine tw_iconst X dL_law_1267 ?_
    refine tl_lald X B (g := g1) 45 rfl dL_law_1268 ?_
    refine tw_iload X dL_law_1269 0 rfl ?_
    refine tw_i2lr X dL_law_1271 ?_
    refine tw_lcmp X dL_law_1272 ?_
    refine Tst (st' := [.int (enc 0)]) (by rw [hg1 hk, if_pos hk, lg_self]) ?_
    refine tw_if_eq (tgt := 1278) X In0 dL_law_1273 (by decide) (fun _ => ?_) (fun z => absurd rfl z)
    refine tw_goto (tgt := 1636) X dL_law_1278 (by decide) ?_
    refine Tsub (lv' := [(0, .ref (b)), (1, .ref (q 0)), (2, .ref (q2 0)), (3, .ref (o)), (4, .int (enc (5 * (j : Int))))]) [2, 3, 4, 5, 6] rfl ?_
    exact kk N s1 o1 U1 sU1 oU1 A1 g1 (kT N x) k2 f2 _ _ (show 100 + 40 * j + 1 + 0 + 0 ≤ _ by omega) (show 1400 + 250 * j + 6 + 0 + 0 ≤ _ by omega) (hF.mono (by omega)) (hV1)
set_option maxRecDepth 100000 in
set_option maxHeartbeats 4000000 in
theorem lc_25 {G : va_G} {cy cyl : ClassId} {c : Cx} {b L : Nat} {xs : Nat → Int32} {hh : List (Nat × Nat × Nat × Nat)} {q q2 : Nat → Nat} {o : Nat} {g : Nat → Int64} (X : Ok G cy c cL_law RL 9 room_1) (B : LB G cyl c hh) (hS9 : SX c b L xs) (hL : L ≤ 2560) (N : MT) (sN : Int → Int) (oN : Int) (U : MT) (sU : Int → Int) (oU : Int) (A : Int → Int) (th : Int) (kept far : Int → Int) (B0 : Int) (hF : WF N B0) (hB2 : B0 ≤ 800000) (hV : WVo N sN oN) (j : Nat) (hj : 5 * (j : Int) + 5 ≤ L) (kk : ∀ (N' : MT) (s' : Int → Int) (o' : Int) (U' : MT) (sU' : Int → Int) (oU' : Int) (A' : Int → Int) (g' : Nat → Int64) (th' : Int) (k' f' : Int → Int) (k9 n9 : Nat), k9 ≤ 140 + 40 * j → n9 ≤ 1650 + 250 * j → WF N' (B0 + 1300) → WVo N' s' o' → T G c room_1 9 k9 n9 ((wD cy q N' s' o' U' sU' oU' A' ++ oL cyl o g') ++ wP cy q2 N' th' k' f') 1636 [(0, .ref (b)), (1, .ref (q 0)), (2, .ref (q2 0)), (3, .ref (o)), (4, .int (enc (5 * (j : Int))))] []) : T G c room_1 9 (100 + 40 * j) (1400 + 250 * j) ((wD cy q N sN oN U sU oU A ++ oL cyl o g) ++ wP cy q2 N th kept far) 1281 [(0, .ref (b)), (1, .ref (q 0)), (2, .ref (q2 0)), (3, .ref (o)), (4, .int (enc (5 * (j : Int))))] [] := by
  have hB := hF.bd (by omega)
  obtain ⟨w0, w1, w2, w3, w4⟩ := id hF.r
  have h17 := hF.2.2.2.2.2.1
  have h172 := hF.2.2.2.2.2.2.1
  obtain ⟨x, hx, ex⟩ : ∃ x : Int, In x ∧ (xs (5 * (j : Int) + 1).toNat).toInt = x := ⟨_, In_i32 _, rfl⟩
  refine tw_aload_n X dL_law_1281 1 rfl rfl ?_
  refine tw_aload_n X dL_law_1282 0 rfl rfl ?_
  refine tw_iload X dL_law_1283 4 rfl ?_
  refine tw_iconst X dL_law_1285 ?_
  refine tw_iadd (z := 5 * (j : Int) + 1) X dL_law_1286 rfl ?_
  refine tl_sld X hS9 hL (z := 5 * (j : Int) + 1) (by omega) dL_law_1287 ?_
  refine Tst (st' := [.int (enc (x)), .ref (q 0)]) (by rw [ex]) ?_
  refine tw_aload_n X dL_law_1288 3 rfl rfl ?_
  refine tl_callW X B (As := [.ref (q 0), .int (enc (x)), .ref (o)]) (st := []) rfl xw_dyeOf (w_dyeOf (q := q) (o := o) (g := g) N sN oN U sU oU A x hx B0 hF hB2 hV) [] (wP cy q2 N th kept far) rfl rfl rfl ⟨rfl, rfl, Nat.le_of_ble_eq_true rfl, Nat.le_of_ble_eq_true rfl⟩ ⟨(show 100 + 40 * j + 1 ≤ 601024 by omega), (show 1400 + 250 * j + 6 ≤ 7293034 by omega)⟩ (Nat.le_of_ble_eq_true rfl) dL_law_1289 (fun v w1 hp => ?_)
  obtain ⟨rfl, g1, s1, o1, U1, sU1, oU1, A1, hg1, hV1, rfl⟩ := hp
  refine Teq (ws' := (wD cy q N s1 o1 U1 sU1 oU1 A1 ++ oL cyl o g1) ++ wP cy q2 N th kept far) (lv' := [(0, .ref (b)), (1, .ref (q 0)), (2, .ref (q2 0)), (3, .ref (o)), (4, .int (enc (5 * (j : Int))))]) (st' := [.int (enc (kT N x))]) rfl rfl rfl ?_
  refine tw_istore (lv' := [(5, .int (enc (kT N x))), (0, .ref (b)), (1, .ref (q 0)), (2, .ref (q2 0)), (3, .ref (o)), (4, .int (enc (5 * (j : Int))))]) X dL_law_1292 (by decide) rfl ?_
  refine tw_aload_n X dL_law_1294 3 rfl rfl ?_
  refine tw_aload_n X dL_law_1295 1 rfl rfl ?_
  refine tw_iload X dL_law_1296 5 rfl ?_
  refine tw_iconst X dL_law_1298 ?_
  refine tw_iadd (z := 5 * (j : Int) + 1) X dL_law_1299 rfl ?_
  refine tl_sld X hS9 hL (z := 5 * (j : Int) + 1) (by omega) dL_law_1300 ?_
  refine Tst (st' := [.int (enc (x)), .ref (q2 0)]) (by rw [ex]) ?_
  refine tw_callV X (As := [.int (enc (x))]) (st := []) vw_L_182 (m_X5_dyeOf (q := q2) N th kept far x hx B0 hF hB2) (wD cy q N s1 o1 U1 sU1 oU1 A1 ++ oL cyl o g1) [] rfl rfl (q0 := 0) rfl rfl rfl ⟨rfl, rfl, Nat.le_of_ble_eq_true rfl, Nat.le_of_ble_eq_true rfl⟩ ⟨(show 100 + 40 * j + 1 + 0 ≤ 601024 by omega), (show 1400 + 250 * j + 6 + 0 ≤ 7293034 by omega)⟩ (Nat.le_of_ble_eq_true rfl) dL_law_1301 (fun v w1 hp => ?_)
  obtain ⟨rfl, k2, f2, rfl⟩ := hp
  refine Teq (ws' := (wD cy q N s1 o1 U1 sU1 oU1 A1 ++ oL cyl o g1) ++ wP cy q2 N (kT N x) k2 f2) (lv' := [(5, .int (enc (kT N x))), (0, .ref (b)), (1, .ref (q 0)), (2, .ref (q2 0)), (3, .ref (o)), (4, .int (enc (5 * (j : Int))))]) (st' := [.int (enc (if kT N x = 0 then N 12 x else 0))]) rfl rfl rfl ?_
  refine tw_istore (lv' := [(6, .int (enc (if kT N x = 0 then N 12 x else 0))), (5, .int (enc (kT N x))), (0, .ref (b)), (1, .ref (q 0)), (2, .ref (q2 0)), (3, .ref (o)), (4, .int (enc (5 * (j : Int))))]) X dL_law_1304 (by decide) rfl ?_
  refine tw_aload_n X dL_law_1306 4 rfl rfl ?_
  refine tw_callV X (As := []) (st := []) vw_L_93 (m_X5_thrown (q := q2) N (kT N x) k2 f2) (wD cy q N s1 o1 U1 sU1 oU1 A1 ++ oL cyl o g1) [] rfl rfl (q0 := 0) rfl rfl rfl ⟨rfl, rfl, Nat.le_of_ble_eq_true rfl, Nat.le_of_ble_eq_true rfl⟩ ⟨(show 100 + 40 * j + 1 + 0 + 0 ≤ 601024 by omega), (show 1400 + 250 * j + 6 + 0 + 0 ≤ 7293034 by omega)⟩ (Nat.le_of_ble_eq_true rfl) dL_law_1307 (fun v w1 hp => ?_)
  obtain ⟨rfl, rfl⟩ := hp
  refine Teq (ws' := (wD cy q N s1 o1 U1 sU1 oU1 A1 ++ oL cyl o g1) ++ wP cy q2 N (kT N x) k2 f2) (lv' := [(6, .int (enc (if kT N x = 0 then N 12 x else 0))), (5, .int (enc (kT N x))), (0, .ref (b)), (1, .ref (q 0)), (2, .ref (q2 0)), (3, .ref (o)), (4, .int (enc (5 * (j : Int))))]) (st' := [.int (enc (kT N x))]) rfl rfl rfl ?_
  refine tw_iload X dL_law_1310 1 rfl ?_
  refine tw_icmp_eq (tgt := 1317) X (In_kT _ _) (In_kT _ _) dL_law_1312 (by decide) (fun _ => ?_) (fun z => absurd rfl z)
  refine tw_iload X dL_law_1317 1 rfl ?_
  refine tw_if_ne (tgt := 1334) X (In_kT _ _) dL_law_1319 (by decide) (fun _ => ?_) (fun hk => ?_)
  · skip
    refine tw_goto (tgt := 1636) X dL_law_1334 (by decide) ?_
    refine Tsub (lv' := [(0, .ref (b)), (1, .ref (q 0)), (2, .ref (q2 0)), (3, .ref (o)), (4, .int (enc (5 * (j : Int))))]) [2, 3, 4, 5, 6] rfl ?_
    exact kk N s1 o1 U1 sU1 oU1 A1 g1 (kT N x) k2 f2 _ _ (show 100 + 40 * j + 1 + 0 + 0 ≤ _ by omega) (show 1400 + 250 * j + 6 + 0 + 0 ≤ _ by omega) (hF.mono (by omega)) (hV1)
  · skip
    refine tw_aload_n X dL_law_1322 5 rfl rfl ?_
    refine tw_iconst X dL_law_1323 ?_
    refine tl_lald X B (g := g1) 45 rfl dL_law_1324 ?_
    refine tw_iload X dL_law_1325 0 rfl ?_
    refine tw_i2lr X dL_law_1327 ?_
    refine tw_lcmp X dL_law_1328 ?_
    refine Tst (st' := [.int (enc 0)]) (by rw [hg1 hk, if_pos hk, lg_self]) ?_
    refine tw_if_eq (tgt := 1334) X In0 dL_law_1329 (by decide) (fun _ => ?_) (fun z => absurd rfl z)
    refine tw_goto (tgt := 1636) X dL_law_1334 (by decide) ?_
    refine Tsub (lv' := [(0, .ref (b)), (1, .ref (q 0)), (2, .ref (q2 0)), (3, .ref (o)), (4, .int (enc (5 * (j : Int))))]) [2, 3, 4, 5, 6] rfl ?_
    exact kk N s1 o1 U1 sU1 oU1 A1 g1 (kT N x) k2 f2 _ _ (show 100 + 40 * j + 1 + 0 + 0 ≤ _ by omega) (show 1400 + 250 * j + 6 + 0 + 0 ≤ _ by omega) (hF.mono (by omega)) (hV1)
set_option maxRecDepth 100000 in
set_option maxHeartbeats 4000000 in
theorem lc_26 {G : va_G} {cy cyl : ClassId} {c : Cx} {b L : Nat} {xs : Nat → Int32} {hh : List (Nat × Nat × Nat × Nat)} {q q2 : Nat → Nat} {o : Nat} {g : Nat → Int64} (X : Ok G cy c cL_law RL 9 room_1) (B : LB G cyl c hh) (hS9 : SX c b L xs) (hL : L ≤ 2560) (N : MT) (sN : Int → Int) (oN : Int) (U : MT) (sU : Int → Int) (oU : Int) (A : Int → Int) (th : Int) (kept far : Int → Int) (B0 : Int) (hF : WF N B0) (hB2 : B0 ≤ 800000) (hV : WVo N sN oN) (j : Nat) (hj : 5 * (j : Int) + 5 ≤ L) (kk : ∀ (N' : MT) (s' : Int → Int) (o' : Int) (U' : MT) (sU' : Int → Int) (oU' : Int) (A' : Int → Int) (g' : Nat → Int64) (th' : Int) (k' f' : Int → Int) (k9 n9 : Nat), k9 ≤ 140 + 40 * j → n9 ≤ 1650 + 250 * j → WF N' (B0 + 1300) → WVo N' s' o' → T G c room_1 9 k9 n9 ((wD cy q N' s' o' U' sU' oU' A' ++ oL cyl o g') ++ wP cy q2 N' th' k' f') 1636 [(0, .ref (b)), (1, .ref (q 0)), (2, .ref (q2 0)), (3, .ref (o)), (4, .int (enc (5 * (j : Int))))] []) : T G c room_1 9 (100 + 40 * j) (1400 + 250 * j) ((wD cy q N sN oN U sU oU A ++ oL cyl o g) ++ wP cy q2 N th kept far) 1337 [(0, .ref (b)), (1, .ref (q 0)), (2, .ref (q2 0)), (3, .ref (o)), (4, .int (enc (5 * (j : Int))))] [] := by
  have hB := hF.bd (by omega)
  obtain ⟨w0, w1, w2, w3, w4⟩ := id hF.r
  have h17 := hF.2.2.2.2.2.1
  have h172 := hF.2.2.2.2.2.2.1
  obtain ⟨x, hx, ex⟩ : ∃ x : Int, In x ∧ (xs (5 * (j : Int) + 1).toNat).toInt = x := ⟨_, In_i32 _, rfl⟩
  refine tw_aload_n X dL_law_1337 1 rfl rfl ?_
  refine tw_aload_n X dL_law_1338 0 rfl rfl ?_
  refine tw_iload X dL_law_1339 4 rfl ?_
  refine tw_iconst X dL_law_1341 ?_
  refine tw_iadd (z := 5 * (j : Int) + 1) X dL_law_1342 rfl ?_
  refine tl_sld X hS9 hL (z := 5 * (j : Int) + 1) (by omega) dL_law_1343 ?_
  refine Tst (st' := [.int (enc (x)), .ref (q 0)]) (by rw [ex]) ?_
  refine tw_aload_n X dL_law_1344 3 rfl rfl ?_
  refine tl_callW X B (As := [.ref (q 0), .int (enc (x)), .ref (o)]) (st := []) rfl xw_frayOf (w_frayOf (q := q) (o := o) (g := g) N sN oN U sU oU A x hx B0 hF hB2 hV) [] (wP cy q2 N th kept far) rfl rfl rfl ⟨rfl, rfl, Nat.le_of_ble_eq_true rfl, Nat.le_of_ble_eq_true rfl⟩ ⟨(show 100 + 40 * j + 1 ≤ 601024 by omega), (show 1400 + 250 * j + 6 ≤ 7293034 by omega)⟩ (Nat.le_of_ble_eq_true rfl) dL_law_1345 (fun v w1 hp => ?_)
  obtain ⟨rfl, g1, s1, o1, U1, sU1, oU1, A1, hg1, hV1, rfl⟩ := hp
  refine Teq (ws' := (wD cy q N s1 o1 U1 sU1 oU1 A1 ++ oL cyl o g1) ++ wP cy q2 N th kept far) (lv' := [(0, .ref (b)), (1, .ref (q 0)), (2, .ref (q2 0)), (3, .ref (o)), (4, .int (enc (5 * (j : Int))))]) (st' := [.int (enc (kT N x))]) rfl rfl rfl ?_
  refine tw_istore (lv' := [(5, .int (enc (kT N x))), (0, .ref (b)), (1, .ref (q 0)), (2, .ref (q2 0)), (3, .ref (o)), (4, .int (enc (5 * (j : Int))))]) X dL_law_1348 (by decide) rfl ?_
  refine tw_aload_n X dL_law_1350 3 rfl rfl ?_
  refine tw_aload_n X dL_law_1351 1 rfl rfl ?_
  refine tw_iload X dL_law_1352 5 rfl ?_
  refine tw_iconst X dL_law_1354 ?_
  refine tw_iadd (z := 5 * (j : Int) + 1) X dL_law_1355 rfl ?_
  refine tl_sld X hS9 hL (z := 5 * (j : Int) + 1) (by omega) dL_law_1356 ?_
  refine Tst (st' := [.int (enc (x)), .ref (q2 0)]) (by rw [ex]) ?_
  refine tw_callV X (As := [.int (enc (x))]) (st := []) vw_L_185 (m_X5_frayOf (q := q2) N th kept far x hx B0 hF hB2) (wD cy q N s1 o1 U1 sU1 oU1 A1 ++ oL cyl o g1) [] rfl rfl (q0 := 0) rfl rfl rfl ⟨rfl, rfl, Nat.le_of_ble_eq_true rfl, Nat.le_of_ble_eq_true rfl⟩ ⟨(show 100 + 40 * j + 1 + 0 ≤ 601024 by omega), (show 1400 + 250 * j + 6 + 0 ≤ 7293034 by omega)⟩ (Nat.le_of_ble_eq_true rfl) dL_law_1357 (fun v w1 hp => ?_)
  obtain ⟨rfl, k2, f2, rfl⟩ := hp
  refine Teq (ws' := (wD cy q N s1 o1 U1 sU1 oU1 A1 ++ oL cyl o g1) ++ wP cy q2 N (kT N x) k2 f2) (lv' := [(5, .int (enc (kT N x))), (0, .ref (b)), (1, .ref (q 0)), (2, .ref (q2 0)), (3, .ref (o)), (4, .int (enc (5 * (j : Int))))]) (st' := [.int (enc (if kT N x = 0 then frayAt N x (N 20 0) else 0))]) rfl rfl rfl ?_
  refine tw_istore (lv' := [(6, .int (enc (if kT N x = 0 then frayAt N x (N 20 0) else 0))), (5, .int (enc (kT N x))), (0, .ref (b)), (1, .ref (q 0)), (2, .ref (q2 0)), (3, .ref (o)), (4, .int (enc (5 * (j : Int))))]) X dL_law_1360 (by decide) rfl ?_
  refine tw_aload_n X dL_law_1362 4 rfl rfl ?_
  refine tw_callV X (As := []) (st := []) vw_L_93 (m_X5_thrown (q := q2) N (kT N x) k2 f2) (wD cy q N s1 o1 U1 sU1 oU1 A1 ++ oL cyl o g1) [] rfl rfl (q0 := 0) rfl rfl rfl ⟨rfl, rfl, Nat.le_of_ble_eq_true rfl, Nat.le_of_ble_eq_true rfl⟩ ⟨(show 100 + 40 * j + 1 + 0 + 0 ≤ 601024 by omega), (show 1400 + 250 * j + 6 + 0 + 0 ≤ 7293034 by omega)⟩ (Nat.le_of_ble_eq_true rfl) dL_law_1363 (fun v w1 hp => ?_)
  obtain ⟨rfl, rfl⟩ := hp
  refine Teq (ws' := (wD cy q N s1 o1 U1 sU1 oU1 A1 ++ oL cyl o g1) ++ wP cy q2 N (kT N x) k2 f2) (lv' := [(6, .int (enc (if kT N x = 0 then frayAt N x (N 20 0) else 0))), (5, .int (enc (kT N x))), (0, .ref (b)), (1, .ref (q 0)), (2, .ref (q2 0)), (3, .ref (o)), (4, .int (enc (5 * (j : Int))))]) (st' := [.int (enc (kT N x))]) rfl rfl rfl ?_
  refine tw_iload X dL_law_1366 1 rfl ?_
  refine tw_icmp_eq (tgt := 1373) X (In_kT _ _) (In_kT _ _) dL_law_1368 (by decide) (fun _ => ?_) (fun z => absurd rfl z)
  refine tw_iload X dL_law_1373 1 rfl ?_
  refine tw_if_ne (tgt := 1390) X (In_kT _ _) dL_law_1375 (by decide) (fun _ => ?_) (fun hk => ?_)
  · skip
    refine tw_goto (tgt := 1636) X dL_law_1390 (by decide) ?_
    refine Tsub (lv' := [(0, .ref (b)), (1, .ref (q 0)), (2, .ref (q2 0)), (3, .ref (o)), (4, .int (enc (5 * (j : Int))))]) [2, 3, 4, 5, 6] rfl ?_
    exact kk N s1 o1 U1 sU1 oU1 A1 g1 (kT N x) k2 f2 _ _ (show 100 + 40 * j + 1 + 0 + 0 ≤ _ by omega) (show 1400 + 250 * j + 6 + 0 + 0 ≤ _ by omega) (hF.mono (by omega)) (hV1)
  · skip
    refine tw_aload_n X dL_law_1378 5 rfl rfl ?_
    refine tw_iconst X dL_law_1379 ?_
    refine tl_lald X B (g := g1) 45 rfl dL_law_1380 ?_
    refine tw_iload X dL_law_1381 0 rfl ?_
    refine tw_i2lr X dL_law_1383 ?_
    refine tw_lcmp X dL_law_1384 ?_
    refine Tst (st' := [.int (enc 0)]) (by rw [hg1 hk, if_pos hk, lg_self]) ?_
    refine tw_if_eq (tgt := 1390) X In0 dL_law_1385 (by decide) (fun _ => ?_) (fun z => absurd rfl z)
    refine tw_goto (tgt := 1636) X dL_law_1390 (by decide) ?_
    refine Tsub (lv' := [(0, .ref (b)), (1, .ref (q 0)), (2, .ref (q2 0)), (3, .ref (o)), (4, .int (enc (5 * (j : Int))))]) [2, 3, 4, 5, 6] rfl ?_
    exact kk N s1 o1 U1 sU1 oU1 A1 g1 (kT N x) k2 f2 _ _ (show 100 + 40 * j + 1 + 0 + 0 ≤ _ by omega) (show 1400 + 250 * j + 6 + 0 + 0 ≤ _ by omega) (hF.mono (by omega)) (hV1)
set_option maxRecDepth 100000 in
set_option maxHeartbeats 4000000 in
theorem lc_27 {G : va_G} {cy cyl : ClassId} {c : Cx} {b L : Nat} {xs : Nat → Int32} {hh : List (Nat × Nat × Nat × Nat)} {q q2 : Nat → Nat} {o : Nat} {g : Nat → Int64} (X : Ok G cy c cL_law RL 9 room_1) (B : LB G cyl c hh) (hS9 : SX c b L xs) (hL : L ≤ 2560) (N : MT) (sN : Int → Int) (oN : Int) (U : MT) (sU : Int → Int) (oU : Int) (A : Int → Int) (th : Int) (kept far : Int → Int) (B0 : Int) (hF : WF N B0) (hB2 : B0 ≤ 800000) (hV : WVo N sN oN) (j : Nat) (hj : 5 * (j : Int) + 5 ≤ L) (kk : ∀ (N' : MT) (s' : Int → Int) (o' : Int) (U' : MT) (sU' : Int → Int) (oU' : Int) (A' : Int → Int) (g' : Nat → Int64) (th' : Int) (k' f' : Int → Int) (k9 n9 : Nat), k9 ≤ 140 + 40 * j → n9 ≤ 1650 + 250 * j → WF N' (B0 + 1300) → WVo N' s' o' → T G c room_1 9 k9 n9 ((wD cy q N' s' o' U' sU' oU' A' ++ oL cyl o g') ++ wP cy q2 N' th' k' f') 1636 [(0, .ref (b)), (1, .ref (q 0)), (2, .ref (q2 0)), (3, .ref (o)), (4, .int (enc (5 * (j : Int))))] []) : T G c room_1 9 (100 + 40 * j) (1400 + 250 * j) ((wD cy q N sN oN U sU oU A ++ oL cyl o g) ++ wP cy q2 N th kept far) 1393 [(0, .ref (b)), (1, .ref (q 0)), (2, .ref (q2 0)), (3, .ref (o)), (4, .int (enc (5 * (j : Int))))] [] := by
  have hB := hF.bd (by omega)
  obtain ⟨w0, w1, w2, w3, w4⟩ := id hF.r
  have h17 := hF.2.2.2.2.2.1
  have h172 := hF.2.2.2.2.2.2.1
  obtain ⟨x, hx, ex⟩ : ∃ x : Int, In x ∧ (xs (5 * (j : Int) + 1).toNat).toInt = x := ⟨_, In_i32 _, rfl⟩
  refine tw_aload_n X dL_law_1393 1 rfl rfl ?_
  refine tw_aload_n X dL_law_1394 0 rfl rfl ?_
  refine tw_iload X dL_law_1395 4 rfl ?_
  refine tw_iconst X dL_law_1397 ?_
  refine tw_iadd (z := 5 * (j : Int) + 1) X dL_law_1398 rfl ?_
  refine tl_sld X hS9 hL (z := 5 * (j : Int) + 1) (by omega) dL_law_1399 ?_
  refine Tst (st' := [.int (enc (x)), .ref (q 0)]) (by rw [ex]) ?_
  refine tw_aload_n X dL_law_1400 3 rfl rfl ?_
  refine tl_callW X B (As := [.ref (q 0), .int (enc (x)), .ref (o)]) (st := []) rfl xw_hasArrived (w_hasArrived (q := q) (o := o) (g := g) N sN oN U sU oU A x hx B0 hF hB2 hV) [] (wP cy q2 N th kept far) rfl rfl rfl ⟨rfl, rfl, Nat.le_of_ble_eq_true rfl, Nat.le_of_ble_eq_true rfl⟩ ⟨(show 100 + 40 * j + 1 ≤ 601024 by omega), (show 1400 + 250 * j + 6 ≤ 7293034 by omega)⟩ (Nat.le_of_ble_eq_true rfl) dL_law_1401 (fun v w1 hp => ?_)
  obtain ⟨rfl, g1, s1, o1, U1, sU1, oU1, A1, hg1, hV1, rfl⟩ := hp
  refine Teq (ws' := (wD cy q N s1 o1 U1 sU1 oU1 A1 ++ oL cyl o g1) ++ wP cy q2 N th kept far) (lv' := [(0, .ref (b)), (1, .ref (q 0)), (2, .ref (q2 0)), (3, .ref (o)), (4, .int (enc (5 * (j : Int))))]) (st' := [.int (enc (kT N x))]) rfl rfl rfl ?_
  refine tw_istore (lv' := [(5, .int (enc (kT N x))), (0, .ref (b)), (1, .ref (q 0)), (2, .ref (q2 0)), (3, .ref (o)), (4, .int (enc (5 * (j : Int))))]) X dL_law_1404 (by decide) rfl ?_
  refine tw_aload_n X dL_law_1406 3 rfl rfl ?_
  refine tw_aload_n X dL_law_1407 1 rfl rfl ?_
  refine tw_iload X dL_law_1408 5 rfl ?_
  refine tw_iconst X dL_law_1410 ?_
  refine tw_iadd (z := 5 * (j : Int) + 1) X dL_law_1411 rfl ?_
  refine tl_sld X hS9 hL (z := 5 * (j : Int) + 1) (by omega) dL_law_1412 ?_
  refine Tst (st' := [.int (enc (x)), .ref (q2 0)]) (by rw [ex]) ?_
  refine tw_callV X (As := [.int (enc (x))]) (st := []) vw_L_188 (m_X5_hasArrived (q := q2) N th kept far x hx B0 hF hB2) (wD cy q N s1 o1 U1 sU1 oU1 A1 ++ oL cyl o g1) [] rfl rfl (q0 := 0) rfl rfl rfl ⟨rfl, rfl, Nat.le_of_ble_eq_true rfl, Nat.le_of_ble_eq_true rfl⟩ ⟨(show 100 + 40 * j + 1 + 0 ≤ 601024 by omega), (show 1400 + 250 * j + 6 + 0 ≤ 7293034 by omega)⟩ (Nat.le_of_ble_eq_true rfl) dL_law_1413 (fun v w1 hp => ?_)
  obtain ⟨rfl, k2, f2, rfl⟩ := hp
  refine Teq (ws' := (wD cy q N s1 o1 U1 sU1 oU1 A1 ++ oL cyl o g1) ++ wP cy q2 N (kT N x) k2 f2) (lv' := [(5, .int (enc (kT N x))), (0, .ref (b)), (1, .ref (q 0)), (2, .ref (q2 0)), (3, .ref (o)), (4, .int (enc (5 * (j : Int))))]) (st' := [.int (enc (if kT N x = 0 ∧ 0 ≤ N 15 x then 1 else 0))]) rfl rfl rfl ?_
  refine tw_istore (lv' := [(6, .int (enc (if kT N x = 0 ∧ 0 ≤ N 15 x then 1 else 0))), (5, .int (enc (kT N x))), (0, .ref (b)), (1, .ref (q 0)), (2, .ref (q2 0)), (3, .ref (o)), (4, .int (enc (5 * (j : Int))))]) X dL_law_1416 (by decide) rfl ?_
  refine tw_aload_n X dL_law_1418 4 rfl rfl ?_
  refine tw_callV X (As := []) (st := []) vw_L_93 (m_X5_thrown (q := q2) N (kT N x) k2 f2) (wD cy q N s1 o1 U1 sU1 oU1 A1 ++ oL cyl o g1) [] rfl rfl (q0 := 0) rfl rfl rfl ⟨rfl, rfl, Nat.le_of_ble_eq_true rfl, Nat.le_of_ble_eq_true rfl⟩ ⟨(show 100 + 40 * j + 1 + 0 + 0 ≤ 601024 by omega), (show 1400 + 250 * j + 6 + 0 + 0 ≤ 7293034 by omega)⟩ (Nat.le_of_ble_eq_true rfl) dL_law_1419 (fun v w1 hp => ?_)
  obtain ⟨rfl, rfl⟩ := hp
  refine Teq (ws' := (wD cy q N s1 o1 U1 sU1 oU1 A1 ++ oL cyl o g1) ++ wP cy q2 N (kT N x) k2 f2) (lv' := [(6, .int (enc (if kT N x = 0 ∧ 0 ≤ N 15 x then 1 else 0))), (5, .int (enc (kT N x))), (0, .ref (b)), (1, .ref (q 0)), (2, .ref (q2 0)), (3, .ref (o)), (4, .int (enc (5 * (j : Int))))]) (st' := [.int (enc (kT N x))]) rfl rfl rfl ?_
  refine tw_iload X dL_law_1422 1 rfl ?_
  refine tw_icmp_eq (tgt := 1429) X (In_kT _ _) (In_kT _ _) dL_law_1424 (by decide) (fun _ => ?_) (fun z => absurd rfl z)
  refine tw_iload X dL_law_1429 1 rfl ?_
  refine tw_if_ne (tgt := 1453) X (In_kT _ _) dL_law_1431 (by decide) (fun _ => ?_) (fun hk => ?_)
  · skip
    refine tw_goto (tgt := 1636) X dL_law_1453 (by decide) ?_
    refine Tsub (lv' := [(0, .ref (b)), (1, .ref (q 0)), (2, .ref (q2 0)), (3, .ref (o)), (4, .int (enc (5 * (j : Int))))]) [2, 3, 4, 5, 6] rfl ?_
    exact kk N s1 o1 U1 sU1 oU1 A1 g1 (kT N x) k2 f2 _ _ (show 100 + 40 * j + 1 + 0 + 0 ≤ _ by omega) (show 1400 + 250 * j + 6 + 0 + 0 ≤ _ by omega) (hF.mono (by omega)) (hV1)
  · skip
    refine tw_aload_n X dL_law_1434 5 rfl rfl ?_
    refine tw_iconst X dL_law_1435 ?_
    refine tl_lald X B (g := g1) 45 rfl dL_law_1436 ?_
    refine tw_iload X dL_law_1437 0 rfl ?_
    refine tw_if_eq (tgt := 1446) X In_b dL_law_1439 (by decide) (fun cb => ?_) (fun cb => ?_)
    · have cb := b01.mp cb
      refine tw_lconst (v := 0) X dL_law_1446 rfl ?_
      refine tw_lcmp X dL_law_1447 ?_
      refine Tst (st' := [.int (enc 0)]) (by rw [hg1 hk, if_neg (fun z => cb ⟨hk, z⟩), lg_self]) ?_
      refine tw_if_eq (tgt := 1453) X In0 dL_law_1448 (by decide) (fun _ => ?_) (fun z => absurd rfl z)
      refine tw_goto (tgt := 1636) X dL_law_1453 (by decide) ?_
      refine Tsub (lv' := [(0, .ref (b)), (1, .ref (q 0)), (2, .ref (q2 0)), (3, .ref (o)), (4, .int (enc (5 * (j : Int))))]) [2, 3, 4, 5, 6] rfl ?_
      exact kk N s1 o1 U1 sU1 oU1 A1 g1 (kT N x) k2 f2 _ _ (show 100 + 40 * j + 1 + 0 + 0 ≤ _ by omega) (show 1400 + 250 * j + 6 + 0 + 0 ≤ _ by omega) (hF.mono (by omega)) (hV1)
    · have cb := b01n.mp cb
      refine tw_lconst (v := 1) X dL_law_1442 rfl ?_
      refine tw_goto (tgt := 1447) X dL_law_1443 (by decide) ?_
      refine tw_lcmp X dL_law_1447 ?_
      refine Tst (st' := [.int (enc 0)]) (by rw [hg1 hk, if_pos cb.2, lg_self]) ?_
      refine tw_if_eq (tgt := 1453) X In0 dL_law_1448 (by decide) (fun _ => ?_) (fun z => absurd rfl z)
      refine tw_goto (tgt := 1636) X dL_law_1453 (by decide) ?_
      refine Tsub (lv' := [(0, .ref (b)), (1, .ref (q 0)), (2, .ref (q2 0)), (3, .ref (o)), (4, .int (enc (5 * (j : Int))))]) [2, 3, 4, 5, 6] rfl ?_
      exact kk N s1 o1 U1 sU1 oU1 A1 g1 (kT N x) k2 f2 _ _ (show 100 + 40 * j + 1 + 0 + 0 ≤ _ by omega) (show 1400 + 250 * j + 6 + 0 + 0 ≤ _ by omega) (hF.mono (by omega)) (hV1)
set_option maxRecDepth 100000 in
set_option maxHeartbeats 4000000 in
theorem lc_28 {G : va_G} {cy cyl : ClassId} {c : Cx} {b L : Nat} {xs : Nat → Int32} {hh : List (Nat × Nat × Nat × Nat)} {q q2 : Nat → Nat} {o : Nat} {g : Nat → Int64} (X : Ok G cy c cL_law RL 9 room_1) (B : LB G cyl c hh) (hS9 : SX c b L xs) (hL : L ≤ 2560) (N : MT) (sN : Int → Int) (oN : Int) (U : MT) (sU : Int → Int) (oU : Int) (A : Int → Int) (th : Int) (kept far : Int → Int) (B0 : Int) (hF : WF N B0) (hB2 : B0 ≤ 800000) (hV : WVo N sN oN) (j : Nat) (hj : 5 * (j : Int) + 5 ≤ L) (kk : ∀ (N' : MT) (s' : Int → Int) (o' : Int) (U' : MT) (sU' : Int → Int) (oU' : Int) (A' : Int → Int) (g' : Nat → Int64) (th' : Int) (k' f' : Int → Int) (k9 n9 : Nat), k9 ≤ 140 + 40 * j → n9 ≤ 1650 + 250 * j → WF N' (B0 + 1300) → WVo N' s' o' → T G c room_1 9 k9 n9 ((wD cy q N' s' o' U' sU' oU' A' ++ oL cyl o g') ++ wP cy q2 N' th' k' f') 1636 [(0, .ref (b)), (1, .ref (q 0)), (2, .ref (q2 0)), (3, .ref (o)), (4, .int (enc (5 * (j : Int))))] []) : T G c room_1 9 (100 + 40 * j) (1400 + 250 * j) ((wD cy q N sN oN U sU oU A ++ oL cyl o g) ++ wP cy q2 N th kept far) 1456 [(0, .ref (b)), (1, .ref (q 0)), (2, .ref (q2 0)), (3, .ref (o)), (4, .int (enc (5 * (j : Int))))] [] := by
  have hB := hF.bd (by omega)
  obtain ⟨w0, w1, w2, w3, w4⟩ := id hF.r
  have h17 := hF.2.2.2.2.2.1
  have h172 := hF.2.2.2.2.2.2.1
  obtain ⟨x, hx, ex⟩ : ∃ x : Int, In x ∧ (xs (5 * (j : Int) + 1).toNat).toInt = x := ⟨_, In_i32 _, rfl⟩
  refine tw_aload_n X dL_law_1456 1 rfl rfl ?_
  refine tw_aload_n X dL_law_1457 0 rfl rfl ?_
  refine tw_iload X dL_law_1458 4 rfl ?_
  refine tw_iconst X dL_law_1460 ?_
  refine tw_iadd (z := 5 * (j : Int) + 1) X dL_law_1461 rfl ?_
  refine tl_sld X hS9 hL (z := 5 * (j : Int) + 1) (by omega) dL_law_1462 ?_
  refine Tst (st' := [.int (enc (x)), .ref (q 0)]) (by rw [ex]) ?_
  refine tw_aload_n X dL_law_1463 3 rfl rfl ?_
  refine tl_callW X B (As := [.ref (q 0), .int (enc (x)), .ref (o)]) (st := []) rfl xw_hoursUntilArrived (w_hoursUntilArrived (q := q) (o := o) (g := g) N sN oN U sU oU A x hx B0 hF hB2 hV) [] (wP cy q2 N th kept far) rfl rfl rfl ⟨rfl, rfl, Nat.le_of_ble_eq_true rfl, Nat.le_of_ble_eq_true rfl⟩ ⟨(show 100 + 40 * j + 1 ≤ 601024 by omega), (show 1400 + 250 * j + 6 ≤ 7293034 by omega)⟩ (Nat.le_of_ble_eq_true rfl) dL_law_1464 (fun v w1 hp => ?_)
  obtain ⟨rfl, g1, s1, o1, U1, sU1, oU1, A1, hg1, hV1, rfl⟩ := hp
  refine Teq (ws' := (wD cy q N s1 o1 U1 sU1 oU1 A1 ++ oL cyl o g1) ++ wP cy q2 N th kept far) (lv' := [(0, .ref (b)), (1, .ref (q 0)), (2, .ref (q2 0)), (3, .ref (o)), (4, .int (enc (5 * (j : Int))))]) (st' := [.int (enc (kT N x))]) rfl rfl rfl ?_
  refine tw_istore (lv' := [(5, .int (enc (kT N x))), (0, .ref (b)), (1, .ref (q 0)), (2, .ref (q2 0)), (3, .ref (o)), (4, .int (enc (5 * (j : Int))))]) X dL_law_1467 (by decide) rfl ?_
  refine tw_aload_n X dL_law_1469 3 rfl rfl ?_
  refine tw_aload_n X dL_law_1470 1 rfl rfl ?_
  refine tw_iload X dL_law_1471 5 rfl ?_
  refine tw_iconst X dL_law_1473 ?_
  refine tw_iadd (z := 5 * (j : Int) + 1) X dL_law_1474 rfl ?_
  refine tl_sld X hS9 hL (z := 5 * (j : Int) + 1) (by omega) dL_law_1475 ?_
  refine Tst (st' := [.int (enc (x)), .ref (q2 0)]) (by rw [ex]) ?_
  refine tw_callV X (As := [.int (enc (x))]) (st := []) vw_L_191 (m_X5_hoursUntilArrived (q := q2) N th kept far x hx B0 hF hB2) (wD cy q N s1 o1 U1 sU1 oU1 A1 ++ oL cyl o g1) [] rfl rfl (q0 := 0) rfl rfl rfl ⟨rfl, rfl, Nat.le_of_ble_eq_true rfl, Nat.le_of_ble_eq_true rfl⟩ ⟨(show 100 + 40 * j + 1 + 0 ≤ 601024 by omega), (show 1400 + 250 * j + 6 + 0 ≤ 7293034 by omega)⟩ (Nat.le_of_ble_eq_true rfl) dL_law_1476 (fun v w1 hp => ?_)
  obtain ⟨rfl, k2, f2, rfl⟩ := hp
  refine Teq (ws' := (wD cy q N s1 o1 U1 sU1 oU1 A1 ++ oL cyl o g1) ++ wP cy q2 N (kT N x) k2 f2) (lv' := [(5, .int (enc (kT N x))), (0, .ref (b)), (1, .ref (q 0)), (2, .ref (q2 0)), (3, .ref (o)), (4, .int (enc (5 * (j : Int))))]) (st' := [.int (enc (if kT N x = 0 then untilM N x else 0))]) rfl rfl rfl ?_
  refine tw_istore (lv' := [(6, .int (enc (if kT N x = 0 then untilM N x else 0))), (5, .int (enc (kT N x))), (0, .ref (b)), (1, .ref (q 0)), (2, .ref (q2 0)), (3, .ref (o)), (4, .int (enc (5 * (j : Int))))]) X dL_law_1479 (by decide) rfl ?_
  refine tw_aload_n X dL_law_1481 4 rfl rfl ?_
  refine tw_callV X (As := []) (st := []) vw_L_93 (m_X5_thrown (q := q2) N (kT N x) k2 f2) (wD cy q N s1 o1 U1 sU1 oU1 A1 ++ oL cyl o g1) [] rfl rfl (q0 := 0) rfl rfl rfl ⟨rfl, rfl, Nat.le_of_ble_eq_true rfl, Nat.le_of_ble_eq_true rfl⟩ ⟨(show 100 + 40 * j + 1 + 0 + 0 ≤ 601024 by omega), (show 1400 + 250 * j + 6 + 0 + 0 ≤ 7293034 by omega)⟩ (Nat.le_of_ble_eq_true rfl) dL_law_1482 (fun v w1 hp => ?_)
  obtain ⟨rfl, rfl⟩ := hp
  refine Teq (ws' := (wD cy q N s1 o1 U1 sU1 oU1 A1 ++ oL cyl o g1) ++ wP cy q2 N (kT N x) k2 f2) (lv' := [(6, .int (enc (if kT N x = 0 then untilM N x else 0))), (5, .int (enc (kT N x))), (0, .ref (b)), (1, .ref (q 0)), (2, .ref (q2 0)), (3, .ref (o)), (4, .int (enc (5 * (j : Int))))]) (st' := [.int (enc (kT N x))]) rfl rfl rfl ?_
  refine tw_iload X dL_law_1485 1 rfl ?_
  refine tw_icmp_eq (tgt := 1492) X (In_kT _ _) (In_kT _ _) dL_law_1487 (by decide) (fun _ => ?_) (fun z => absurd rfl z)
  refine tw_iload X dL_law_1492 1 rfl ?_
  refine tw_if_ne (tgt := 1509) X (In_kT _ _) dL_law_1494 (by decide) (fun _ => ?_) (fun hk => ?_)
  · skip
    refine tw_goto (tgt := 1636) X dL_law_1509 (by decide) ?_
    refine Tsub (lv' := [(0, .ref (b)), (1, .ref (q 0)), (2, .ref (q2 0)), (3, .ref (o)), (4, .int (enc (5 * (j : Int))))]) [2, 3, 4, 5, 6] rfl ?_
    exact kk N s1 o1 U1 sU1 oU1 A1 g1 (kT N x) k2 f2 _ _ (show 100 + 40 * j + 1 + 0 + 0 ≤ _ by omega) (show 1400 + 250 * j + 6 + 0 + 0 ≤ _ by omega) (hF.mono (by omega)) (hV1)
  · skip
    refine tw_aload_n X dL_law_1497 5 rfl rfl ?_
    refine tw_iconst X dL_law_1498 ?_
    refine tl_lald X B (g := g1) 45 rfl dL_law_1499 ?_
    refine tw_iload X dL_law_1500 0 rfl ?_
    refine tw_i2lr X dL_law_1502 ?_
    refine tw_lcmp X dL_law_1503 ?_
    refine Tst (st' := [.int (enc 0)]) (by rw [hg1 hk, if_pos hk, lg_self]) ?_
    refine tw_if_eq (tgt := 1509) X In0 dL_law_1504 (by decide) (fun _ => ?_) (fun z => absurd rfl z)
    refine tw_goto (tgt := 1636) X dL_law_1509 (by decide) ?_
    refine Tsub (lv' := [(0, .ref (b)), (1, .ref (q 0)), (2, .ref (q2 0)), (3, .ref (o)), (4, .int (enc (5 * (j : Int))))]) [2, 3, 4, 5, 6] rfl ?_
    exact kk N s1 o1 U1 sU1 oU1 A1 g1 (kT N x) k2 f2 _ _ (show 100 + 40 * j + 1 + 0 + 0 ≤ _ by omega) (show 1400 + 250 * j + 6 + 0 + 0 ≤ _ by omega) (hF.mono (by omega)) (hV1)
set_option maxRecDepth 100000 in
set_option maxHeartbeats 4000000 in
theorem lc_29 {G : va_G} {cy cyl : ClassId} {c : Cx} {b L : Nat} {xs : Nat → Int32} {hh : List (Nat × Nat × Nat × Nat)} {q q2 : Nat → Nat} {o : Nat} {g : Nat → Int64} (X : Ok G cy c cL_law RL 9 room_1) (B : LB G cyl c hh) (hS9 : SX c b L xs) (hL : L ≤ 2560) (N : MT) (sN : Int → Int) (oN : Int) (U : MT) (sU : Int → Int) (oU : Int) (A : Int → Int) (th : Int) (kept far : Int → Int) (B0 : Int) (hF : WF N B0) (hB2 : B0 ≤ 800000) (hV : WVo N sN oN) (j : Nat) (hj : 5 * (j : Int) + 5 ≤ L) (kk : ∀ (N' : MT) (s' : Int → Int) (o' : Int) (U' : MT) (sU' : Int → Int) (oU' : Int) (A' : Int → Int) (g' : Nat → Int64) (th' : Int) (k' f' : Int → Int) (k9 n9 : Nat), k9 ≤ 140 + 40 * j → n9 ≤ 1650 + 250 * j → WF N' (B0 + 1300) → WVo N' s' o' → T G c room_1 9 k9 n9 ((wD cy q N' s' o' U' sU' oU' A' ++ oL cyl o g') ++ wP cy q2 N' th' k' f') 1636 [(0, .ref (b)), (1, .ref (q 0)), (2, .ref (q2 0)), (3, .ref (o)), (4, .int (enc (5 * (j : Int))))] []) : T G c room_1 9 (100 + 40 * j) (1400 + 250 * j) ((wD cy q N sN oN U sU oU A ++ oL cyl o g) ++ wP cy q2 N th kept far) 1512 [(0, .ref (b)), (1, .ref (q 0)), (2, .ref (q2 0)), (3, .ref (o)), (4, .int (enc (5 * (j : Int))))] [] := by
  have hB := hF.bd (by omega)
  obtain ⟨w0, w1, w2, w3, w4⟩ := id hF.r
  have h17 := hF.2.2.2.2.2.1
  have h172 := hF.2.2.2.2.2.2.1
  obtain ⟨x, hx, ex⟩ : ∃ x : Int, In x ∧ (xs (5 * (j : Int) + 1).toNat).toInt = x := ⟨_, In_i32 _, rfl⟩
  refine tw_aload_n X dL_law_1512 1 rfl rfl ?_
  refine tw_aload_n X dL_law_1513 0 rfl rfl ?_
  refine tw_iload X dL_law_1514 4 rfl ?_
  refine tw_iconst X dL_law_1516 ?_
  refine tw_iadd (z := 5 * (j : Int) + 1) X dL_law_1517 rfl ?_
  refine tl_sld X hS9 hL (z := 5 * (j : Int) + 1) (by omega) dL_law_1518 ?_
  refine Tst (st' := [.int (enc (x)), .ref (q 0)]) (by rw [ex]) ?_
  refine tw_aload_n X dL_law_1519 3 rfl rfl ?_
  refine tl_callW X B (As := [.ref (q 0), .int (enc (x)), .ref (o)]) (st := []) rfl xw_frayedIn (w_frayedIn (q := q) (o := o) (g := g) N sN oN U sU oU A x hx B0 hF hB2 hV) [] (wP cy q2 N th kept far) rfl rfl rfl ⟨rfl, rfl, Nat.le_of_ble_eq_true rfl, Nat.le_of_ble_eq_true rfl⟩ ⟨(show 100 + 40 * j + 1 ≤ 601024 by omega), (show 1400 + 250 * j + 6 ≤ 7293034 by omega)⟩ (Nat.le_of_ble_eq_true rfl) dL_law_1520 (fun v w1 hp => ?_)
  obtain ⟨rfl, g1, s1, o1, U1, sU1, oU1, A1, hg1, hV1, rfl⟩ := hp
  refine Teq (ws' := (wD cy q N s1 o1 U1 sU1 oU1 A1 ++ oL cyl o g1) ++ wP cy q2 N th kept far) (lv' := [(0, .ref (b)), (1, .ref (q 0)), (2, .ref (q2 0)), (3, .ref (o)), (4, .int (enc (5 * (j : Int))))]) (st' := [.int (enc (kP x))]) rfl rfl rfl ?_
  refine tw_istore (lv' := [(5, .int (enc (kP x))), (0, .ref (b)), (1, .ref (q 0)), (2, .ref (q2 0)), (3, .ref (o)), (4, .int (enc (5 * (j : Int))))]) X dL_law_1523 (by decide) rfl ?_
  refine tw_aload_n X dL_law_1525 3 rfl rfl ?_
  refine tw_aload_n X dL_law_1526 1 rfl rfl ?_
  refine tw_iload X dL_law_1527 5 rfl ?_
  refine tw_iconst X dL_law_1529 ?_
  refine tw_iadd (z := 5 * (j : Int) + 1) X dL_law_1530 rfl ?_
  refine tl_sld X hS9 hL (z := 5 * (j : Int) + 1) (by omega) dL_law_1531 ?_
  refine Tst (st' := [.int (enc (x)), .ref (q2 0)]) (by rw [ex]) ?_
  refine tw_callV X (As := [.int (enc (x))]) (st := []) vw_L_194 (m_X5_frayedIn (q := q2) N th kept far x hx B0 hF hB2) (wD cy q N s1 o1 U1 sU1 oU1 A1 ++ oL cyl o g1) [] rfl rfl (q0 := 0) rfl rfl rfl ⟨rfl, rfl, Nat.le_of_ble_eq_true rfl, Nat.le_of_ble_eq_true rfl⟩ ⟨(show 100 + 40 * j + 1 + 0 ≤ 601024 by omega), (show 1400 + 250 * j + 6 + 0 ≤ 7293034 by omega)⟩ (Nat.le_of_ble_eq_true rfl) dL_law_1532 (fun v w1 hp => ?_)
  obtain ⟨rfl, k2, f2, rfl⟩ := hp
  refine Teq (ws' := (wD cy q N s1 o1 U1 sU1 oU1 A1 ++ oL cyl o g1) ++ wP cy q2 N (kP x) k2 f2) (lv' := [(5, .int (enc (kP x))), (0, .ref (b)), (1, .ref (q 0)), (2, .ref (q2 0)), (3, .ref (o)), (4, .int (enc (5 * (j : Int))))]) (st' := [.int (enc (if kP x = 0 then foreI N x.toNat else 0))]) rfl rfl rfl ?_
  refine tw_istore (lv' := [(6, .int (enc (if kP x = 0 then foreI N x.toNat else 0))), (5, .int (enc (kP x))), (0, .ref (b)), (1, .ref (q 0)), (2, .ref (q2 0)), (3, .ref (o)), (4, .int (enc (5 * (j : Int))))]) X dL_law_1535 (by decide) rfl ?_
  refine tw_aload_n X dL_law_1537 4 rfl rfl ?_
  refine tw_callV X (As := []) (st := []) vw_L_93 (m_X5_thrown (q := q2) N (kP x) k2 f2) (wD cy q N s1 o1 U1 sU1 oU1 A1 ++ oL cyl o g1) [] rfl rfl (q0 := 0) rfl rfl rfl ⟨rfl, rfl, Nat.le_of_ble_eq_true rfl, Nat.le_of_ble_eq_true rfl⟩ ⟨(show 100 + 40 * j + 1 + 0 + 0 ≤ 601024 by omega), (show 1400 + 250 * j + 6 + 0 + 0 ≤ 7293034 by omega)⟩ (Nat.le_of_ble_eq_true rfl) dL_law_1538 (fun v w1 hp => ?_)
  obtain ⟨rfl, rfl⟩ := hp
  refine Teq (ws' := (wD cy q N s1 o1 U1 sU1 oU1 A1 ++ oL cyl o g1) ++ wP cy q2 N (kP x) k2 f2) (lv' := [(6, .int (enc (if kP x = 0 then foreI N x.toNat else 0))), (5, .int (enc (kP x))), (0, .ref (b)), (1, .ref (q 0)), (2, .ref (q2 0)), (3, .ref (o)), (4, .int (enc (5 * (j : Int))))]) (st' := [.int (enc (kP x))]) rfl rfl rfl ?_
  refine tw_iload X dL_law_1541 1 rfl ?_
  refine tw_icmp_eq (tgt := 1548) X (In_kP _) (In_kP _) dL_law_1543 (by decide) (fun _ => ?_) (fun z => absurd rfl z)
  refine tw_iload X dL_law_1548 1 rfl ?_
  refine tw_if_ne (tgt := 1565) X (In_kP _) dL_law_1550 (by decide) (fun _ => ?_) (fun hk => ?_)
  · skip
    refine tw_goto (tgt := 1636) X dL_law_1565 (by decide) ?_
    refine Tsub (lv' := [(0, .ref (b)), (1, .ref (q 0)), (2, .ref (q2 0)), (3, .ref (o)), (4, .int (enc (5 * (j : Int))))]) [2, 3, 4, 5, 6] rfl ?_
    exact kk N s1 o1 U1 sU1 oU1 A1 g1 (kP x) k2 f2 _ _ (show 100 + 40 * j + 1 + 0 + 0 ≤ _ by omega) (show 1400 + 250 * j + 6 + 0 + 0 ≤ _ by omega) (hF.mono (by omega)) (hV1)
  · skip
    refine tw_aload_n X dL_law_1553 5 rfl rfl ?_
    refine tw_iconst X dL_law_1554 ?_
    refine tl_lald X B (g := g1) 45 rfl dL_law_1555 ?_
    refine tw_iload X dL_law_1556 0 rfl ?_
    refine tw_i2lr X dL_law_1558 ?_
    refine tw_lcmp X dL_law_1559 ?_
    refine Tst (st' := [.int (enc 0)]) (by rw [hg1 hk, if_pos hk, lg_self]) ?_
    refine tw_if_eq (tgt := 1565) X In0 dL_law_1560 (by decide) (fun _ => ?_) (fun z => absurd rfl z)
    refine tw_goto (tgt := 1636) X dL_law_1565 (by decide) ?_
    refine Tsub (lv' := [(0, .ref (b)), (1, .ref (q 0)), (2, .ref (q2 0)), (3, .ref (o)), (4, .int (enc (5 * (j : Int))))]) [2, 3, 4, 5, 6] rfl ?_
    exact kk N s1 o1 U1 sU1 oU1 A1 g1 (kP x) k2 f2 _ _ (show 100 + 40 * j + 1 + 0 + 0 ≤ _ by omega) (show 1400 + 250 * j + 6 + 0 + 0 ≤ _ by omega) (hF.mono (by omega)) (hV1)
set_option maxRecDepth 100000 in
set_option maxHeartbeats 4000000 in
theorem lc_30 {G : va_G} {cy cyl : ClassId} {c : Cx} {b L : Nat} {xs : Nat → Int32} {hh : List (Nat × Nat × Nat × Nat)} {q q2 : Nat → Nat} {o : Nat} {g : Nat → Int64} (X : Ok G cy c cL_law RL 9 room_1) (B : LB G cyl c hh) (hS9 : SX c b L xs) (hL : L ≤ 2560) (N : MT) (sN : Int → Int) (oN : Int) (U : MT) (sU : Int → Int) (oU : Int) (A : Int → Int) (th : Int) (kept far : Int → Int) (B0 : Int) (hF : WF N B0) (hB2 : B0 ≤ 800000) (hV : WVo N sN oN) (j : Nat) (hj : 5 * (j : Int) + 5 ≤ L) (kk : ∀ (N' : MT) (s' : Int → Int) (o' : Int) (U' : MT) (sU' : Int → Int) (oU' : Int) (A' : Int → Int) (g' : Nat → Int64) (th' : Int) (k' f' : Int → Int) (k9 n9 : Nat), k9 ≤ 140 + 40 * j → n9 ≤ 1650 + 250 * j → WF N' (B0 + 1300) → WVo N' s' o' → T G c room_1 9 k9 n9 ((wD cy q N' s' o' U' sU' oU' A' ++ oL cyl o g') ++ wP cy q2 N' th' k' f') 1636 [(0, .ref (b)), (1, .ref (q 0)), (2, .ref (q2 0)), (3, .ref (o)), (4, .int (enc (5 * (j : Int))))] []) : T G c room_1 9 (100 + 40 * j) (1400 + 250 * j) ((wD cy q N sN oN U sU oU A ++ oL cyl o g) ++ wP cy q2 N th kept far) 1568 [(0, .ref (b)), (1, .ref (q 0)), (2, .ref (q2 0)), (3, .ref (o)), (4, .int (enc (5 * (j : Int))))] [] := by
  have hB := hF.bd (by omega)
  obtain ⟨w0, w1, w2, w3, w4⟩ := id hF.r
  have h17 := hF.2.2.2.2.2.1
  have h172 := hF.2.2.2.2.2.2.1
  refine tw_aload_n X dL_law_1568 1 rfl rfl ?_
  refine tw_callV X (As := []) (st := []) vw_L_195 (m_X4_bestToMend (q := q) N sN oN U sU oU A B0 hF hB2 hV) [] (oL cyl o g ++ wP cy q2 N th kept far) rfl rfl (q0 := 0) rfl rfl rfl ⟨rfl, rfl, Nat.le_of_ble_eq_true rfl, Nat.le_of_ble_eq_true rfl⟩ ⟨(show 100 + 40 * j + 0 ≤ 601024 by omega), (show 1400 + 250 * j + 0 ≤ 7293034 by omega)⟩ (Nat.le_of_ble_eq_true rfl) dL_law_1569 (fun v w1 hp => ?_)
  obtain ⟨rfl, U1, su, ou, rfl⟩ := hp
  refine Teq (ws' := (wD cy q N sN oN U1 su ou A ++ oL cyl o g) ++ wP cy q2 N th kept far) (lv' := [(0, .ref (b)), (1, .ref (q 0)), (2, .ref (q2 0)), (3, .ref (o)), (4, .int (enc (5 * (j : Int))))]) (st' := [.int (enc (bestM N))]) rfl rfl rfl ?_
  refine tw_aload_n X dL_law_1572 2 rfl rfl ?_
  refine tw_callV X (As := []) (st := [.int (enc (bestM N))]) vw_L_198 (m_X5_bestToMend (q := q2) N th kept far B0 hF hB2) (wD cy q N sN oN U1 su ou A ++ oL cyl o g) [] rfl rfl (q0 := 0) rfl rfl rfl ⟨rfl, rfl, Nat.le_of_ble_eq_true rfl, Nat.le_of_ble_eq_true rfl⟩ ⟨(show 100 + 40 * j + 0 + 0 ≤ 601024 by omega), (show 1400 + 250 * j + 0 + 0 ≤ 7293034 by omega)⟩ (Nat.le_of_ble_eq_true rfl) dL_law_1573 (fun v w1 hp => ?_)
  obtain ⟨rfl, k2, f2, rfl⟩ := hp
  refine Teq (ws' := (wD cy q N sN oN U1 su ou A ++ oL cyl o g) ++ wP cy q2 N 0 k2 f2) (lv' := [(0, .ref (b)), (1, .ref (q 0)), (2, .ref (q2 0)), (3, .ref (o)), (4, .int (enc (5 * (j : Int))))]) (st' := [.int (enc (bestM N)), .int (enc (bestM N))]) rfl rfl rfl ?_
  have r1 : -1 ≤ bestM N ∧ bestM N < (N 16 0).toNat := bestM_rng N (N 16 0).toNat
  have rB := hB 20 0
  have rB2 := hB 18 0
  refine tw_icmp_eq (tgt := 1636) X (In_of (by omega) (by omega)) (In_of (by omega) (by omega)) dL_law_1576 (by decide) (fun _ => ?_) (fun z => absurd rfl z)
  refine Tsub (lv' := [(0, .ref (b)), (1, .ref (q 0)), (2, .ref (q2 0)), (3, .ref (o)), (4, .int (enc (5 * (j : Int))))]) [0, 1, 2, 3, 4] rfl ?_
  exact kk N sN oN U1 su ou A g 0 k2 f2 _ _ (show 100 + 40 * j + 0 + 0 ≤ _ by omega) (show 1400 + 250 * j + 0 + 0 ≤ _ by omega) (hF.mono (by omega)) (hV)
set_option maxRecDepth 100000 in
set_option maxHeartbeats 4000000 in
theorem lc_31 {G : va_G} {cy cyl : ClassId} {c : Cx} {b L : Nat} {xs : Nat → Int32} {hh : List (Nat × Nat × Nat × Nat)} {q q2 : Nat → Nat} {o : Nat} {g : Nat → Int64} (X : Ok G cy c cL_law RL 9 room_1) (B : LB G cyl c hh) (hS9 : SX c b L xs) (hL : L ≤ 2560) (N : MT) (sN : Int → Int) (oN : Int) (U : MT) (sU : Int → Int) (oU : Int) (A : Int → Int) (th : Int) (kept far : Int → Int) (B0 : Int) (hF : WF N B0) (hB2 : B0 ≤ 800000) (hV : WVo N sN oN) (j : Nat) (hj : 5 * (j : Int) + 5 ≤ L) (kk : ∀ (N' : MT) (s' : Int → Int) (o' : Int) (U' : MT) (sU' : Int → Int) (oU' : Int) (A' : Int → Int) (g' : Nat → Int64) (th' : Int) (k' f' : Int → Int) (k9 n9 : Nat), k9 ≤ 140 + 40 * j → n9 ≤ 1650 + 250 * j → WF N' (B0 + 1300) → WVo N' s' o' → T G c room_1 9 k9 n9 ((wD cy q N' s' o' U' sU' oU' A' ++ oL cyl o g') ++ wP cy q2 N' th' k' f') 1636 [(0, .ref (b)), (1, .ref (q 0)), (2, .ref (q2 0)), (3, .ref (o)), (4, .int (enc (5 * (j : Int))))] []) : T G c room_1 9 (100 + 40 * j) (1400 + 250 * j) ((wD cy q N sN oN U sU oU A ++ oL cyl o g) ++ wP cy q2 N th kept far) 1581 [(0, .ref (b)), (1, .ref (q 0)), (2, .ref (q2 0)), (3, .ref (o)), (4, .int (enc (5 * (j : Int))))] [] := by
  have hB := hF.bd (by omega)
  obtain ⟨w0, w1, w2, w3, w4⟩ := id hF.r
  have h17 := hF.2.2.2.2.2.1
  have h172 := hF.2.2.2.2.2.2.1
  refine tw_aload_n X dL_law_1581 1 rfl rfl ?_
  refine tw_callV X (As := []) (st := []) vw_L_199 (m_X4_meanLength (q := q) N sN oN U sU oU A hF.r hB) [] (oL cyl o g ++ wP cy q2 N th kept far) rfl rfl (q0 := 0) rfl rfl rfl ⟨rfl, rfl, Nat.le_of_ble_eq_true rfl, Nat.le_of_ble_eq_true rfl⟩ ⟨(show 100 + 40 * j + 0 ≤ 601024 by omega), (show 1400 + 250 * j + 0 ≤ 7293034 by omega)⟩ (Nat.le_of_ble_eq_true rfl) dL_law_1582 (fun v w1 hp => ?_)
  obtain ⟨rfl, rfl⟩ := hp
  refine Teq (ws' := (wD cy q N sN oN U sU oU A ++ oL cyl o g) ++ wP cy q2 N th kept far) (lv' := [(0, .ref (b)), (1, .ref (q 0)), (2, .ref (q2 0)), (3, .ref (o)), (4, .int (enc (5 * (j : Int))))]) (st' := [.double (meanM N)]) rfl rfl rfl ?_
  refine tw_dstore (lv' := [(5, .double (meanM N)), (0, .ref (b)), (1, .ref (q 0)), (2, .ref (q2 0)), (3, .ref (o)), (4, .int (enc (5 * (j : Int))))]) X dL_law_1585 (by decide) rfl ?_
  refine tw_aload_n X dL_law_1587 3 rfl rfl ?_
  refine tw_callV X (As := []) (st := []) vw_L_203 (m_X5_meanLength (q := q2) N th kept far B0 hF hB2) (wD cy q N sN oN U sU oU A ++ oL cyl o g) [] rfl rfl (q0 := 0) rfl rfl rfl ⟨rfl, rfl, Nat.le_of_ble_eq_true rfl, Nat.le_of_ble_eq_true rfl⟩ ⟨(show 100 + 40 * j + 0 + 0 ≤ 601024 by omega), (show 1400 + 250 * j + 0 + 0 ≤ 7293034 by omega)⟩ (Nat.le_of_ble_eq_true rfl) dL_law_1588 (fun v w1 hp => ?_)
  obtain ⟨rfl, k2, f2, rfl⟩ := hp
  refine Teq (ws' := (wD cy q N sN oN U sU oU A ++ oL cyl o g) ++ wP cy q2 N 0 k2 f2) (lv' := [(5, .double (meanM N)), (0, .ref (b)), (1, .ref (q 0)), (2, .ref (q2 0)), (3, .ref (o)), (4, .int (enc (5 * (j : Int))))]) (st' := [.double (meanM N)]) rfl rfl rfl ?_
  refine tw_dstore (lv' := [(7, .double (meanM N)), (5, .double (meanM N)), (0, .ref (b)), (1, .ref (q 0)), (2, .ref (q2 0)), (3, .ref (o)), (4, .int (enc (5 * (j : Int))))]) X dL_law_1591 (by decide) rfl ?_
  obtain ⟨zc, hzc, ezc⟩ : ∃ zc : Int, In zc ∧ Op.cmpValue (FP.dcmp (meanM N) (meanM N)) .l = enc zc := ⟨_, In_i32 _, (enc_of _).symm⟩
  refine tw_dload X dL_law_1593 1 rfl ?_
  refine tw_dload X dL_law_1595 0 rfl ?_
  refine tw_dcmp X dL_law_1597 ?_
  refine Tst (st' := [.int (enc zc)]) (by rw [ezc]) ?_
  have done9 : T G c room_1 9 (100 + 40 * j + 0 + 0) (1400 + 250 * j + 0 + 0) ((wD cy q N sN oN U sU oU A ++ oL cyl o g) ++ wP cy q2 N 0 k2 f2) 1619 [(7, .double (meanM N)), (5, .double (meanM N)), (0, .ref (b)), (1, .ref (q 0)), (2, .ref (q2 0)), (3, .ref (o)), (4, .int (enc (5 * (j : Int))))] [] := by
    refine tw_goto (tgt := 1636) X dL_law_1619 (by decide) ?_
    refine Tsub (lv' := [(0, .ref (b)), (1, .ref (q 0)), (2, .ref (q2 0)), (3, .ref (o)), (4, .int (enc (5 * (j : Int))))]) [2, 3, 4, 5, 6] rfl ?_
    exact kk N sN oN U sU oU A g 0 k2 f2 _ _ (show 100 + 40 * j + 0 + 0 ≤ _ by omega) (show 1400 + 250 * j + 0 + 0 ≤ _ by omega) (hF.mono (by omega)) (hV)
  refine tw_if_eq (tgt := 1619) X hzc dL_law_1598 (by decide) (fun _ => done9) (fun z1 => ?_)
  refine tw_dload X dL_law_1601 1 rfl ?_
  refine tw_dload X dL_law_1603 1 rfl ?_
  refine tw_dcmp X dL_law_1605 ?_
  refine Tst (st' := [.int (enc zc)]) (by rw [ezc]) ?_
  refine tw_if_eq (tgt := 1617) X hzc dL_law_1606 (by decide) (fun z2 => absurd z2 z1) (fun _ => ?_)
  refine tw_dload X dL_law_1609 0 rfl ?_
  refine tw_dload X dL_law_1611 0 rfl ?_
  refine tw_dcmp X dL_law_1613 ?_
  refine Tst (st' := [.int (enc zc)]) (by rw [ezc]) ?_
  exact tw_if_ne (tgt := 1619) X hzc dL_law_1614 (by decide) (fun _ => done9) (fun z2 => absurd z2 z1)
set_option maxRecDepth 100000 in
set_option maxHeartbeats 4000000 in
theorem lc_32 {G : va_G} {cy cyl : ClassId} {c : Cx} {b L : Nat} {xs : Nat → Int32} {hh : List (Nat × Nat × Nat × Nat)} {q q2 : Nat → Nat} {o : Nat} {g : Nat → Int64} (X : Ok G cy c cL_law RL 9 room_1) (B : LB G cyl c hh) (hS9 : SX c b L xs) (hL : L ≤ 2560) (N : MT) (sN : Int → Int) (oN : Int) (U : MT) (sU : Int → Int) (oU : Int) (A : Int → Int) (th : Int) (kept far : Int → Int) (B0 : Int) (hF : WF N B0) (hB2 : B0 ≤ 800000) (hV : WVo N sN oN) (j : Nat) (hj : 5 * (j : Int) + 5 ≤ L) (kk : ∀ (N' : MT) (s' : Int → Int) (o' : Int) (U' : MT) (sU' : Int → Int) (oU' : Int) (A' : Int → Int) (g' : Nat → Int64) (th' : Int) (k' f' : Int → Int) (k9 n9 : Nat), k9 ≤ 140 + 40 * j → n9 ≤ 1650 + 250 * j → WF N' (B0 + 1300) → WVo N' s' o' → T G c room_1 9 k9 n9 ((wD cy q N' s' o' U' sU' oU' A' ++ oL cyl o g') ++ wP cy q2 N' th' k' f') 1636 [(0, .ref (b)), (1, .ref (q 0)), (2, .ref (q2 0)), (3, .ref (o)), (4, .int (enc (5 * (j : Int))))] []) : T G c room_1 9 (100 + 40 * j) (1400 + 250 * j) ((wD cy q N sN oN U sU oU A ++ oL cyl o g) ++ wP cy q2 N th kept far) 1622 [(0, .ref (b)), (1, .ref (q 0)), (2, .ref (q2 0)), (3, .ref (o)), (4, .int (enc (5 * (j : Int))))] [] := by
  have hB := hF.bd (by omega)
  obtain ⟨w0, w1, w2, w3, w4⟩ := id hF.r
  have h17 := hF.2.2.2.2.2.1
  have h172 := hF.2.2.2.2.2.2.1
  refine tw_aload_n X dL_law_1622 1 rfl rfl ?_
  refine tw_callV X (As := []) (st := []) vw_L_204 (m_X4_digest (q := q) N sN oN U sU oU A B0 hF hB2 hV) [] (oL cyl o g ++ wP cy q2 N th kept far) rfl rfl (q0 := 0) rfl rfl rfl ⟨rfl, rfl, Nat.le_of_ble_eq_true rfl, Nat.le_of_ble_eq_true rfl⟩ ⟨(show 100 + 40 * j + 0 ≤ 601024 by omega), (show 1400 + 250 * j + 0 ≤ 7293034 by omega)⟩ (Nat.le_of_ble_eq_true rfl) dL_law_1623 (fun v w1 hp => ?_)
  obtain ⟨rfl, sf, U1, su, ou, hVf, rfl⟩ := hp
  refine Teq (ws' := (wD cy q N sf 0 U1 su ou A ++ oL cyl o g) ++ wP cy q2 N th kept far) (lv' := [(0, .ref (b)), (1, .ref (q 0)), (2, .ref (q2 0)), (3, .ref (o)), (4, .int (enc (5 * (j : Int))))]) (st' := [.long (digM N)]) rfl rfl rfl ?_
  refine tw_aload_n X dL_law_1626 2 rfl rfl ?_
  refine tw_callV X (As := []) (st := [.long (digM N)]) vw_L_208 (m_X5_digest (q := q2) N th kept far B0 hF hB2) (wD cy q N sf 0 U1 su ou A ++ oL cyl o g) [] rfl rfl (q0 := 0) rfl rfl rfl ⟨rfl, rfl, Nat.le_of_ble_eq_true rfl, Nat.le_of_ble_eq_true rfl⟩ ⟨(show 100 + 40 * j + 0 + 33 ≤ 601024 by omega), (show 1400 + 250 * j + 0 + 182 ≤ 7293034 by omega)⟩ (Nat.le_of_ble_eq_true rfl) dL_law_1627 (fun v w1 hp => ?_)
  obtain ⟨rfl, k2, f2, rfl⟩ := hp
  refine Teq (ws' := (wD cy q N sf 0 U1 su ou A ++ oL cyl o g) ++ wP cy q2 N 0 k2 f2) (lv' := [(0, .ref (b)), (1, .ref (q 0)), (2, .ref (q2 0)), (3, .ref (o)), (4, .int (enc (5 * (j : Int))))]) (st' := [.long (digM N), .long (digM N)]) rfl rfl rfl ?_
  refine tw_lcmp X dL_law_1630 ?_
  refine Tst (st' := [.int (enc 0)]) (by rw [lg_self]) ?_
  refine tw_if_eq (tgt := 1636) X In0 dL_law_1631 (by decide) (fun _ => ?_) (fun z => absurd rfl z)
  refine Tsub (lv' := [(0, .ref (b)), (1, .ref (q 0)), (2, .ref (q2 0)), (3, .ref (o)), (4, .int (enc (5 * (j : Int))))]) [0, 1, 2, 3, 4] rfl ?_
  exact kk N sf 0 U1 su ou A g 0 k2 f2 _ _ (show 100 + 40 * j + 0 + 33 ≤ _ by omega) (show 1400 + 250 * j + 0 + 182 ≤ _ by omega) (hF.mono (by omega)) (⟨Or.inl rfl, fun _ => hVf⟩)
