/-! THE LAW, stretch by stretch -/
section TN
variable {G : va_G} {c : Cx} {R : Room} {nL k n : Nat} {ws : va_W} {pc : Nat} {lv : List (Nat × Value)} {st : List Value}
/-- a new cell: ahead of the loom and the rows -/
theorem Tnew2 (X D S Z : va_W) {ws' : va_W} (hws : ws = ((X ++ D) ++ S) ++ Z) (hws' : ws' = ((X ++ Z) ++ D) ++ S) (kk : T G c R nL k n ws' pc lv st) : T G c R nL k n ws pc lv st := by
  refine TPerm ?_ kk
  rw [hws, hws']
  simp only [List.append_assoc]
  exact List.Perm.append_left X ((List.append_assoc D S Z ▸ List.perm_append_comm : (D ++ (S ++ Z)).Perm (Z ++ (D ++ S))))
theorem Tgone2 (X D S Z : va_W) {ws' : va_W} (hws : ws = ((X ++ Z) ++ D) ++ S) (hws' : ws' = (X ++ D) ++ S) (kk : T G c R nL k n ws' pc lv st) : T G c R nL k n ws pc lv st := by
  refine TPerm (ws' := ((X ++ D) ++ S) ++ Z) ?_ (Tdrop Z rfl (by rw [← hws']; exact kk))
  rw [hws]
  simp only [List.append_assoc]
  exact List.Perm.append_left X ((List.append_assoc D S Z ▸ List.perm_append_comm : (D ++ (S ++ Z)).Perm (Z ++ (D ++ S))).symm)
end TN
theorem dO_sym {M : MT} (hW : WFR M) {o : Bool} {a b : Int} (ha : 0 ≤ a) (hb : 0 ≤ b) : dO M o a b = dO M o b a := by
  unfold dO
  rw [dst_sym hW ha hb]
theorem dO_zero {M : MT} (hW : WFR M) {o : Bool} {a b : Int} : dO M o a b = 0 ↔ a = b := by
  unfold dO
  constructor
  · intro h
    by_cases q : dst M o a b < 1000000
    · rw [if_pos q] at h; exact dst_0 hW h
    · rw [if_neg q] at h; exact absurd h (by decide)
  · intro h
    rw [h, dst_self hW, if_pos (by decide)]
theorem dO_all {M : MT} (hW : WFR M) {a b : Int} (h : 0 ≤ dO M true a b) : 0 ≤ dO M false a b ∧ dO M false a b ≤ dO M true a b := by
  have h0 := dst_open hW a b
  have h1 := (dst_ok (o := false) hW a b).1
  unfold dO at h ⊢
  by_cases q : dst M true a b < 1000000
  · rw [if_pos q, if_pos (by omega)]; omega
  · rw [if_neg q] at h; omega
theorem dO_tri {M : MT} (hW : WFR M) {a b c : Int} (ha : 0 ≤ a ∧ a < M 19 0) (hb : 0 ≤ b ∧ b < M 19 0) (h1 : 0 ≤ dO M true a b) (h2 : 0 ≤ dO M true b c) : 0 ≤ dO M true a c ∧ dO M true a c ≤ dO M true a b + dO M true b c := by
  have h0 := (dst_ok (o := true) hW a c).1
  unfold dO at h1 h2 ⊢
  by_cases q : dst M true a b < 1000000
  · by_cases q2 : dst M true b c < 1000000
    · have := dst_tri3 hW q q2
      have := dst_108 hW ha.1 ha.2 q
      have := dst_108 hW hb.1 hb.2 q2
      rw [if_pos q, if_pos q2, if_pos (by omega)]; omega
    · rw [if_neg q2] at h2; omega
  · rw [if_neg q] at h1; omega
/-- the road to take, if there is one -/
theorem next_iff {M : MT} (hW : WFR M) {a b : Int} (ha : 0 ≤ a) : (0 ≤ if a = b then -1 else toward M a b) ↔ (a ≠ b ∧ 0 ≤ dO M true a b) := by
  by_cases e : a = b
  · rw [if_pos e]
    exact ⟨fun z => absurd z (by decide), fun z => absurd e z.1⟩
  · rw [if_neg e]
    have h0 := (dst_ok (o := true) hW a b).1
    unfold dO
    by_cases q : dst M true a b < 1000000
    · have := toward_cand hW ha e q
      rw [if_pos q]
      exact ⟨fun _ => ⟨e, h0⟩, fun _ => this.1⟩
    · rw [if_neg q, toward_none hW q]
      exact ⟨fun z => absurd z (by decide), fun z => absurd z.2 (by decide)⟩
theorem next_way {M : MT} (hW : WFR M) {a b : Int} (ha : 0 ≤ a) (h : 0 ≤ if a = b then -1 else toward M a b) : (if a = b then -1 else toward M a b) < M 16 0 ∧ M 6 (if a = b then -1 else toward M a b) = 0 ∧ 0 ≤ endF M (if a = b then -1 else toward M a b) a ∧ len M (if a = b then -1 else toward M a b) + dO M true (endF M (if a = b then -1 else toward M a b) a) b = dO M true a b := by
  have hi := (next_iff hW ha).mp h
  rw [if_neg hi.1]
  have hfin : dst M true a b < 1000000 := by
    have := hi.2
    unfold dO at this
    by_cases q : dst M true a b < 1000000
    · exact q
    · rw [if_neg q] at this; omega
  obtain ⟨t0, t1, t2, t3, t4⟩ := toward_cand hW ha hi.1 hfin
  have hl := hW.ln t0 t1
  refine ⟨t1, t2, t3, ?_⟩
  unfold dO
  rw [if_pos hfin, if_pos (by omega)]
  exact t4
theorem up_next {f h : Int → Int} {i : Int} (hf : ∀ r : Int, 0 ≤ r → r < i → f r = h r) : ∀ r : Int, 0 ≤ r → r < i + 1 → ups f i (h i) r = h r := by
  intro r r0 r1
  by_cases e : r = i
  · rw [e, ups_same]
  · rw [ups_ne _ e]; exact hf r r0 (by omega)
theorem bit01 (p : Prop) [Decidable p] : (if p then (1 : Int) else 0) = 0 ∨ (if p then (1 : Int) else 0) = 1 := by
  split
  · exact Or.inr rfl
  · exact Or.inl rfl
theorem on_no {N : MT} {f : Int → Int} {t : Nat} {m : Int} (hf : ∀ r : Int, 0 ≤ r → r < m → f r = onR N r t) (h : N 8 t < 0) : ∀ r : Int, 0 ≤ r → r < m → f r = onR N r (t + 1) := by
  intro r r0 r1
  rw [onR_s, if_neg (by omega), hf r r0 r1]; omega
theorem on_yes {N : MT} {f : Int → Int} {t : Nat} {m : Int} (hf : ∀ r : Int, 0 ≤ r → r < m → f r = onR N r t) : ∀ r : Int, 0 ≤ r → r < m → ups f (N 8 t) (f (N 8 t) + 1) r = onR N r (t + 1) := by
  intro r r0 r1
  rw [onR_s]
  by_cases e : r = N 8 t
  · rw [← e, ups_same, if_pos rfl, hf r r0 r1]
  · rw [ups_ne _ e, if_neg (fun z => e z.symm), hf r r0 r1]; omega
theorem hour_5x {N : MT} {r : Int} (hr : 0 ≤ r ∧ r < N 16 0) : (N 6 r = 1 ∧ ((N 5 r < 3 ∧ hourM N 5 r = N 5 r + 1) ∨ (3 ≤ N 5 r ∧ hourM N 5 r = N 5 r))) ∨ (N 6 r ≠ 1 ∧ hourM N 5 r = N 5 r) := by
  rw [hour_5 hr]
  unfold kn1
  by_cases q : N 6 r = 1
  · rw [if_pos q]
    by_cases q2 : N 5 r < 3
    · rw [if_pos q2]; exact Or.inl ⟨q, Or.inl ⟨q2, rfl⟩⟩
    · rw [if_neg q2]; exact Or.inl ⟨q, Or.inr ⟨by omega, rfl⟩⟩
  · rw [if_neg q]; exact Or.inr ⟨q, rfl⟩
theorem hour_4x {N : MT} {B : Int} (hF : WF N B) {r : Int} (hr : 0 ≤ r ∧ r < N 16 0) : (N 6 r = 1 ∧ 0 ≤ hourM N 4 r) ∨ (N 6 r ≠ 1 ∧ N 4 r ≤ hourM N 4 r ∧ (2 ≤ N 6 r → hourM N 4 r = N 4 r)) := by
  have h := hour_4 hF hr
  by_cases q : N 6 r = 1
  · rw [if_pos q] at h; exact Or.inl ⟨q, h.1⟩
  · rw [if_neg q] at h; exact Or.inr ⟨q, h⟩
theorem hour_6x {N : MT} {B : Int} (hF : WF N B) {r : Int} (hr : 0 ≤ r ∧ r < N 16 0) : (N 6 r < 2 ∧ 5 ≤ hourM N 4 r ∧ onR (hourM N) r (N 17 0).toNat = 0 ∧ hourM N 6 r = 4) ∨ (N 6 r < 2 ∧ ¬ (5 ≤ hourM N 4 r ∧ onR (hourM N) r (N 17 0).toNat = 0) ∧ hourM N 6 r = 0) ∨ (2 ≤ N 6 r ∧ hourM N 6 r = N 6 r - 1) := by
  rw [hour_6 hF hr]
  by_cases q : N 6 r < 2
  · by_cases w : 5 ≤ hourM N 4 r ∧ onR (hourM N) r (N 17 0).toNat = 0
    · rw [if_pos ⟨q, w⟩]; exact Or.inl ⟨q, w.1, w.2, rfl⟩
    · rw [if_neg (fun z => w z.2), if_pos q]; exact Or.inr (Or.inl ⟨q, w, rfl⟩)
  · rw [if_neg (fun z => q z.1), if_neg q]; exact Or.inr (Or.inr ⟨by omega, rfl⟩)
set_option maxRecDepth 100000 in
set_option maxHeartbeats 4000000 in
theorem law_s1 {G : va_G} {cy : ClassId} {c : Cx} (X : Ok G cy c cL_law RL 31 room_1) {q qs rr tt : Nat → Nat} (N : MT) (sN : Int → Int) (oN : Int) (U : MT) (sU : Int → Int) (oU : Int) (A : Int → Int) (g : Int → Int) (bs : Nat) (ti B : Int) (hI : INV N g B) (hB2 : B ≤ 500000) (hV : WVo N sN oN) (k n : Nat) (hk : k + 1 ≤ 600104) (hn : n + 3 ≤ 7301314) (x4 : Int) (h19 : 2 ≤ N 19 0) (kk : ∀ (s9 : Int → Int) (o9 : Int) (U9 : MT) (sU9 : Int → Int) (oU9 : Int) (A9 : Int → Int), WVo N s9 o9 → T G c room_1 31 (k + 1) (n + 3) (wD cy q N s9 o9 U9 sU9 oU9 A9 ++ wS G cy qs rr tt N g) 432 [(7, .int (enc (N 17 0))), (6, .int (enc (N 16 0))), (3, .int (enc (ti))), (2, .ref (qs 0)), (1, .ref (q 0)), (0, .ref (bs))] []) : T G c room_1 31 k n (wD cy q N sN oN U sU oU A ++ wS G cy qs rr tt N g) 63 [(4, .int (enc (x4))), (3, .int (enc (ti))), (2, .ref (qs 0)), (1, .ref (q 0)), (0, .ref (bs))] [] := by
  have hF := hI.1
  have hB := hF.bd (by omega)
  obtain ⟨w0, w1, w2, w3, w4⟩ := hF.r
  have h17 := hF.2.2.2.2.2.1
  have h172 := hF.2.2.2.2.2.2.1
  have h20 := hF.2.2.2.2.2.2.2.1
  refine tw_aload_n X dL_law_63 3 rfl rfl ?_
  refine tw_callV X (As := []) (st := []) vw_L_79 (m_X4_crossings (q := q) N sN oN U sU oU A) ([]) (wS G cy qs rr tt N g) rfl rfl (q0 := 0) rfl rfl rfl ⟨rfl, rfl, Nat.le_of_ble_eq_true rfl, Nat.le_of_ble_eq_true rfl⟩ ⟨(show k + 0 ≤ 600104 by omega), (show n + 0 ≤ 7301314 by omega)⟩ (Nat.le_of_ble_eq_true rfl) dL_law_64 (fun v w1 hp => ?_)
  obtain ⟨rfl, rfl⟩ := hp
  refine Teq (ws' := wD cy q N sN oN U sU oU A ++ wS G cy qs rr tt N g) (lv' := [(4, .int (enc (x4))), (3, .int (enc (ti))), (2, .ref (qs 0)), (1, .ref (q 0)), (0, .ref (bs))]) (st' := [.int (enc (N 19 0))]) rfl rfl rfl ?_
  have b1 := hB 19 0
  refine tw_istore (lv' := [(5, .int (enc (N 19 0))), (4, .int (enc (x4))), (3, .int (enc (ti))), (2, .ref (qs 0)), (1, .ref (q 0)), (0, .ref (bs))]) X dL_law_67 (by decide) rfl ?_
  refine tw_aload_n X dL_law_69 4 rfl rfl ?_
  refine tw_callV X (As := []) (st := []) vw_L_81 (m_X4_roads (q := q) N sN oN U sU oU A) ([]) (wS G cy qs rr tt N g) rfl rfl (q0 := 0) rfl rfl rfl ⟨rfl, rfl, Nat.le_of_ble_eq_true rfl, Nat.le_of_ble_eq_true rfl⟩ ⟨(show k + 0 ≤ 600104 by omega), (show n + 0 ≤ 7301314 by omega)⟩ (Nat.le_of_ble_eq_true rfl) dL_law_70 (fun v w1 hp => ?_)
  obtain ⟨rfl, rfl⟩ := hp
  refine Teq (ws' := wD cy q N sN oN U sU oU A ++ wS G cy qs rr tt N g) (lv' := [(5, .int (enc (N 19 0))), (4, .int (enc (x4))), (3, .int (enc (ti))), (2, .ref (qs 0)), (1, .ref (q 0)), (0, .ref (bs))]) (st' := [.int (enc (N 16 0))]) rfl rfl rfl ?_
  have b2 := hB 16 0
  refine tw_istore (lv' := [(6, .int (enc (N 16 0))), (5, .int (enc (N 19 0))), (4, .int (enc (x4))), (3, .int (enc (ti))), (2, .ref (qs 0)), (1, .ref (q 0)), (0, .ref (bs))]) X dL_law_73 (by decide) rfl ?_
  refine tw_aload_n X dL_law_75 5 rfl rfl ?_
  refine tw_callV X (As := []) (st := []) vw_L_83 (m_X4_tourists (q := q) N sN oN U sU oU A) ([]) (wS G cy qs rr tt N g) rfl rfl (q0 := 0) rfl rfl rfl ⟨rfl, rfl, Nat.le_of_ble_eq_true rfl, Nat.le_of_ble_eq_true rfl⟩ ⟨(show k + 0 ≤ 600104 by omega), (show n + 0 ≤ 7301314 by omega)⟩ (Nat.le_of_ble_eq_true rfl) dL_law_76 (fun v w1 hp => ?_)
  obtain ⟨rfl, rfl⟩ := hp
  refine Teq (ws' := wD cy q N sN oN U sU oU A ++ wS G cy qs rr tt N g) (lv' := [(6, .int (enc (N 16 0))), (5, .int (enc (N 19 0))), (4, .int (enc (x4))), (3, .int (enc (ti))), (2, .ref (qs 0)), (1, .ref (q 0)), (0, .ref (bs))]) (st' := [.int (enc (N 17 0))]) rfl rfl rfl ?_
  have b3 := hB 17 0
  refine tw_istore (lv' := [(7, .int (enc (N 17 0))), (6, .int (enc (N 16 0))), (5, .int (enc (N 19 0))), (4, .int (enc (x4))), (3, .int (enc (ti))), (2, .ref (qs 0)), (1, .ref (q 0)), (0, .ref (bs))]) X dL_law_79 (by decide) rfl ?_
  refine tw_iload X dL_law_81 3 rfl ?_
  refine tw_iload X dL_law_83 2 rfl ?_
  refine tw_callS X (As := [.int (enc (x4)), .int (enc (N 19 0))]) (st := []) sw_L_22 (m_L_below (x4) (N 19 0) (by omega)) ([]) (wD cy q N sN oN U sU oU A ++ wS G cy qs rr tt N g) rfl rfl rfl ⟨rfl, rfl, Nat.le_of_ble_eq_true rfl, Nat.le_of_ble_eq_true rfl⟩ ⟨(show k + 0 ≤ 600104 by omega), (show n + 0 ≤ 7301314 by omega)⟩ (Nat.le_of_ble_eq_true rfl) dL_law_85 (fun v w1 hp => ?_)
  obtain ⟨⟨z85, h85a, h85b, rfl⟩, rfl⟩ := hp
  refine Teq (ws' := wD cy q N sN oN U sU oU A ++ wS G cy qs rr tt N g) (lv' := [(7, .int (enc (N 17 0))), (6, .int (enc (N 16 0))), (5, .int (enc (N 19 0))), (4, .int (enc (x4))), (3, .int (enc (ti))), (2, .ref (qs 0)), (1, .ref (q 0)), (0, .ref (bs))]) (st' := [.int (enc (z85))]) rfl rfl rfl ?_
  refine tw_istore (lv' := [(8, .int (enc (z85))), (7, .int (enc (N 17 0))), (6, .int (enc (N 16 0))), (5, .int (enc (N 19 0))), (4, .int (enc (x4))), (3, .int (enc (ti))), (2, .ref (qs 0)), (1, .ref (q 0)), (0, .ref (bs))]) X dL_law_88 (by decide) rfl ?_
  refine tw_iload X dL_law_90 4 rfl ?_
  refine tw_iconst X dL_law_92 ?_
  refine tw_ishr X dL_law_93 (fun z93 hz93 => ?_)
  refine tw_iload X dL_law_94 3 rfl ?_
  refine tw_callS X (As := [.int (enc (z93)), .int (enc (N 19 0))]) (st := []) sw_L_22 (m_L_below (z93) (N 19 0) (by omega)) ([]) (wD cy q N sN oN U sU oU A ++ wS G cy qs rr tt N g) rfl rfl rfl ⟨rfl, rfl, Nat.le_of_ble_eq_true rfl, Nat.le_of_ble_eq_true rfl⟩ ⟨(show k + 0 ≤ 600104 by omega), (show n + 0 ≤ 7301314 by omega)⟩ (Nat.le_of_ble_eq_true rfl) dL_law_96 (fun v w1 hp => ?_)
  obtain ⟨⟨z96, h96a, h96b, rfl⟩, rfl⟩ := hp
  refine Teq (ws' := wD cy q N sN oN U sU oU A ++ wS G cy qs rr tt N g) (lv' := [(8, .int (enc (z85))), (7, .int (enc (N 17 0))), (6, .int (enc (N 16 0))), (5, .int (enc (N 19 0))), (4, .int (enc (x4))), (3, .int (enc (ti))), (2, .ref (qs 0)), (1, .ref (q 0)), (0, .ref (bs))]) (st' := [.int (enc (z96))]) rfl rfl rfl ?_
  refine tw_istore (lv' := [(9, .int (enc (z96))), (8, .int (enc (z85))), (7, .int (enc (N 17 0))), (6, .int (enc (N 16 0))), (5, .int (enc (N 19 0))), (4, .int (enc (x4))), (3, .int (enc (ti))), (2, .ref (qs 0)), (1, .ref (q 0)), (0, .ref (bs))]) X dL_law_99 (by decide) rfl ?_
  refine tw_iload X dL_law_101 5 rfl ?_
  refine tw_iconst X dL_law_103 ?_
  refine tw_ishr X dL_law_104 (fun z104 hz104 => ?_)
  refine tw_iload X dL_law_105 4 rfl ?_
  refine tw_callS X (As := [.int (enc (z104)), .int (enc (N 19 0))]) (st := []) sw_L_22 (m_L_below (z104) (N 19 0) (by omega)) ([]) (wD cy q N sN oN U sU oU A ++ wS G cy qs rr tt N g) rfl rfl rfl ⟨rfl, rfl, Nat.le_of_ble_eq_true rfl, Nat.le_of_ble_eq_true rfl⟩ ⟨(show k + 0 ≤ 600104 by omega), (show n + 0 ≤ 7301314 by omega)⟩ (Nat.le_of_ble_eq_true rfl) dL_law_107 (fun v w1 hp => ?_)
  obtain ⟨⟨z107, h107a, h107b, rfl⟩, rfl⟩ := hp
  refine Teq (ws' := wD cy q N sN oN U sU oU A ++ wS G cy qs rr tt N g) (lv' := [(9, .int (enc (z96))), (8, .int (enc (z85))), (7, .int (enc (N 17 0))), (6, .int (enc (N 16 0))), (5, .int (enc (N 19 0))), (4, .int (enc (x4))), (3, .int (enc (ti))), (2, .ref (qs 0)), (1, .ref (q 0)), (0, .ref (bs))]) (st' := [.int (enc (z107))]) rfl rfl rfl ?_
  refine tw_istore (lv' := [(10, .int (enc (z107))), (9, .int (enc (z96))), (8, .int (enc (z85))), (7, .int (enc (N 17 0))), (6, .int (enc (N 16 0))), (5, .int (enc (N 19 0))), (4, .int (enc (x4))), (3, .int (enc (ti))), (2, .ref (qs 0)), (1, .ref (q 0)), (0, .ref (bs))]) X dL_law_110 (by decide) rfl ?_
  refine tw_iconst X dL_law_112 ?_
  refine tw_newa X (N := 3) rfl (by omega) (show k + 1 ≤ 600104 by omega) (show n + 3 ≤ 7301314 by omega) dL_law_113 (fun qa113 => ?_)
  refine Tnew2 ([]) (wD cy q N sN oN U sU oU A) (wS G cy qs rr tt N g) ([(qa113, arI cy 3 (fun _ => 0))]) (ws' := [(qa113, arI cy 3 (fun _ => 0))] ++ wD cy q N sN oN U sU oU A ++ wS G cy qs rr tt N g) rfl rfl ?_
  refine Twiden (k' := k + 1) (n' := n + 3) (by omega) (by omega) ?_
  refine tw_dup X dL_law_115 rfl ?_
  refine tw_iconst X dL_law_116 ?_
  refine tw_aload_n X dL_law_117 9 rfl rfl ?_
  refine tw_iload X dL_law_118 2 rfl ?_
  refine tw_iload X dL_law_120 1 rfl ?_
  refine tw_callV X (As := [.int (enc (z85)), .int (enc (z96))]) (st := [.int (enc (0)), .ref (qa113), .ref (qa113)]) vw_L_85 (m_X4_openDistance (q := q) N sN oN U sU oU A (z85) (by omega) (z96) (by omega) B hF (by omega) hV) ([(qa113, arI cy 3 (fun _ => 0))]) (wS G cy qs rr tt N g) (List.append_assoc _ _ _) rfl (q0 := 0) rfl rfl rfl ⟨rfl, rfl, Nat.le_of_ble_eq_true rfl, Nat.le_of_ble_eq_true rfl⟩ ⟨(show k + 1 + 0 ≤ 600104 by omega), (show n + 3 + 0 ≤ 7301314 by omega)⟩ (Nat.le_of_ble_eq_true rfl) dL_law_122 (fun v w1 hp => ?_)
  obtain ⟨rfl, s4, o4, U4, sU4, oU4, A4, hV4, rfl⟩ := hp
  have hdr := dO_rng hF.r (o := true) (a := z85) (b := z96) (by omega)
  refine Teq (ws' := [(qa113, arI cy 3 (fun _ => 0))] ++ wD cy q N s4 o4 U4 sU4 oU4 A4 ++ wS G cy qs rr tt N g) (lv' := [(10, .int (enc (z107))), (9, .int (enc (z96))), (8, .int (enc (z85))), (7, .int (enc (N 17 0))), (6, .int (enc (N 16 0))), (5, .int (enc (N 19 0))), (4, .int (enc (x4))), (3, .int (enc (ti))), (2, .ref (qs 0)), (1, .ref (q 0)), (0, .ref (bs))]) (st' := [.int (enc (dO N true z85 z96)), .int (enc (0)), .ref (qa113), .ref (qa113)]) (List.append_assoc _ _ _).symm rfl rfl ?_
  refine tw_iast X (N := 3) (f := (fun _ => 0)) (ws' := [(qa113, arI cy 3 (ups (fun _ => 0) (0) (dO N true z85 z96)))] ++ wD cy q N s4 o4 U4 sU4 oU4 A4 ++ wS G cy qs rr tt N g) 0 rfl (by decide) (by omega) dL_law_125 rfl ?_
  refine tw_dup X dL_law_126 rfl ?_
  refine tw_iconst X dL_law_127 ?_
  refine tw_aload_n X dL_law_128 9 rfl rfl ?_
  refine tw_iload X dL_law_129 1 rfl ?_
  refine tw_iload X dL_law_131 0 rfl ?_
  refine tw_callV X (As := [.int (enc (z96)), .int (enc (z107))]) (st := [.int (enc (1)), .ref (qa113), .ref (qa113)]) vw_L_85 (m_X4_openDistance (q := q) N s4 o4 U4 sU4 oU4 A4 (z96) (by omega) (z107) (by omega) B hF (by omega) hV4) ([(qa113, arI cy 3 (ups (fun _ => 0) (0) (dO N true z85 z96)))]) (wS G cy qs rr tt N g) (List.append_assoc _ _ _) rfl (q0 := 0) rfl rfl rfl ⟨rfl, rfl, Nat.le_of_ble_eq_true rfl, Nat.le_of_ble_eq_true rfl⟩ ⟨(show k + 1 + 0 ≤ 600104 by omega), (show n + 3 + 0 ≤ 7301314 by omega)⟩ (Nat.le_of_ble_eq_true rfl) dL_law_133 (fun v w1 hp => ?_)
  obtain ⟨rfl, s5, o5, U5, sU5, oU5, A5, hV5, rfl⟩ := hp
  have hdr := dO_rng hF.r (o := true) (a := z96) (b := z107) (by omega)
  refine Teq (ws' := [(qa113, arI cy 3 (ups (fun _ => 0) (0) (dO N true z85 z96)))] ++ wD cy q N s5 o5 U5 sU5 oU5 A5 ++ wS G cy qs rr tt N g) (lv' := [(10, .int (enc (z107))), (9, .int (enc (z96))), (8, .int (enc (z85))), (7, .int (enc (N 17 0))), (6, .int (enc (N 16 0))), (5, .int (enc (N 19 0))), (4, .int (enc (x4))), (3, .int (enc (ti))), (2, .ref (qs 0)), (1, .ref (q 0)), (0, .ref (bs))]) (st' := [.int (enc (dO N true z96 z107)), .int (enc (1)), .ref (qa113), .ref (qa113)]) (List.append_assoc _ _ _).symm rfl rfl ?_
  refine tw_iast X (N := 3) (f := (ups (fun _ => 0) (0) (dO N true z85 z96))) (ws' := [(qa113, arI cy 3 (ups (ups (fun _ => 0) (0) (dO N true z85 z96)) (1) (dO N true z96 z107)))] ++ wD cy q N s5 o5 U5 sU5 oU5 A5 ++ wS G cy qs rr tt N g) 0 rfl (by decide) (by omega) dL_law_136 rfl ?_
  refine tw_dup X dL_law_137 rfl ?_
  refine tw_iconst X dL_law_138 ?_
  refine tw_aload_n X dL_law_139 9 rfl rfl ?_
  refine tw_iload X dL_law_140 2 rfl ?_
  refine tw_iload X dL_law_142 0 rfl ?_
  refine tw_callV X (As := [.int (enc (z85)), .int (enc (z107))]) (st := [.int (enc (2)), .ref (qa113), .ref (qa113)]) vw_L_85 (m_X4_openDistance (q := q) N s5 o5 U5 sU5 oU5 A5 (z85) (by omega) (z107) (by omega) B hF (by omega) hV5) ([(qa113, arI cy 3 (ups (ups (fun _ => 0) (0) (dO N true z85 z96)) (1) (dO N true z96 z107)))]) (wS G cy qs rr tt N g) (List.append_assoc _ _ _) rfl (q0 := 0) rfl rfl rfl ⟨rfl, rfl, Nat.le_of_ble_eq_true rfl, Nat.le_of_ble_eq_true rfl⟩ ⟨(show k + 1 + 0 ≤ 600104 by omega), (show n + 3 + 0 ≤ 7301314 by omega)⟩ (Nat.le_of_ble_eq_true rfl) dL_law_144 (fun v w1 hp => ?_)
  obtain ⟨rfl, s6, o6, U6, sU6, oU6, A6, hV6, rfl⟩ := hp
  have hdr := dO_rng hF.r (o := true) (a := z85) (b := z107) (by omega)
  refine Teq (ws' := [(qa113, arI cy 3 (ups (ups (fun _ => 0) (0) (dO N true z85 z96)) (1) (dO N true z96 z107)))] ++ wD cy q N s6 o6 U6 sU6 oU6 A6 ++ wS G cy qs rr tt N g) (lv' := [(10, .int (enc (z107))), (9, .int (enc (z96))), (8, .int (enc (z85))), (7, .int (enc (N 17 0))), (6, .int (enc (N 16 0))), (5, .int (enc (N 19 0))), (4, .int (enc (x4))), (3, .int (enc (ti))), (2, .ref (qs 0)), (1, .ref (q 0)), (0, .ref (bs))]) (st' := [.int (enc (dO N true z85 z107)), .int (enc (2)), .ref (qa113), .ref (qa113)]) (List.append_assoc _ _ _).symm rfl rfl ?_
  refine tw_iast X (N := 3) (f := (ups (ups (fun _ => 0) (0) (dO N true z85 z96)) (1) (dO N true z96 z107))) (ws' := [(qa113, arI cy 3 (ups (ups (ups (fun _ => 0) (0) (dO N true z85 z96)) (1) (dO N true z96 z107)) (2) (dO N true z85 z107)))] ++ wD cy q N s6 o6 U6 sU6 oU6 A6 ++ wS G cy qs rr tt N g) 0 rfl (by decide) (by omega) dL_law_147 rfl ?_
  refine tw_astore (lv' := [(11, .ref (qa113)), (10, .int (enc (z107))), (9, .int (enc (z96))), (8, .int (enc (z85))), (7, .int (enc (N 17 0))), (6, .int (enc (N 16 0))), (5, .int (enc (N 19 0))), (4, .int (enc (x4))), (3, .int (enc (ti))), (2, .ref (qs 0)), (1, .ref (q 0)), (0, .ref (bs))]) X dL_law_148 (by decide) rfl ?_
  have f1 := dO_sym hF.r (o := true) (a := z96) (b := z85) (by omega) (by omega)
  have f2 := dO_sym hF.r (o := false) (a := z96) (b := z85) (by omega) (by omega)
  have f3 := dO_zero hF.r (o := true) (a := z85) (b := z96)
  have f4 : 0 ≤ dO N true z85 z96 → 0 ≤ dO N false z85 z96 ∧ dO N false z85 z96 ≤ dO N true z85 z96 := dO_all hF.r
  have f5 : 0 ≤ dO N true z85 z96 → 0 ≤ dO N true z96 z107 → 0 ≤ dO N true z85 z107 ∧ dO N true z85 z107 ≤ dO N true z85 z96 + dO N true z96 z107 := dO_tri hF.r (by omega) (by omega)
  have f6 := next_iff hF.r (a := z85) (b := z96) (by omega)
  have f7 : 0 ≤ (if z85 = z96 then -1 else toward N z85 z96) → _ := next_way hF.r (a := z85) (b := z96) (by omega)
  have r1 := dO_rng hF.r (o := true) (a := z85) (b := z96) (by omega)
  have r2 := dO_rng hF.r (o := true) (a := z96) (b := z107) (by omega)
  have r3 := dO_rng hF.r (o := true) (a := z85) (b := z107) (by omega)
  have r4 := dO_rng hF.r (o := false) (a := z85) (b := z96) (by omega)
  generalize hRe : (if z85 = z96 then -1 else toward N z85 z96) = R9 at f6 f7
  have rb : -1 ≤ R9 ∧ R9 < 20 := by have := toward_ok hF.r z85 z96; rw [← hRe]; split <;> omega
  have J321 : ∀ (s9 : Int → Int) (o9 : Int) (U9 : MT) (sU9 : Int → Int) (oU9 : Int) (A9 : Int → Int), WVo N s9 o9 → T G c room_1 31 (k + 1) (n + 3) ([(qa113, arI cy 3 (ups (ups (ups (fun _ => 0) (0) (dO N true z85 z96)) (1) (dO N true z96 z107)) (2) (dO N true z85 z107)))] ++ wD cy q N s9 o9 U9 sU9 oU9 A9 ++ wS G cy qs rr tt N g) 321 [(11, .ref (qa113)), (10, .int (enc (z107))), (9, .int (enc (z96))), (8, .int (enc (z85))), (7, .int (enc (N 17 0))), (6, .int (enc (N 16 0))), (3, .int (enc (ti))), (2, .ref (qs 0)), (1, .ref (q 0)), (0, .ref (bs))] [] := by
    intro s9 o9 U9 sU9 oU9 A9 hV9
    refine tw_aload_n X dL_law_321 8 rfl rfl ?_
    refine tw_iload X dL_law_322 3 rfl ?_
    refine tw_iload X dL_law_324 2 rfl ?_
    refine tw_callV X (As := [.int (enc (z85)), .int (enc (z96))]) (st := []) vw_L_91 (m_X4_nextRoad (q := q) N s9 o9 U9 sU9 oU9 A9 (z85) (by omega) (z96) (by omega) B hF (by omega) hV9) ([(qa113, arI cy 3 (ups (ups (ups (fun _ => 0) (0) (dO N true z85 z96)) (1) (dO N true z96 z107)) (2) (dO N true z85 z107)))]) (wS G cy qs rr tt N g) (List.append_assoc _ _ _) rfl (q0 := 0) rfl rfl rfl ⟨rfl, rfl, Nat.le_of_ble_eq_true rfl, Nat.le_of_ble_eq_true rfl⟩ ⟨(show k + 1 + 0 ≤ 600104 by omega), (show n + 3 + 0 ≤ 7301314 by omega)⟩ (Nat.le_of_ble_eq_true rfl) dL_law_326 (fun v w1 hp => ?_)
    obtain ⟨rfl, s7, o7, U7, sU7, oU7, A7, hV7, rfl⟩ := hp
    refine Teq (ws' := [(qa113, arI cy 3 (ups (ups (ups (fun _ => 0) (0) (dO N true z85 z96)) (1) (dO N true z96 z107)) (2) (dO N true z85 z107)))] ++ wD cy q N s7 o7 U7 sU7 oU7 A7 ++ wS G cy qs rr tt N g) (lv' := [(11, .ref (qa113)), (10, .int (enc (z107))), (9, .int (enc (z96))), (8, .int (enc (z85))), (7, .int (enc (N 17 0))), (6, .int (enc (N 16 0))), (3, .int (enc (ti))), (2, .ref (qs 0)), (1, .ref (q 0)), (0, .ref (bs))]) (st' := [.int (enc (if z85 = z96 then -1 else toward N z85 z96))]) (List.append_assoc _ _ _).symm rfl rfl ?_
    refine Tst (st' := [.int (enc (R9))]) (by rw [hRe]) ?_
    refine tw_if_lt (tgt := 432) X (In_of (by omega) (by omega)) dL_law_329 (by decide) (fun c329 => ?_) (fun c329 => ?_)
    · skip
      refine Tgone2 ([]) (wD cy q N s7 o7 U7 sU7 oU7 A7) (wS G cy qs rr tt N g) ([(qa113, arI cy 3 (ups (ups (ups (fun _ => 0) (0) (dO N true z85 z96)) (1) (dO N true z96 z107)) (2) (dO N true z85 z107)))]) (ws' := wD cy q N s7 o7 U7 sU7 oU7 A7 ++ wS G cy qs rr tt N g) rfl rfl ?_
      refine Tsub (lv' := [(7, .int (enc (N 17 0))), (6, .int (enc (N 16 0))), (3, .int (enc (ti))), (2, .ref (qs 0)), (1, .ref (q 0)), (0, .ref (bs))]) [4, 5, 6, 7, 8, 9] rfl ?_
      exact kk s7 o7 U7 sU7 oU7 A7 hV7
    · skip
      obtain ⟨g1, g2, g3, g4⟩ := f7 c329
      have heo := endF_ok hF.r (r := R9) (a := z85) c329 g1 g3
      have ger := endF_rng hF.r c329 g1 g3
      have hwr := hF.r.2.2.2.2 R9 c329 g1
      have hln := hF.r.ln c329 g1
      refine tw_aload_n X dL_law_332 7 rfl rfl ?_
      refine gf_L_15 X (v := .ref (qs 1)) 46 rfl rfl dL_law_333 ?_
      refine tw_aload_n X dL_law_336 8 rfl rfl ?_
      refine tw_iload X dL_law_337 3 rfl ?_
      refine tw_iload X dL_law_339 2 rfl ?_
      refine tw_callV X (As := [.int (enc (z85)), .int (enc (z96))]) (st := [.ref (qs 1)]) vw_L_91 (m_X4_nextRoad (q := q) N s7 o7 U7 sU7 oU7 A7 (z85) (by omega) (z96) (by omega) B hF (by omega) hV7) ([(qa113, arI cy 3 (ups (ups (ups (fun _ => 0) (0) (dO N true z85 z96)) (1) (dO N true z96 z107)) (2) (dO N true z85 z107)))]) (wS G cy qs rr tt N g) (List.append_assoc _ _ _) rfl (q0 := 0) rfl rfl rfl ⟨rfl, rfl, Nat.le_of_ble_eq_true rfl, Nat.le_of_ble_eq_true rfl⟩ ⟨(show k + 1 + 0 ≤ 600104 by omega), (show n + 3 + 0 ≤ 7301314 by omega)⟩ (Nat.le_of_ble_eq_true rfl) dL_law_341 (fun v w1 hp => ?_)
      obtain ⟨rfl, s8, o8, U8, sU8, oU8, A8, hV8, rfl⟩ := hp
      refine Teq (ws' := [(qa113, arI cy 3 (ups (ups (ups (fun _ => 0) (0) (dO N true z85 z96)) (1) (dO N true z96 z107)) (2) (dO N true z85 z107)))] ++ wD cy q N s8 o8 U8 sU8 oU8 A8 ++ wS G cy qs rr tt N g) (lv' := [(11, .ref (qa113)), (10, .int (enc (z107))), (9, .int (enc (z96))), (8, .int (enc (z85))), (7, .int (enc (N 17 0))), (6, .int (enc (N 16 0))), (3, .int (enc (ti))), (2, .ref (qs 0)), (1, .ref (q 0)), (0, .ref (bs))]) (st' := [.int (enc (if z85 = z96 then -1 else toward N z85 z96)), .ref (qs 1)]) (List.append_assoc _ _ _).symm rfl rfl ?_
      refine Tst (st' := [.int (enc (R9)), .ref (qs 1)]) (by rw [hRe]) ?_
      refine sr_aaR X (g := g) (M := N) (r := R9) ([(qa113, arI cy 3 (ups (ups (ups (fun _ => 0) (0) (dO N true z85 z96)) (1) (dO N true z96 z107)) (2) (dO N true z85 z107)))] ++ wD cy q N s8 o8 U8 sU8 oU8 A8) rfl (by omega) (by omega) dL_law_344 ?_
      refine tw_astore (lv' := [(12, .ref (rr (R9).toNat)), (11, .ref (qa113)), (10, .int (enc (z107))), (9, .int (enc (z96))), (8, .int (enc (z85))), (7, .int (enc (N 17 0))), (6, .int (enc (N 16 0))), (3, .int (enc (ti))), (2, .ref (qs 0)), (1, .ref (q 0)), (0, .ref (bs))]) X dL_law_345 (by decide) rfl ?_
      refine tw_aload X dL_law_347 0 rfl ?_
      refine tw_iconst X dL_law_349 ?_
      refine sr_ldR X (g := g) (M := N) (r := R9) (v := N 0 R9) ([(qa113, arI cy 3 (ups (ups (ups (fun _ => 0) (0) (dO N true z85 z96)) (1) (dO N true z96 z107)) (2) (dO N true z85 z107)))] ++ wD cy q N s8 o8 U8 sU8 oU8 A8) rfl (by omega) (by decide) rfl dL_law_350 ?_
      have b9 := hB 0 R9
      refine tw_iload X dL_law_351 4 rfl ?_
      refine tw_icmp_ne (tgt := 363) X (In_of (by omega) (by omega)) (In_of (by omega) (by omega)) dL_law_353 (by decide) (fun c353 => ?_) (fun c353 => ?_)
      · skip
        refine tw_aload X dL_law_363 0 rfl ?_
        refine tw_iconst X dL_law_365 ?_
        refine sr_ldR X (g := g) (M := N) (r := R9) (v := N 0 R9) ([(qa113, arI cy 3 (ups (ups (ups (fun _ => 0) (0) (dO N true z85 z96)) (1) (dO N true z96 z107)) (2) (dO N true z85 z107)))] ++ wD cy q N s8 o8 U8 sU8 oU8 A8) rfl (by omega) (by decide) rfl dL_law_366 ?_
        have b10 := hB 0 R9
        refine Tst (st' := [.int (enc (endF N R9 z85))]) (by rw [show N 0 R9 = endF N R9 z85 by omega]) ?_
        refine tw_istore (lv' := [(13, .int (enc (endF N R9 z85))), (12, .ref (rr (R9).toNat)), (11, .ref (qa113)), (10, .int (enc (z107))), (9, .int (enc (z96))), (8, .int (enc (z85))), (7, .int (enc (N 17 0))), (6, .int (enc (N 16 0))), (3, .int (enc (ti))), (2, .ref (qs 0)), (1, .ref (q 0)), (0, .ref (bs))]) X dL_law_367 (by decide) rfl ?_
        refine tw_aload X dL_law_369 1 rfl ?_
        refine tw_iconst X dL_law_371 ?_
        refine sr_ldR X (g := g) (M := N) (r := R9) (v := N 0 R9) ([(qa113, arI cy 3 (ups (ups (ups (fun _ => 0) (0) (dO N true z85 z96)) (1) (dO N true z96 z107)) (2) (dO N true z85 z107)))] ++ wD cy q N s8 o8 U8 sU8 oU8 A8) rfl (by omega) (by decide) rfl dL_law_372 ?_
        have b11 := hB 0 R9
        refine tw_iload X dL_law_373 5 rfl ?_
        refine tw_icmp_eq (tgt := 387) X (In_of (by omega) (by omega)) (In_of (by omega) (by omega)) dL_law_375 (by decide) (fun c375 => ?_) (fun c375 => ?_)
        · skip
          refine tw_aload_n X dL_law_387 10 rfl rfl ?_
          refine tw_aload_n X dL_law_388 10 rfl rfl ?_
          refine tw_iload X dL_law_389 5 rfl ?_
          refine tw_iload X dL_law_391 4 rfl ?_
          refine tw_callV X (As := [.int (enc (z85)), .int (enc (z96))]) (st := [.ref (q 0)]) vw_L_91 (m_X4_nextRoad (q := q) N s8 o8 U8 sU8 oU8 A8 (z85) (by omega) (z96) (by omega) B hF (by omega) hV8) ([(qa113, arI cy 3 (ups (ups (ups (fun _ => 0) (0) (dO N true z85 z96)) (1) (dO N true z96 z107)) (2) (dO N true z85 z107)))]) (wS G cy qs rr tt N g) (List.append_assoc _ _ _) rfl (q0 := 0) rfl rfl rfl ⟨rfl, rfl, Nat.le_of_ble_eq_true rfl, Nat.le_of_ble_eq_true rfl⟩ ⟨(show k + 1 + 0 ≤ 600104 by omega), (show n + 3 + 0 ≤ 7301314 by omega)⟩ (Nat.le_of_ble_eq_true rfl) dL_law_393 (fun v w1 hp => ?_)
          obtain ⟨rfl, s12, o12, U12, sU12, oU12, A12, hV12, rfl⟩ := hp
          refine Teq (ws' := [(qa113, arI cy 3 (ups (ups (ups (fun _ => 0) (0) (dO N true z85 z96)) (1) (dO N true z96 z107)) (2) (dO N true z85 z107)))] ++ wD cy q N s12 o12 U12 sU12 oU12 A12 ++ wS G cy qs rr tt N g) (lv' := [(13, .int (enc (endF N R9 z85))), (12, .ref (rr (R9).toNat)), (11, .ref (qa113)), (10, .int (enc (z107))), (9, .int (enc (z96))), (8, .int (enc (z85))), (7, .int (enc (N 17 0))), (6, .int (enc (N 16 0))), (3, .int (enc (ti))), (2, .ref (qs 0)), (1, .ref (q 0)), (0, .ref (bs))]) (st' := [.int (enc (if z85 = z96 then -1 else toward N z85 z96)), .ref (q 0)]) (List.append_assoc _ _ _).symm rfl rfl ?_
          refine Tst (st' := [.int (enc (R9)), .ref (q 0)]) (by rw [hRe]) ?_
          refine tw_callV X (As := [.int (enc (R9))]) (st := []) vw_L_94 (m_X4_closedFor (q := q) N s12 o12 U12 sU12 oU12 A12 (R9) (by omega) B hF (by omega)) ([(qa113, arI cy 3 (ups (ups (ups (fun _ => 0) (0) (dO N true z85 z96)) (1) (dO N true z96 z107)) (2) (dO N true z85 z107)))]) (wS G cy qs rr tt N g) (List.append_assoc _ _ _) rfl (q0 := 0) rfl rfl rfl ⟨rfl, rfl, Nat.le_of_ble_eq_true rfl, Nat.le_of_ble_eq_true rfl⟩ ⟨(show k + 1 + 0 ≤ 600104 by omega), (show n + 3 + 0 ≤ 7301314 by omega)⟩ (Nat.le_of_ble_eq_true rfl) dL_law_396 (fun v w1 hp => ?_)
          obtain ⟨rfl, rfl⟩ := hp
          refine Teq (ws' := [(qa113, arI cy 3 (ups (ups (ups (fun _ => 0) (0) (dO N true z85 z96)) (1) (dO N true z96 z107)) (2) (dO N true z85 z107)))] ++ wD cy q N s12 o12 U12 sU12 oU12 A12 ++ wS G cy qs rr tt N g) (lv' := [(13, .int (enc (endF N R9 z85))), (12, .ref (rr (R9).toNat)), (11, .ref (qa113)), (10, .int (enc (z107))), (9, .int (enc (z96))), (8, .int (enc (z85))), (7, .int (enc (N 17 0))), (6, .int (enc (N 16 0))), (3, .int (enc (ti))), (2, .ref (qs 0)), (1, .ref (q 0)), (0, .ref (bs))]) (st' := [.int (enc (N 6 R9))]) (List.append_assoc _ _ _).symm rfl rfl ?_
          have b13 := hB 6 R9
          refine tw_if_gt (tgt := 430) X (In_of (by omega) (by omega)) dL_law_399 (by decide) (fun c399 => ?_) (fun c399 => ?_)
          · skip
            exact (show False by omega).elim
          · skip
            refine tw_aload_n X dL_law_402 10 rfl rfl ?_
            refine tw_iload X dL_law_403 0 rfl ?_
            refine tw_iload X dL_law_405 4 rfl ?_
            refine tw_callV X (As := [.int (enc (endF N R9 z85)), .int (enc (z96))]) (st := []) vw_L_85 (m_X4_openDistance (q := q) N s12 o12 U12 sU12 oU12 A12 (endF N R9 z85) (by omega) (z96) (by omega) B hF (by omega) hV12) ([(qa113, arI cy 3 (ups (ups (ups (fun _ => 0) (0) (dO N true z85 z96)) (1) (dO N true z96 z107)) (2) (dO N true z85 z107)))]) (wS G cy qs rr tt N g) (List.append_assoc _ _ _) rfl (q0 := 0) rfl rfl rfl ⟨rfl, rfl, Nat.le_of_ble_eq_true rfl, Nat.le_of_ble_eq_true rfl⟩ ⟨(show k + 1 + 0 ≤ 600104 by omega), (show n + 3 + 0 ≤ 7301314 by omega)⟩ (Nat.le_of_ble_eq_true rfl) dL_law_407 (fun v w1 hp => ?_)
            obtain ⟨rfl, s14, o14, U14, sU14, oU14, A14, hV14, rfl⟩ := hp
            have hdr := dO_rng hF.r (o := true) (a := endF N R9 z85) (b := z96) (by omega)
            refine Teq (ws' := [(qa113, arI cy 3 (ups (ups (ups (fun _ => 0) (0) (dO N true z85 z96)) (1) (dO N true z96 z107)) (2) (dO N true z85 z107)))] ++ wD cy q N s14 o14 U14 sU14 oU14 A14 ++ wS G cy qs rr tt N g) (lv' := [(13, .int (enc (endF N R9 z85))), (12, .ref (rr (R9).toNat)), (11, .ref (qa113)), (10, .int (enc (z107))), (9, .int (enc (z96))), (8, .int (enc (z85))), (7, .int (enc (N 17 0))), (6, .int (enc (N 16 0))), (3, .int (enc (ti))), (2, .ref (qs 0)), (1, .ref (q 0)), (0, .ref (bs))]) (st' := [.int (enc (dO N true (endF N R9 z85) z96))]) (List.append_assoc _ _ _).symm rfl rfl ?_
            refine tw_aload_n X dL_law_410 10 rfl rfl ?_
            refine tw_aload_n X dL_law_411 10 rfl rfl ?_
            refine tw_iload X dL_law_412 5 rfl ?_
            refine tw_iload X dL_law_414 4 rfl ?_
            refine tw_callV X (As := [.int (enc (z85)), .int (enc (z96))]) (st := [.ref (q 0), .int (enc (dO N true (endF N R9 z85) z96))]) vw_L_91 (m_X4_nextRoad (q := q) N s14 o14 U14 sU14 oU14 A14 (z85) (by omega) (z96) (by omega) B hF (by omega) hV14) ([(qa113, arI cy 3 (ups (ups (ups (fun _ => 0) (0) (dO N true z85 z96)) (1) (dO N true z96 z107)) (2) (dO N true z85 z107)))]) (wS G cy qs rr tt N g) (List.append_assoc _ _ _) rfl (q0 := 0) rfl rfl rfl ⟨rfl, rfl, Nat.le_of_ble_eq_true rfl, Nat.le_of_ble_eq_true rfl⟩ ⟨(show k + 1 + 0 ≤ 600104 by omega), (show n + 3 + 0 ≤ 7301314 by omega)⟩ (Nat.le_of_ble_eq_true rfl) dL_law_416 (fun v w1 hp => ?_)
            obtain ⟨rfl, s15, o15, U15, sU15, oU15, A15, hV15, rfl⟩ := hp
            refine Teq (ws' := [(qa113, arI cy 3 (ups (ups (ups (fun _ => 0) (0) (dO N true z85 z96)) (1) (dO N true z96 z107)) (2) (dO N true z85 z107)))] ++ wD cy q N s15 o15 U15 sU15 oU15 A15 ++ wS G cy qs rr tt N g) (lv' := [(13, .int (enc (endF N R9 z85))), (12, .ref (rr (R9).toNat)), (11, .ref (qa113)), (10, .int (enc (z107))), (9, .int (enc (z96))), (8, .int (enc (z85))), (7, .int (enc (N 17 0))), (6, .int (enc (N 16 0))), (3, .int (enc (ti))), (2, .ref (qs 0)), (1, .ref (q 0)), (0, .ref (bs))]) (st' := [.int (enc (if z85 = z96 then -1 else toward N z85 z96)), .ref (q 0), .int (enc (dO N true (endF N R9 z85) z96))]) (List.append_assoc _ _ _).symm rfl rfl ?_
            refine Tst (st' := [.int (enc (R9)), .ref (q 0), .int (enc (dO N true (endF N R9 z85) z96))]) (by rw [hRe]) ?_
            refine tw_callV X (As := [.int (enc (R9))]) (st := [.int (enc (dO N true (endF N R9 z85) z96))]) vw_L_97 (m_X4_lengthOf (q := q) N s15 o15 U15 sU15 oU15 A15 (R9) (by omega) B hF (by omega)) ([(qa113, arI cy 3 (ups (ups (ups (fun _ => 0) (0) (dO N true z85 z96)) (1) (dO N true z96 z107)) (2) (dO N true z85 z107)))]) (wS G cy qs rr tt N g) (List.append_assoc _ _ _) rfl (q0 := 0) rfl rfl rfl ⟨rfl, rfl, Nat.le_of_ble_eq_true rfl, Nat.le_of_ble_eq_true rfl⟩ ⟨(show k + 1 + 0 ≤ 600104 by omega), (show n + 3 + 0 ≤ 7301314 by omega)⟩ (Nat.le_of_ble_eq_true rfl) dL_law_419 (fun v w1 hp => ?_)
            obtain ⟨rfl, rfl⟩ := hp
            refine Teq (ws' := [(qa113, arI cy 3 (ups (ups (ups (fun _ => 0) (0) (dO N true z85 z96)) (1) (dO N true z96 z107)) (2) (dO N true z85 z107)))] ++ wD cy q N s15 o15 U15 sU15 oU15 A15 ++ wS G cy qs rr tt N g) (lv' := [(13, .int (enc (endF N R9 z85))), (12, .ref (rr (R9).toNat)), (11, .ref (qa113)), (10, .int (enc (z107))), (9, .int (enc (z96))), (8, .int (enc (z85))), (7, .int (enc (N 17 0))), (6, .int (enc (N 16 0))), (3, .int (enc (ti))), (2, .ref (qs 0)), (1, .ref (q 0)), (0, .ref (bs))]) (st' := [.int (enc (len N R9)), .int (enc (dO N true (endF N R9 z85) z96))]) (List.append_assoc _ _ _).symm rfl rfl ?_
            refine tw_iadd (z := (dO N true (endF N R9 z85) z96) + (len N R9)) X dL_law_422 rfl ?_
            refine tw_aload X dL_law_423 2 rfl ?_
            refine tw_iconst X dL_law_425 ?_
            refine tw_iald X (N := 3) (f := (ups (ups (ups (fun _ => 0) (0) (dO N true z85 z96)) (1) (dO N true z96 z107)) (2) (dO N true z85 z107))) 0 rfl (by decide) (by decide) dL_law_426 ?_
            refine Tst (st' := [.int (enc (dO N true z85 z96)), .int (enc ((dO N true (endF N R9 z85) z96) + (len N R9)))]) rfl ?_
            refine tw_icmp_eq (tgt := 432) X (In_of (by omega) (by omega)) (In_of (by omega) (by omega)) dL_law_427 (by decide) (fun c427 => ?_) (fun c427 => ?_)
            · skip
              refine Tgone2 ([]) (wD cy q N s15 o15 U15 sU15 oU15 A15) (wS G cy qs rr tt N g) ([(qa113, arI cy 3 (ups (ups (ups (fun _ => 0) (0) (dO N true z85 z96)) (1) (dO N true z96 z107)) (2) (dO N true z85 z107)))]) (ws' := wD cy q N s15 o15 U15 sU15 oU15 A15 ++ wS G cy qs rr tt N g) rfl rfl ?_
              refine Tsub (lv' := [(7, .int (enc (N 17 0))), (6, .int (enc (N 16 0))), (3, .int (enc (ti))), (2, .ref (qs 0)), (1, .ref (q 0)), (0, .ref (bs))]) [6, 7, 8, 9, 10, 11] rfl ?_
              exact kk s15 o15 U15 sU15 oU15 A15 hV15
            · skip
              exact (show False by omega).elim
        · skip
          refine tw_aload X dL_law_378 1 rfl ?_
          refine tw_iconst X dL_law_380 ?_
          refine sr_ldR X (g := g) (M := N) (r := R9) (v := N 1 R9) ([(qa113, arI cy 3 (ups (ups (ups (fun _ => 0) (0) (dO N true z85 z96)) (1) (dO N true z96 z107)) (2) (dO N true z85 z107)))] ++ wD cy q N s8 o8 U8 sU8 oU8 A8) rfl (by omega) (by decide) rfl dL_law_381 ?_
          have b16 := hB 1 R9
          refine tw_iload X dL_law_382 5 rfl ?_
          refine tw_icmp_ne (tgt := 430) X (In_of (by omega) (by omega)) (In_of (by omega) (by omega)) dL_law_384 (by decide) (fun c384 => ?_) (fun c384 => ?_)
          · skip
            exact (show False by omega).elim
          · skip
            refine tw_aload_n X dL_law_387 10 rfl rfl ?_
            refine tw_aload_n X dL_law_388 10 rfl rfl ?_
            refine tw_iload X dL_law_389 5 rfl ?_
            refine tw_iload X dL_law_391 4 rfl ?_
            refine tw_callV X (As := [.int (enc (z85)), .int (enc (z96))]) (st := [.ref (q 0)]) vw_L_91 (m_X4_nextRoad (q := q) N s8 o8 U8 sU8 oU8 A8 (z85) (by omega) (z96) (by omega) B hF (by omega) hV8) ([(qa113, arI cy 3 (ups (ups (ups (fun _ => 0) (0) (dO N true z85 z96)) (1) (dO N true z96 z107)) (2) (dO N true z85 z107)))]) (wS G cy qs rr tt N g) (List.append_assoc _ _ _) rfl (q0 := 0) rfl rfl rfl ⟨rfl, rfl, Nat.le_of_ble_eq_true rfl, Nat.le_of_ble_eq_true rfl⟩ ⟨(show k + 1 + 0 ≤ 600104 by omega), (show n + 3 + 0 ≤ 7301314 by omega)⟩ (Nat.le_of_ble_eq_true rfl) dL_law_393 (fun v w1 hp => ?_)
            obtain ⟨rfl, s17, o17, U17, sU17, oU17, A17, hV17, rfl⟩ := hp
            refine Teq (ws' := [(qa113, arI cy 3 (ups (ups (ups (fun _ => 0) (0) (dO N true z85 z96)) (1) (dO N true z96 z107)) (2) (dO N true z85 z107)))] ++ wD cy q N s17 o17 U17 sU17 oU17 A17 ++ wS G cy qs rr tt N g) (lv' := [(13, .int (enc (endF N R9 z85))), (12, .ref (rr (R9).toNat)), (11, .ref (qa113)), (10, .int (enc (z107))), (9, .int (enc (z96))), (8, .int (enc (z85))), (7, .int (enc (N 17 0))), (6, .int (enc (N 16 0))), (3, .int (enc (ti))), (2, .ref (qs 0)), (1, .ref (q 0)), (0, .ref (bs))]) (st' := [.int (enc (if z85 = z96 then -1 else toward N z85 z96)), .ref (q 0)]) (List.append_assoc _ _ _).symm rfl rfl ?_
            refine Tst (st' := [.int (enc (R9)), .ref (q 0)]) (by rw [hRe]) ?_
            refine tw_callV X (As := [.int (enc (R9))]) (st := []) vw_L_94 (m_X4_closedFor (q := q) N s17 o17 U17 sU17 oU17 A17 (R9) (by omega) B hF (by omega)) ([(qa113, arI cy 3 (ups (ups (ups (fun _ => 0) (0) (dO N true z85 z96)) (1) (dO N true z96 z107)) (2) (dO N true z85 z107)))]) (wS G cy qs rr tt N g) (List.append_assoc _ _ _) rfl (q0 := 0) rfl rfl rfl ⟨rfl, rfl, Nat.le_of_ble_eq_true rfl, Nat.le_of_ble_eq_true rfl⟩ ⟨(show k + 1 + 0 ≤ 600104 by omega), (show n + 3 + 0 ≤ 7301314 by omega)⟩ (Nat.le_of_ble_eq_true rfl) dL_law_396 (fun v w1 hp => ?_)
            obtain ⟨rfl, rfl⟩ := hp
            refine Teq (ws' := [(qa113, arI cy 3 (ups (ups (ups (fun _ => 0) (0) (dO N true z85 z96)) (1) (dO N true z96 z107)) (2) (dO N true z85 z107)))] ++ wD cy q N s17 o17 U17 sU17 oU17 A17 ++ wS G cy qs rr tt N g) (lv' := [(13, .int (enc (endF N R9 z85))), (12, .ref (rr (R9).toNat)), (11, .ref (qa113)), (10, .int (enc (z107))), (9, .int (enc (z96))), (8, .int (enc (z85))), (7, .int (enc (N 17 0))), (6, .int (enc (N 16 0))), (3, .int (enc (ti))), (2, .ref (qs 0)), (1, .ref (q 0)), (0, .ref (bs))]) (st' := [.int (enc (N 6 R9))]) (List.append_assoc _ _ _).symm rfl rfl ?_
            have b18 := hB 6 R9
            refine tw_if_gt (tgt := 430) X (In_of (by omega) (by omega)) dL_law_399 (by decide) (fun c399 => ?_) (fun c399 => ?_)
            · skip
              exact (show False by omega).elim
            · skip
              refine tw_aload_n X dL_law_402 10 rfl rfl ?_
              refine tw_iload X dL_law_403 0 rfl ?_
              refine tw_iload X dL_law_405 4 rfl ?_
              refine tw_callV X (As := [.int (enc (endF N R9 z85)), .int (enc (z96))]) (st := []) vw_L_85 (m_X4_openDistance (q := q) N s17 o17 U17 sU17 oU17 A17 (endF N R9 z85) (by omega) (z96) (by omega) B hF (by omega) hV17) ([(qa113, arI cy 3 (ups (ups (ups (fun _ => 0) (0) (dO N true z85 z96)) (1) (dO N true z96 z107)) (2) (dO N true z85 z107)))]) (wS G cy qs rr tt N g) (List.append_assoc _ _ _) rfl (q0 := 0) rfl rfl rfl ⟨rfl, rfl, Nat.le_of_ble_eq_true rfl, Nat.le_of_ble_eq_true rfl⟩ ⟨(show k + 1 + 0 ≤ 600104 by omega), (show n + 3 + 0 ≤ 7301314 by omega)⟩ (Nat.le_of_ble_eq_true rfl) dL_law_407 (fun v w1 hp => ?_)
              obtain ⟨rfl, s19, o19, U19, sU19, oU19, A19, hV19, rfl⟩ := hp
              have hdr := dO_rng hF.r (o := true) (a := endF N R9 z85) (b := z96) (by omega)
              refine Teq (ws' := [(qa113, arI cy 3 (ups (ups (ups (fun _ => 0) (0) (dO N true z85 z96)) (1) (dO N true z96 z107)) (2) (dO N true z85 z107)))] ++ wD cy q N s19 o19 U19 sU19 oU19 A19 ++ wS G cy qs rr tt N g) (lv' := [(13, .int (enc (endF N R9 z85))), (12, .ref (rr (R9).toNat)), (11, .ref (qa113)), (10, .int (enc (z107))), (9, .int (enc (z96))), (8, .int (enc (z85))), (7, .int (enc (N 17 0))), (6, .int (enc (N 16 0))), (3, .int (enc (ti))), (2, .ref (qs 0)), (1, .ref (q 0)), (0, .ref (bs))]) (st' := [.int (enc (dO N true (endF N R9 z85) z96))]) (List.append_assoc _ _ _).symm rfl rfl ?_
              refine tw_aload_n X dL_law_410 10 rfl rfl ?_
              refine tw_aload_n X dL_law_411 10 rfl rfl ?_
              refine tw_iload X dL_law_412 5 rfl ?_
              refine tw_iload X dL_law_414 4 rfl ?_
              refine tw_callV X (As := [.int (enc (z85)), .int (enc (z96))]) (st := [.ref (q 0), .int (enc (dO N true (endF N R9 z85) z96))]) vw_L_91 (m_X4_nextRoad (q := q) N s19 o19 U19 sU19 oU19 A19 (z85) (by omega) (z96) (by omega) B hF (by omega) hV19) ([(qa113, arI cy 3 (ups (ups (ups (fun _ => 0) (0) (dO N true z85 z96)) (1) (dO N true z96 z107)) (2) (dO N true z85 z107)))]) (wS G cy qs rr tt N g) (List.append_assoc _ _ _) rfl (q0 := 0) rfl rfl rfl ⟨rfl, rfl, Nat.le_of_ble_eq_true rfl, Nat.le_of_ble_eq_true rfl⟩ ⟨(show k + 1 + 0 ≤ 600104 by omega), (show n + 3 + 0 ≤ 7301314 by omega)⟩ (Nat.le_of_ble_eq_true rfl) dL_law_416 (fun v w1 hp => ?_)
              obtain ⟨rfl, s20, o20, U20, sU20, oU20, A20, hV20, rfl⟩ := hp
              refine Teq (ws' := [(qa113, arI cy 3 (ups (ups (ups (fun _ => 0) (0) (dO N true z85 z96)) (1) (dO N true z96 z107)) (2) (dO N true z85 z107)))] ++ wD cy q N s20 o20 U20 sU20 oU20 A20 ++ wS G cy qs rr tt N g) (lv' := [(13, .int (enc (endF N R9 z85))), (12, .ref (rr (R9).toNat)), (11, .ref (qa113)), (10, .int (enc (z107))), (9, .int (enc (z96))), (8, .int (enc (z85))), (7, .int (enc (N 17 0))), (6, .int (enc (N 16 0))), (3, .int (enc (ti))), (2, .ref (qs 0)), (1, .ref (q 0)), (0, .ref (bs))]) (st' := [.int (enc (if z85 = z96 then -1 else toward N z85 z96)), .ref (q 0), .int (enc (dO N true (endF N R9 z85) z96))]) (List.append_assoc _ _ _).symm rfl rfl ?_
              refine Tst (st' := [.int (enc (R9)), .ref (q 0), .int (enc (dO N true (endF N R9 z85) z96))]) (by rw [hRe]) ?_
              refine tw_callV X (As := [.int (enc (R9))]) (st := [.int (enc (dO N true (endF N R9 z85) z96))]) vw_L_97 (m_X4_lengthOf (q := q) N s20 o20 U20 sU20 oU20 A20 (R9) (by omega) B hF (by omega)) ([(qa113, arI cy 3 (ups (ups (ups (fun _ => 0) (0) (dO N true z85 z96)) (1) (dO N true z96 z107)) (2) (dO N true z85 z107)))]) (wS G cy qs rr tt N g) (List.append_assoc _ _ _) rfl (q0 := 0) rfl rfl rfl ⟨rfl, rfl, Nat.le_of_ble_eq_true rfl, Nat.le_of_ble_eq_true rfl⟩ ⟨(show k + 1 + 0 ≤ 600104 by omega), (show n + 3 + 0 ≤ 7301314 by omega)⟩ (Nat.le_of_ble_eq_true rfl) dL_law_419 (fun v w1 hp => ?_)
              obtain ⟨rfl, rfl⟩ := hp
              refine Teq (ws' := [(qa113, arI cy 3 (ups (ups (ups (fun _ => 0) (0) (dO N true z85 z96)) (1) (dO N true z96 z107)) (2) (dO N true z85 z107)))] ++ wD cy q N s20 o20 U20 sU20 oU20 A20 ++ wS G cy qs rr tt N g) (lv' := [(13, .int (enc (endF N R9 z85))), (12, .ref (rr (R9).toNat)), (11, .ref (qa113)), (10, .int (enc (z107))), (9, .int (enc (z96))), (8, .int (enc (z85))), (7, .int (enc (N 17 0))), (6, .int (enc (N 16 0))), (3, .int (enc (ti))), (2, .ref (qs 0)), (1, .ref (q 0)), (0, .ref (bs))]) (st' := [.int (enc (len N R9)), .int (enc (dO N true (endF N R9 z85) z96))]) (List.append_assoc _ _ _).symm rfl rfl ?_
              refine tw_iadd (z := (dO N true (endF N R9 z85) z96) + (len N R9)) X dL_law_422 rfl ?_
              refine tw_aload X dL_law_423 2 rfl ?_
              refine tw_iconst X dL_law_425 ?_
              refine tw_iald X (N := 3) (f := (ups (ups (ups (fun _ => 0) (0) (dO N true z85 z96)) (1) (dO N true z96 z107)) (2) (dO N true z85 z107))) 0 rfl (by decide) (by decide) dL_law_426 ?_
              refine Tst (st' := [.int (enc (dO N true z85 z96)), .int (enc ((dO N true (endF N R9 z85) z96) + (len N R9)))]) rfl ?_
              refine tw_icmp_eq (tgt := 432) X (In_of (by omega) (by omega)) (In_of (by omega) (by omega)) dL_law_427 (by decide) (fun c427 => ?_) (fun c427 => ?_)
              · skip
                refine Tgone2 ([]) (wD cy q N s20 o20 U20 sU20 oU20 A20) (wS G cy qs rr tt N g) ([(qa113, arI cy 3 (ups (ups (ups (fun _ => 0) (0) (dO N true z85 z96)) (1) (dO N true z96 z107)) (2) (dO N true z85 z107)))]) (ws' := wD cy q N s20 o20 U20 sU20 oU20 A20 ++ wS G cy qs rr tt N g) rfl rfl ?_
                refine Tsub (lv' := [(7, .int (enc (N 17 0))), (6, .int (enc (N 16 0))), (3, .int (enc (ti))), (2, .ref (qs 0)), (1, .ref (q 0)), (0, .ref (bs))]) [6, 7, 8, 9, 10, 11] rfl ?_
                exact kk s20 o20 U20 sU20 oU20 A20 hV20
              · skip
                exact (show False by omega).elim
      · skip
        refine tw_aload X dL_law_356 0 rfl ?_
        refine tw_iconst X dL_law_358 ?_
        refine sr_ldR X (g := g) (M := N) (r := R9) (v := N 1 R9) ([(qa113, arI cy 3 (ups (ups (ups (fun _ => 0) (0) (dO N true z85 z96)) (1) (dO N true z96 z107)) (2) (dO N true z85 z107)))] ++ wD cy q N s8 o8 U8 sU8 oU8 A8) rfl (by omega) (by decide) rfl dL_law_359 ?_
        have b21 := hB 1 R9
        refine tw_goto (tgt := 367) X dL_law_360 (by decide) ?_
        refine Tst (st' := [.int (enc (endF N R9 z85))]) (by rw [show N 1 R9 = endF N R9 z85 by omega]) ?_
        refine tw_istore (lv' := [(13, .int (enc (endF N R9 z85))), (12, .ref (rr (R9).toNat)), (11, .ref (qa113)), (10, .int (enc (z107))), (9, .int (enc (z96))), (8, .int (enc (z85))), (7, .int (enc (N 17 0))), (6, .int (enc (N 16 0))), (3, .int (enc (ti))), (2, .ref (qs 0)), (1, .ref (q 0)), (0, .ref (bs))]) X dL_law_367 (by decide) rfl ?_
        refine tw_aload X dL_law_369 1 rfl ?_
        refine tw_iconst X dL_law_371 ?_
        refine sr_ldR X (g := g) (M := N) (r := R9) (v := N 0 R9) ([(qa113, arI cy 3 (ups (ups (ups (fun _ => 0) (0) (dO N true z85 z96)) (1) (dO N true z96 z107)) (2) (dO N true z85 z107)))] ++ wD cy q N s8 o8 U8 sU8 oU8 A8) rfl (by omega) (by decide) rfl dL_law_372 ?_
        have b22 := hB 0 R9
        refine tw_iload X dL_law_373 5 rfl ?_
        refine tw_icmp_eq (tgt := 387) X (In_of (by omega) (by omega)) (In_of (by omega) (by omega)) dL_law_375 (by decide) (fun c375 => ?_) (fun c375 => ?_)
        · skip
          refine tw_aload_n X dL_law_387 10 rfl rfl ?_
          refine tw_aload_n X dL_law_388 10 rfl rfl ?_
          refine tw_iload X dL_law_389 5 rfl ?_
          refine tw_iload X dL_law_391 4 rfl ?_
          refine tw_callV X (As := [.int (enc (z85)), .int (enc (z96))]) (st := [.ref (q 0)]) vw_L_91 (m_X4_nextRoad (q := q) N s8 o8 U8 sU8 oU8 A8 (z85) (by omega) (z96) (by omega) B hF (by omega) hV8) ([(qa113, arI cy 3 (ups (ups (ups (fun _ => 0) (0) (dO N true z85 z96)) (1) (dO N true z96 z107)) (2) (dO N true z85 z107)))]) (wS G cy qs rr tt N g) (List.append_assoc _ _ _) rfl (q0 := 0) rfl rfl rfl ⟨rfl, rfl, Nat.le_of_ble_eq_true rfl, Nat.le_of_ble_eq_true rfl⟩ ⟨(show k + 1 + 0 ≤ 600104 by omega), (show n + 3 + 0 ≤ 7301314 by omega)⟩ (Nat.le_of_ble_eq_true rfl) dL_law_393 (fun v w1 hp => ?_)
          obtain ⟨rfl, s23, o23, U23, sU23, oU23, A23, hV23, rfl⟩ := hp
          refine Teq (ws' := [(qa113, arI cy 3 (ups (ups (ups (fun _ => 0) (0) (dO N true z85 z96)) (1) (dO N true z96 z107)) (2) (dO N true z85 z107)))] ++ wD cy q N s23 o23 U23 sU23 oU23 A23 ++ wS G cy qs rr tt N g) (lv' := [(13, .int (enc (endF N R9 z85))), (12, .ref (rr (R9).toNat)), (11, .ref (qa113)), (10, .int (enc (z107))), (9, .int (enc (z96))), (8, .int (enc (z85))), (7, .int (enc (N 17 0))), (6, .int (enc (N 16 0))), (3, .int (enc (ti))), (2, .ref (qs 0)), (1, .ref (q 0)), (0, .ref (bs))]) (st' := [.int (enc (if z85 = z96 then -1 else toward N z85 z96)), .ref (q 0)]) (List.append_assoc _ _ _).symm rfl rfl ?_
          refine Tst (st' := [.int (enc (R9)), .ref (q 0)]) (by rw [hRe]) ?_
          refine tw_callV X (As := [.int (enc (R9))]) (st := []) vw_L_94 (m_X4_closedFor (q := q) N s23 o23 U23 sU23 oU23 A23 (R9) (by omega) B hF (by omega)) ([(qa113, arI cy 3 (ups (ups (ups (fun _ => 0) (0) (dO N true z85 z96)) (1) (dO N true z96 z107)) (2) (dO N true z85 z107)))]) (wS G cy qs rr tt N g) (List.append_assoc _ _ _) rfl (q0 := 0) rfl rfl rfl ⟨rfl, rfl, Nat.le_of_ble_eq_true rfl, Nat.le_of_ble_eq_true rfl⟩ ⟨(show k + 1 + 0 ≤ 600104 by omega), (show n + 3 + 0 ≤ 7301314 by omega)⟩ (Nat.le_of_ble_eq_true rfl) dL_law_396 (fun v w1 hp => ?_)
          obtain ⟨rfl, rfl⟩ := hp
          refine Teq (ws' := [(qa113, arI cy 3 (ups (ups (ups (fun _ => 0) (0) (dO N true z85 z96)) (1) (dO N true z96 z107)) (2) (dO N true z85 z107)))] ++ wD cy q N s23 o23 U23 sU23 oU23 A23 ++ wS G cy qs rr tt N g) (lv' := [(13, .int (enc (endF N R9 z85))), (12, .ref (rr (R9).toNat)), (11, .ref (qa113)), (10, .int (enc (z107))), (9, .int (enc (z96))), (8, .int (enc (z85))), (7, .int (enc (N 17 0))), (6, .int (enc (N 16 0))), (3, .int (enc (ti))), (2, .ref (qs 0)), (1, .ref (q 0)), (0, .ref (bs))]) (st' := [.int (enc (N 6 R9))]) (List.append_assoc _ _ _).symm rfl rfl ?_
          have b24 := hB 6 R9
          refine tw_if_gt (tgt := 430) X (In_of (by omega) (by omega)) dL_law_399 (by decide) (fun c399 => ?_) (fun c399 => ?_)
          · skip
            exact (show False by omega).elim
          · skip
            refine tw_aload_n X dL_law_402 10 rfl rfl ?_
            refine tw_iload X dL_law_403 0 rfl ?_
            refine tw_iload X dL_law_405 4 rfl ?_
            refine tw_callV X (As := [.int (enc (endF N R9 z85)), .int (enc (z96))]) (st := []) vw_L_85 (m_X4_openDistance (q := q) N s23 o23 U23 sU23 oU23 A23 (endF N R9 z85) (by omega) (z96) (by omega) B hF (by omega) hV23) ([(qa113, arI cy 3 (ups (ups (ups (fun _ => 0) (0) (dO N true z85 z96)) (1) (dO N true z96 z107)) (2) (dO N true z85 z107)))]) (wS G cy qs rr tt N g) (List.append_assoc _ _ _) rfl (q0 := 0) rfl rfl rfl ⟨rfl, rfl, Nat.le_of_ble_eq_true rfl, Nat.le_of_ble_eq_true rfl⟩ ⟨(show k + 1 + 0 ≤ 600104 by omega), (show n + 3 + 0 ≤ 7301314 by omega)⟩ (Nat.le_of_ble_eq_true rfl) dL_law_407 (fun v w1 hp => ?_)
            obtain ⟨rfl, s25, o25, U25, sU25, oU25, A25, hV25, rfl⟩ := hp
            have hdr := dO_rng hF.r (o := true) (a := endF N R9 z85) (b := z96) (by omega)
            refine Teq (ws' := [(qa113, arI cy 3 (ups (ups (ups (fun _ => 0) (0) (dO N true z85 z96)) (1) (dO N true z96 z107)) (2) (dO N true z85 z107)))] ++ wD cy q N s25 o25 U25 sU25 oU25 A25 ++ wS G cy qs rr tt N g) (lv' := [(13, .int (enc (endF N R9 z85))), (12, .ref (rr (R9).toNat)), (11, .ref (qa113)), (10, .int (enc (z107))), (9, .int (enc (z96))), (8, .int (enc (z85))), (7, .int (enc (N 17 0))), (6, .int (enc (N 16 0))), (3, .int (enc (ti))), (2, .ref (qs 0)), (1, .ref (q 0)), (0, .ref (bs))]) (st' := [.int (enc (dO N true (endF N R9 z85) z96))]) (List.append_assoc _ _ _).symm rfl rfl ?_
            refine tw_aload_n X dL_law_410 10 rfl rfl ?_
            refine tw_aload_n X dL_law_411 10 rfl rfl ?_
            refine tw_iload X dL_law_412 5 rfl ?_
            refine tw_iload X dL_law_414 4 rfl ?_
            refine tw_callV X (As := [.int (enc (z85)), .int (enc (z96))]) (st := [.ref (q 0), .int (enc (dO N true (endF N R9 z85) z96))]) vw_L_91 (m_X4_nextRoad (q := q) N s25 o25 U25 sU25 oU25 A25 (z85) (by omega) (z96) (by omega) B hF (by omega) hV25) ([(qa113, arI cy 3 (ups (ups (ups (fun _ => 0) (0) (dO N true z85 z96)) (1) (dO N true z96 z107)) (2) (dO N true z85 z107)))]) (wS G cy qs rr tt N g) (List.append_assoc _ _ _) rfl (q0 := 0) rfl rfl rfl ⟨rfl, rfl, Nat.le_of_ble_eq_true rfl, Nat.le_of_ble_eq_true rfl⟩ ⟨(show k + 1 + 0 ≤ 600104 by omega), (show n + 3 + 0 ≤ 7301314 by omega)⟩ (Nat.le_of_ble_eq_true rfl) dL_law_416 (fun v w1 hp => ?_)
            obtain ⟨rfl, s26, o26, U26, sU26, oU26, A26, hV26, rfl⟩ := hp
            refine Teq (ws' := [(qa113, arI cy 3 (ups (ups (ups (fun _ => 0) (0) (dO N true z85 z96)) (1) (dO N true z96 z107)) (2) (dO N true z85 z107)))] ++ wD cy q N s26 o26 U26 sU26 oU26 A26 ++ wS G cy qs rr tt N g) (lv' := [(13, .int (enc (endF N R9 z85))), (12, .ref (rr (R9).toNat)), (11, .ref (qa113)), (10, .int (enc (z107))), (9, .int (enc (z96))), (8, .int (enc (z85))), (7, .int (enc (N 17 0))), (6, .int (enc (N 16 0))), (3, .int (enc (ti))), (2, .ref (qs 0)), (1, .ref (q 0)), (0, .ref (bs))]) (st' := [.int (enc (if z85 = z96 then -1 else toward N z85 z96)), .ref (q 0), .int (enc (dO N true (endF N R9 z85) z96))]) (List.append_assoc _ _ _).symm rfl rfl ?_
            refine Tst (st' := [.int (enc (R9)), .ref (q 0), .int (enc (dO N true (endF N R9 z85) z96))]) (by rw [hRe]) ?_
            refine tw_callV X (As := [.int (enc (R9))]) (st := [.int (enc (dO N true (endF N R9 z85) z96))]) vw_L_97 (m_X4_lengthOf (q := q) N s26 o26 U26 sU26 oU26 A26 (R9) (by omega) B hF (by omega)) ([(qa113, arI cy 3 (ups (ups (ups (fun _ => 0) (0) (dO N true z85 z96)) (1) (dO N true z96 z107)) (2) (dO N true z85 z107)))]) (wS G cy qs rr tt N g) (List.append_assoc _ _ _) rfl (q0 := 0) rfl rfl rfl ⟨rfl, rfl, Nat.le_of_ble_eq_true rfl, Nat.le_of_ble_eq_true rfl⟩ ⟨(show k + 1 + 0 ≤ 600104 by omega), (show n + 3 + 0 ≤ 7301314 by omega)⟩ (Nat.le_of_ble_eq_true rfl) dL_law_419 (fun v w1 hp => ?_)
            obtain ⟨rfl, rfl⟩ := hp
            refine Teq (ws' := [(qa113, arI cy 3 (ups (ups (ups (fun _ => 0) (0) (dO N true z85 z96)) (1) (dO N true z96 z107)) (2) (dO N true z85 z107)))] ++ wD cy q N s26 o26 U26 sU26 oU26 A26 ++ wS G cy qs rr tt N g) (lv' := [(13, .int (enc (endF N R9 z85))), (12, .ref (rr (R9).toNat)), (11, .ref (qa113)), (10, .int (enc (z107))), (9, .int (enc (z96))), (8, .int (enc (z85))), (7, .int (enc (N 17 0))), (6, .int (enc (N 16 0))), (3, .int (enc (ti))), (2, .ref (qs 0)), (1, .ref (q 0)), (0, .ref (bs))]) (st' := [.int (enc (len N R9)), .int (enc (dO N true (endF N R9 z85) z96))]) (List.append_assoc _ _ _).symm rfl rfl ?_
            refine tw_iadd (z := (dO N true (endF N R9 z85) z96) + (len N R9)) X dL_law_422 rfl ?_
            refine tw_aload X dL_law_423 2 rfl ?_
            refine tw_iconst X dL_law_425 ?_
            refine tw_iald X (N := 3) (f := (ups (ups (ups (fun _ => 0) (0) (dO N true z85 z96)) (1) (dO N true z96 z107)) (2) (dO N true z85 z107))) 0 rfl (by decide) (by decide) dL_law_426 ?_
            refine Tst (st' := [.int (enc (dO N true z85 z96)), .int (enc ((dO N true (endF N R9 z85) z96) + (len N R9)))]) rfl ?_
            refine tw_icmp_eq (tgt := 432) X (In_of (by omega) (by omega)) (In_of (by omega) (by omega)) dL_law_427 (by decide) (fun c427 => ?_) (fun c427 => ?_)
            · skip
              refine Tgone2 ([]) (wD cy q N s26 o26 U26 sU26 oU26 A26) (wS G cy qs rr tt N g) ([(qa113, arI cy 3 (ups (ups (ups (fun _ => 0) (0) (dO N true z85 z96)) (1) (dO N true z96 z107)) (2) (dO N true z85 z107)))]) (ws' := wD cy q N s26 o26 U26 sU26 oU26 A26 ++ wS G cy qs rr tt N g) rfl rfl ?_
              refine Tsub (lv' := [(7, .int (enc (N 17 0))), (6, .int (enc (N 16 0))), (3, .int (enc (ti))), (2, .ref (qs 0)), (1, .ref (q 0)), (0, .ref (bs))]) [6, 7, 8, 9, 10, 11] rfl ?_
              exact kk s26 o26 U26 sU26 oU26 A26 hV26
            · skip
              exact (show False by omega).elim
        · skip
          refine tw_aload X dL_law_378 1 rfl ?_
          refine tw_iconst X dL_law_380 ?_
          refine sr_ldR X (g := g) (M := N) (r := R9) (v := N 1 R9) ([(qa113, arI cy 3 (ups (ups (ups (fun _ => 0) (0) (dO N true z85 z96)) (1) (dO N true z96 z107)) (2) (dO N true z85 z107)))] ++ wD cy q N s8 o8 U8 sU8 oU8 A8) rfl (by omega) (by decide) rfl dL_law_381 ?_
          have b27 := hB 1 R9
          refine tw_iload X dL_law_382 5 rfl ?_
          refine tw_icmp_ne (tgt := 430) X (In_of (by omega) (by omega)) (In_of (by omega) (by omega)) dL_law_384 (by decide) (fun c384 => ?_) (fun c384 => ?_)
          · skip
            exact (show False by omega).elim
          · skip
            refine tw_aload_n X dL_law_387 10 rfl rfl ?_
            refine tw_aload_n X dL_law_388 10 rfl rfl ?_
            refine tw_iload X dL_law_389 5 rfl ?_
            refine tw_iload X dL_law_391 4 rfl ?_
            refine tw_callV X (As := [.int (enc (z85)), .int (enc (z96))]) (st := [.ref (q 0)]) vw_L_91 (m_X4_nextRoad (q := q) N s8 o8 U8 sU8 oU8 A8 (z85) (by omega) (z96) (by omega) B hF (by omega) hV8) ([(qa113, arI cy 3 (ups (ups (ups (fun _ => 0) (0) (dO N true z85 z96)) (1) (dO N true z96 z107)) (2) (dO N true z85 z107)))]) (wS G cy qs rr tt N g) (List.append_assoc _ _ _) rfl (q0 := 0) rfl rfl rfl ⟨rfl, rfl, Nat.le_of_ble_eq_true rfl, Nat.le_of_ble_eq_true rfl⟩ ⟨(show k + 1 + 0 ≤ 600104 by omega), (show n + 3 + 0 ≤ 7301314 by omega)⟩ (Nat.le_of_ble_eq_true rfl) dL_law_393 (fun v w1 hp => ?_)
            obtain ⟨rfl, s28, o28, U28, sU28, oU28, A28, hV28, rfl⟩ := hp
            refine Teq (ws' := [(qa113, arI cy 3 (ups (ups (ups (fun _ => 0) (0) (dO N true z85 z96)) (1) (dO N true z96 z107)) (2) (dO N true z85 z107)))] ++ wD cy q N s28 o28 U28 sU28 oU28 A28 ++ wS G cy qs rr tt N g) (lv' := [(13, .int (enc (endF N R9 z85))), (12, .ref (rr (R9).toNat)), (11, .ref (qa113)), (10, .int (enc (z107))), (9, .int (enc (z96))), (8, .int (enc (z85))), (7, .int (enc (N 17 0))), (6, .int (enc (N 16 0))), (3, .int (enc (ti))), (2, .ref (qs 0)), (1, .ref (q 0)), (0, .ref (bs))]) (st' := [.int (enc (if z85 = z96 then -1 else toward N z85 z96)), .ref (q 0)]) (List.append_assoc _ _ _).symm rfl rfl ?_
            refine Tst (st' := [.int (enc (R9)), .ref (q 0)]) (by rw [hRe]) ?_
            refine tw_callV X (As := [.int (enc (R9))]) (st := []) vw_L_94 (m_X4_closedFor (q := q) N s28 o28 U28 sU28 oU28 A28 (R9) (by omega) B hF (by omega)) ([(qa113, arI cy 3 (ups (ups (ups (fun _ => 0) (0) (dO N true z85 z96)) (1) (dO N true z96 z107)) (2) (dO N true z85 z107)))]) (wS G cy qs rr tt N g) (List.append_assoc _ _ _) rfl (q0 := 0) rfl rfl rfl ⟨rfl, rfl, Nat.le_of_ble_eq_true rfl, Nat.le_of_ble_eq_true rfl⟩ ⟨(show k + 1 + 0 ≤ 600104 by omega), (show n + 3 + 0 ≤ 7301314 by omega)⟩ (Nat.le_of_ble_eq_true rfl) dL_law_396 (fun v w1 hp => ?_)
            obtain ⟨rfl, rfl⟩ := hp
            refine Teq (ws' := [(qa113, arI cy 3 (ups (ups (ups (fun _ => 0) (0) (dO N true z85 z96)) (1) (dO N true z96 z107)) (2) (dO N true z85 z107)))] ++ wD cy q N s28 o28 U28 sU28 oU28 A28 ++ wS G cy qs rr tt N g) (lv' := [(13, .int (enc (endF N R9 z85))), (12, .ref (rr (R9).toNat)), (11, .ref (qa113)), (10, .int (enc (z107))), (9, .int (enc (z96))), (8, .int (enc (z85))), (7, .int (enc (N 17 0))), (6, .int (enc (N 16 0))), (3, .int (enc (ti))), (2, .ref (qs 0)), (1, .ref (q 0)), (0, .ref (bs))]) (st' := [.int (enc (N 6 R9))]) (List.append_assoc _ _ _).symm rfl rfl ?_
            have b29 := hB 6 R9
            refine tw_if_gt (tgt := 430) X (In_of (by omega) (by omega)) dL_law_399 (by decide) (fun c399 => ?_) (fun c399 => ?_)
            · skip
              exact (show False by omega).elim
            · skip
              refine tw_aload_n X dL_law_402 10 rfl rfl ?_
              refine tw_iload X dL_law_403 0 rfl ?_
              refine tw_iload X dL_law_405 4 rfl ?_
              refine tw_callV X (As := [.int (enc (endF N R9 z85)), .int (enc (z96))]) (st := []) vw_L_85 (m_X4_openDistance (q := q) N s28 o28 U28 sU28 oU28 A28 (endF N R9 z85) (by omega) (z96) (by omega) B hF (by omega) hV28) ([(qa113, arI cy 3 (ups (ups (ups (fun _ => 0) (0) (dO N true z85 z96)) (1) (dO N true z96 z107)) (2) (dO N true z85 z107)))]) (wS G cy qs rr tt N g) (List.append_assoc _ _ _) rfl (q0 := 0) rfl rfl rfl ⟨rfl, rfl, Nat.le_of_ble_eq_true rfl, Nat.le_of_ble_eq_true rfl⟩ ⟨(show k + 1 + 0 ≤ 600104 by omega), (show n + 3 + 0 ≤ 7301314 by omega)⟩ (Nat.le_of_ble_eq_true rfl) dL_law_407 (fun v w1 hp => ?_)
              obtain ⟨rfl, s30, o30, U30, sU30, oU30, A30, hV30, rfl⟩ := hp
              have hdr := dO_rng hF.r (o := true) (a := endF N R9 z85) (b := z96) (by omega)
              refine Teq (ws' := [(qa113, arI cy 3 (ups (ups (ups (fun _ => 0) (0) (dO N true z85 z96)) (1) (dO N true z96 z107)) (2) (dO N true z85 z107)))] ++ wD cy q N s30 o30 U30 sU30 oU30 A30 ++ wS G cy qs rr tt N g) (lv' := [(13, .int (enc (endF N R9 z85))), (12, .ref (rr (R9).toNat)), (11, .ref (qa113)), (10, .int (enc (z107))), (9, .int (enc (z96))), (8, .int (enc (z85))), (7, .int (enc (N 17 0))), (6, .int (enc (N 16 0))), (3, .int (enc (ti))), (2, .ref (qs 0)), (1, .ref (q 0)), (0, .ref (bs))]) (st' := [.int (enc (dO N true (endF N R9 z85) z96))]) (List.append_assoc _ _ _).symm rfl rfl ?_
              refine tw_aload_n X dL_law_410 10 rfl rfl ?_
              refine tw_aload_n X dL_law_411 10 rfl rfl ?_
              refine tw_iload X dL_law_412 5 rfl ?_
              refine tw_iload X dL_law_414 4 rfl ?_
              refine tw_callV X (As := [.int (enc (z85)), .int (enc (z96))]) (st := [.ref (q 0), .int (enc (dO N true (endF N R9 z85) z96))]) vw_L_91 (m_X4_nextRoad (q := q) N s30 o30 U30 sU30 oU30 A30 (z85) (by omega) (z96) (by omega) B hF (by omega) hV30) ([(qa113, arI cy 3 (ups (ups (ups (fun _ => 0) (0) (dO N true z85 z96)) (1) (dO N true z96 z107)) (2) (dO N true z85 z107)))]) (wS G cy qs rr tt N g) (List.append_assoc _ _ _) rfl (q0 := 0) rfl rfl rfl ⟨rfl, rfl, Nat.le_of_ble_eq_true rfl, Nat.le_of_ble_eq_true rfl⟩ ⟨(show k + 1 + 0 ≤ 600104 by omega), (show n + 3 + 0 ≤ 7301314 by omega)⟩ (Nat.le_of_ble_eq_true rfl) dL_law_416 (fun v w1 hp => ?_)
              obtain ⟨rfl, s31, o31, U31, sU31, oU31, A31, hV31, rfl⟩ := hp
              refine Teq (ws' := [(qa113, arI cy 3 (ups (ups (ups (fun _ => 0) (0) (dO N true z85 z96)) (1) (dO N true z96 z107)) (2) (dO N true z85 z107)))] ++ wD cy q N s31 o31 U31 sU31 oU31 A31 ++ wS G cy qs rr tt N g) (lv' := [(13, .int (enc (endF N R9 z85))), (12, .ref (rr (R9).toNat)), (11, .ref (qa113)), (10, .int (enc (z107))), (9, .int (enc (z96))), (8, .int (enc (z85))), (7, .int (enc (N 17 0))), (6, .int (enc (N 16 0))), (3, .int (enc (ti))), (2, .ref (qs 0)), (1, .ref (q 0)), (0, .ref (bs))]) (st' := [.int (enc (if z85 = z96 then -1 else toward N z85 z96)), .ref (q 0), .int (enc (dO N true (endF N R9 z85) z96))]) (List.append_assoc _ _ _).symm rfl rfl ?_
              refine Tst (st' := [.int (enc (R9)), .ref (q 0), .int (enc (dO N true (endF N R9 z85) z96))]) (by rw [hRe]) ?_
              refine tw_callV X (As := [.int (enc (R9))]) (st := [.int (enc (dO N true (endF N R9 z85) z96))]) vw_L_97 (m_X4_lengthOf (q := q) N s31 o31 U31 sU31 oU31 A31 (R9) (by omega) B hF (by omega)) ([(qa113, arI cy 3 (ups (ups (ups (fun _ => 0) (0) (dO N true z85 z96)) (1) (dO N true z96 z107)) (2) (dO N true z85 z107)))]) (wS G cy qs rr tt N g) (List.append_assoc _ _ _) rfl (q0 := 0) rfl rfl rfl ⟨rfl, rfl, Nat.le_of_ble_eq_true rfl, Nat.le_of_ble_eq_true rfl⟩ ⟨(show k + 1 + 0 ≤ 600104 by omega), (show n + 3 + 0 ≤ 7301314 by omega)⟩ (Nat.le_of_ble_eq_true rfl) dL_law_419 (fun v w1 hp => ?_)
              obtain ⟨rfl, rfl⟩ := hp
              refine Teq (ws' := [(qa113, arI cy 3 (ups (ups (ups (fun _ => 0) (0) (dO N true z85 z96)) (1) (dO N true z96 z107)) (2) (dO N true z85 z107)))] ++ wD cy q N s31 o31 U31 sU31 oU31 A31 ++ wS G cy qs rr tt N g) (lv' := [(13, .int (enc (endF N R9 z85))), (12, .ref (rr (R9).toNat)), (11, .ref (qa113)), (10, .int (enc (z107))), (9, .int (enc (z96))), (8, .int (enc (z85))), (7, .int (enc (N 17 0))), (6, .int (enc (N 16 0))), (3, .int (enc (ti))), (2, .ref (qs 0)), (1, .ref (q 0)), (0, .ref (bs))]) (st' := [.int (enc (len N R9)), .int (enc (dO N true (endF N R9 z85) z96))]) (List.append_assoc _ _ _).symm rfl rfl ?_
              refine tw_iadd (z := (dO N true (endF N R9 z85) z96) + (len N R9)) X dL_law_422 rfl ?_
              refine tw_aload X dL_law_423 2 rfl ?_
              refine tw_iconst X dL_law_425 ?_
              refine tw_iald X (N := 3) (f := (ups (ups (ups (fun _ => 0) (0) (dO N true z85 z96)) (1) (dO N true z96 z107)) (2) (dO N true z85 z107))) 0 rfl (by decide) (by decide) dL_law_426 ?_
              refine Tst (st' := [.int (enc (dO N true z85 z96)), .int (enc ((dO N true (endF N R9 z85) z96) + (len N R9)))]) rfl ?_
              refine tw_icmp_eq (tgt := 432) X (In_of (by omega) (by omega)) (In_of (by omega) (by omega)) dL_law_427 (by decide) (fun c427 => ?_) (fun c427 => ?_)
              · skip
                refine Tgone2 ([]) (wD cy q N s31 o31 U31 sU31 oU31 A31) (wS G cy qs rr tt N g) ([(qa113, arI cy 3 (ups (ups (ups (fun _ => 0) (0) (dO N true z85 z96)) (1) (dO N true z96 z107)) (2) (dO N true z85 z107)))]) (ws' := wD cy q N s31 o31 U31 sU31 oU31 A31 ++ wS G cy qs rr tt N g) rfl rfl ?_
                refine Tsub (lv' := [(7, .int (enc (N 17 0))), (6, .int (enc (N 16 0))), (3, .int (enc (ti))), (2, .ref (qs 0)), (1, .ref (q 0)), (0, .ref (bs))]) [6, 7, 8, 9, 10, 11] rfl ?_
                exact kk s31 o31 U31 sU31 oU31 A31 hV31
              · skip
                exact (show False by omega).elim
  have J281 : ∀ (s9 : Int → Int) (o9 : Int) (U9 : MT) (sU9 : Int → Int) (oU9 : Int) (A9 : Int → Int), WVo N s9 o9 → T G c room_1 31 (k + 1) (n + 3) ([(qa113, arI cy 3 (ups (ups (ups (fun _ => 0) (0) (dO N true z85 z96)) (1) (dO N true z96 z107)) (2) (dO N true z85 z107)))] ++ wD cy q N s9 o9 U9 sU9 oU9 A9 ++ wS G cy qs rr tt N g) 281 [(11, .ref (qa113)), (10, .int (enc (z107))), (9, .int (enc (z96))), (8, .int (enc (z85))), (7, .int (enc (N 17 0))), (6, .int (enc (N 16 0))), (3, .int (enc (ti))), (2, .ref (qs 0)), (1, .ref (q 0)), (0, .ref (bs))] [] := by
    intro s9 o9 U9 sU9 oU9 A9 hV9
    refine tw_aload_n X dL_law_281 8 rfl rfl ?_
    refine tw_iload X dL_law_282 3 rfl ?_
    refine tw_iload X dL_law_284 2 rfl ?_
    refine tw_callV X (As := [.int (enc (z85)), .int (enc (z96))]) (st := []) vw_L_91 (m_X4_nextRoad (q := q) N s9 o9 U9 sU9 oU9 A9 (z85) (by omega) (z96) (by omega) B hF (by omega) hV9) ([(qa113, arI cy 3 (ups (ups (ups (fun _ => 0) (0) (dO N true z85 z96)) (1) (dO N true z96 z107)) (2) (dO N true z85 z107)))]) (wS G cy qs rr tt N g) (List.append_assoc _ _ _) rfl (q0 := 0) rfl rfl rfl ⟨rfl, rfl, Nat.le_of_ble_eq_true rfl, Nat.le_of_ble_eq_true rfl⟩ ⟨(show k + 1 + 0 ≤ 600104 by omega), (show n + 3 + 0 ≤ 7301314 by omega)⟩ (Nat.le_of_ble_eq_true rfl) dL_law_286 (fun v w1 hp => ?_)
    obtain ⟨rfl, s32, o32, U32, sU32, oU32, A32, hV32, rfl⟩ := hp
    refine Teq (ws' := [(qa113, arI cy 3 (ups (ups (ups (fun _ => 0) (0) (dO N true z85 z96)) (1) (dO N true z96 z107)) (2) (dO N true z85 z107)))] ++ wD cy q N s32 o32 U32 sU32 oU32 A32 ++ wS G cy qs rr tt N g) (lv' := [(11, .ref (qa113)), (10, .int (enc (z107))), (9, .int (enc (z96))), (8, .int (enc (z85))), (7, .int (enc (N 17 0))), (6, .int (enc (N 16 0))), (3, .int (enc (ti))), (2, .ref (qs 0)), (1, .ref (q 0)), (0, .ref (bs))]) (st' := [.int (enc (if z85 = z96 then -1 else toward N z85 z96))]) (List.append_assoc _ _ _).symm rfl rfl ?_
    refine Tst (st' := [.int (enc (R9))]) (by rw [hRe]) ?_
    refine tw_if_lt (tgt := 296) X (In_of (by omega) (by omega)) dL_law_289 (by decide) (fun c289 => ?_) (fun c289 => ?_)
    · skip
      refine tw_iconst X dL_law_296 ?_
      refine tw_iload X dL_law_297 3 rfl ?_
      refine tw_iload X dL_law_299 2 rfl ?_
      refine tw_icmp_eq (tgt := 315) X (In_of (by omega) (by omega)) (In_of (by omega) (by omega)) dL_law_301 (by decide) (fun c301 => ?_) (fun c301 => ?_)
      · skip
        refine tw_iconst X dL_law_315 ?_
        refine tw_icmp_eq (tgt := 321) X (In_of (by omega) (by omega)) (In_of (by omega) (by omega)) dL_law_316 (by decide) (fun c316 => ?_) (fun c316 => ?_)
        · skip
          refine Tsub (lv' := [(11, .ref (qa113)), (10, .int (enc (z107))), (9, .int (enc (z96))), (8, .int (enc (z85))), (7, .int (enc (N 17 0))), (6, .int (enc (N 16 0))), (3, .int (enc (ti))), (2, .ref (qs 0)), (1, .ref (q 0)), (0, .ref (bs))]) [0, 1, 2, 3, 4, 5, 6, 7, 8, 9] rfl ?_
          exact J321 s32 o32 U32 sU32 oU32 A32 hV32
        · skip
          exact (show False by omega).elim
      · skip
        refine tw_aload X dL_law_304 0 rfl ?_
        refine tw_iconst X dL_law_306 ?_
        refine tw_iald X (N := 3) (f := (ups (ups (ups (fun _ => 0) (0) (dO N true z85 z96)) (1) (dO N true z96 z107)) (2) (dO N true z85 z107))) 0 rfl (by decide) (by decide) dL_law_307 ?_
        refine Tst (st' := [.int (enc (dO N true z85 z96)), .int (enc (0))]) rfl ?_
        refine tw_if_lt (tgt := 315) X (In_of (by omega) (by omega)) dL_law_308 (by decide) (fun c308 => ?_) (fun c308 => ?_)
        · skip
          refine tw_iconst X dL_law_315 ?_
          refine tw_icmp_eq (tgt := 321) X (In_of (by omega) (by omega)) (In_of (by omega) (by omega)) dL_law_316 (by decide) (fun c316 => ?_) (fun c316 => ?_)
          · skip
            refine Tsub (lv' := [(11, .ref (qa113)), (10, .int (enc (z107))), (9, .int (enc (z96))), (8, .int (enc (z85))), (7, .int (enc (N 17 0))), (6, .int (enc (N 16 0))), (3, .int (enc (ti))), (2, .ref (qs 0)), (1, .ref (q 0)), (0, .ref (bs))]) [0, 1, 2, 3, 4, 5, 6, 7, 8, 9] rfl ?_
            exact J321 s32 o32 U32 sU32 oU32 A32 hV32
          · skip
            exact (show False by omega).elim
        · skip
          refine tw_iconst X dL_law_311 ?_
          refine tw_goto (tgt := 316) X dL_law_312 (by decide) ?_
          refine tw_icmp_eq (tgt := 321) X (In_of (by omega) (by omega)) (In_of (by omega) (by omega)) dL_law_316 (by decide) (fun c316 => ?_) (fun c316 => ?_)
          · skip
            refine Tsub (lv' := [(11, .ref (qa113)), (10, .int (enc (z107))), (9, .int (enc (z96))), (8, .int (enc (z85))), (7, .int (enc (N 17 0))), (6, .int (enc (N 16 0))), (3, .int (enc (ti))), (2, .ref (qs 0)), (1, .ref (q 0)), (0, .ref (bs))]) [0, 1, 2, 3, 4, 5, 6, 7, 8, 9] rfl ?_
            exact J321 s32 o32 U32 sU32 oU32 A32 hV32
          · skip
            exact (show False by omega).elim
    · skip
      refine tw_iconst X dL_law_292 ?_
      refine tw_goto (tgt := 297) X dL_law_293 (by decide) ?_
      refine tw_iload X dL_law_297 3 rfl ?_
      refine tw_iload X dL_law_299 2 rfl ?_
      refine tw_icmp_eq (tgt := 315) X (In_of (by omega) (by omega)) (In_of (by omega) (by omega)) dL_law_301 (by decide) (fun c301 => ?_) (fun c301 => ?_)
      · skip
        refine tw_iconst X dL_law_315 ?_
        refine tw_icmp_eq (tgt := 321) X (In_of (by omega) (by omega)) (In_of (by omega) (by omega)) dL_law_316 (by decide) (fun c316 => ?_) (fun c316 => ?_)
        · skip
          refine Tsub (lv' := [(11, .ref (qa113)), (10, .int (enc (z107))), (9, .int (enc (z96))), (8, .int (enc (z85))), (7, .int (enc (N 17 0))), (6, .int (enc (N 16 0))), (3, .int (enc (ti))), (2, .ref (qs 0)), (1, .ref (q 0)), (0, .ref (bs))]) [0, 1, 2, 3, 4, 5, 6, 7, 8, 9] rfl ?_
          exact J321 s32 o32 U32 sU32 oU32 A32 hV32
        · skip
          exact (show False by omega).elim
      · skip
        refine tw_aload X dL_law_304 0 rfl ?_
        refine tw_iconst X dL_law_306 ?_
        refine tw_iald X (N := 3) (f := (ups (ups (ups (fun _ => 0) (0) (dO N true z85 z96)) (1) (dO N true z96 z107)) (2) (dO N true z85 z107))) 0 rfl (by decide) (by decide) dL_law_307 ?_
        refine Tst (st' := [.int (enc (dO N true z85 z96)), .int (enc (1))]) rfl ?_
        refine tw_if_lt (tgt := 315) X (In_of (by omega) (by omega)) dL_law_308 (by decide) (fun c308 => ?_) (fun c308 => ?_)
        · skip
          refine tw_iconst X dL_law_315 ?_
          refine tw_icmp_eq (tgt := 321) X (In_of (by omega) (by omega)) (In_of (by omega) (by omega)) dL_law_316 (by decide) (fun c316 => ?_) (fun c316 => ?_)
          · skip
            refine Tsub (lv' := [(11, .ref (qa113)), (10, .int (enc (z107))), (9, .int (enc (z96))), (8, .int (enc (z85))), (7, .int (enc (N 17 0))), (6, .int (enc (N 16 0))), (3, .int (enc (ti))), (2, .ref (qs 0)), (1, .ref (q 0)), (0, .ref (bs))]) [0, 1, 2, 3, 4, 5, 6, 7, 8, 9] rfl ?_
            exact J321 s32 o32 U32 sU32 oU32 A32 hV32
          · skip
            exact (show False by omega).elim
        · skip
          refine tw_iconst X dL_law_311 ?_
          refine tw_goto (tgt := 316) X dL_law_312 (by decide) ?_
          refine tw_icmp_eq (tgt := 321) X (In_of (by omega) (by omega)) (In_of (by omega) (by omega)) dL_law_316 (by decide) (fun c316 => ?_) (fun c316 => ?_)
          · skip
            refine Tsub (lv' := [(11, .ref (qa113)), (10, .int (enc (z107))), (9, .int (enc (z96))), (8, .int (enc (z85))), (7, .int (enc (N 17 0))), (6, .int (enc (N 16 0))), (3, .int (enc (ti))), (2, .ref (qs 0)), (1, .ref (q 0)), (0, .ref (bs))]) [0, 1, 2, 3, 4, 5, 6, 7, 8, 9] rfl ?_
            exact J321 s32 o32 U32 sU32 oU32 A32 hV32
          · skip
            exact (show False by omega).elim
  have J244 : ∀ (s9 : Int → Int) (o9 : Int) (U9 : MT) (sU9 : Int → Int) (oU9 : Int) (A9 : Int → Int), WVo N s9 o9 → T G c room_1 31 (k + 1) (n + 3) ([(qa113, arI cy 3 (ups (ups (ups (fun _ => 0) (0) (dO N true z85 z96)) (1) (dO N true z96 z107)) (2) (dO N true z85 z107)))] ++ wD cy q N s9 o9 U9 sU9 oU9 A9 ++ wS G cy qs rr tt N g) 244 [(11, .ref (qa113)), (10, .int (enc (z107))), (9, .int (enc (z96))), (8, .int (enc (z85))), (7, .int (enc (N 17 0))), (6, .int (enc (N 16 0))), (3, .int (enc (ti))), (2, .ref (qs 0)), (1, .ref (q 0)), (0, .ref (bs))] [] := by
    intro s9 o9 U9 sU9 oU9 A9 hV9
    refine tw_aload X dL_law_244 0 rfl ?_
    refine tw_iconst X dL_law_246 ?_
    refine tw_iald X (N := 3) (f := (ups (ups (ups (fun _ => 0) (0) (dO N true z85 z96)) (1) (dO N true z96 z107)) (2) (dO N true z85 z107))) 0 rfl (by decide) (by decide) dL_law_247 ?_
    refine Tst (st' := [.int (enc (dO N true z85 z96))]) rfl ?_
    refine tw_if_lt (tgt := 281) X (In_of (by omega) (by omega)) dL_law_248 (by decide) (fun c248 => ?_) (fun c248 => ?_)
    · skip
      refine Tsub (lv' := [(11, .ref (qa113)), (10, .int (enc (z107))), (9, .int (enc (z96))), (8, .int (enc (z85))), (7, .int (enc (N 17 0))), (6, .int (enc (N 16 0))), (3, .int (enc (ti))), (2, .ref (qs 0)), (1, .ref (q 0)), (0, .ref (bs))]) [0, 1, 2, 3, 4, 5, 6, 7, 8, 9] rfl ?_
      exact J281 s9 o9 U9 sU9 oU9 A9 hV9
    · skip
      refine tw_aload X dL_law_251 0 rfl ?_
      refine tw_iconst X dL_law_253 ?_
      refine tw_iald X (N := 3) (f := (ups (ups (ups (fun _ => 0) (0) (dO N true z85 z96)) (1) (dO N true z96 z107)) (2) (dO N true z85 z107))) 0 rfl (by decide) (by decide) dL_law_254 ?_
      refine Tst (st' := [.int (enc (dO N true z96 z107))]) rfl ?_
      refine tw_if_lt (tgt := 281) X (In_of (by omega) (by omega)) dL_law_255 (by decide) (fun c255 => ?_) (fun c255 => ?_)
      · skip
        refine Tsub (lv' := [(11, .ref (qa113)), (10, .int (enc (z107))), (9, .int (enc (z96))), (8, .int (enc (z85))), (7, .int (enc (N 17 0))), (6, .int (enc (N 16 0))), (3, .int (enc (ti))), (2, .ref (qs 0)), (1, .ref (q 0)), (0, .ref (bs))]) [0, 1, 2, 3, 4, 5, 6, 7, 8, 9] rfl ?_
        exact J281 s9 o9 U9 sU9 oU9 A9 hV9
      · skip
        refine tw_aload X dL_law_258 0 rfl ?_
        refine tw_iconst X dL_law_260 ?_
        refine tw_iald X (N := 3) (f := (ups (ups (ups (fun _ => 0) (0) (dO N true z85 z96)) (1) (dO N true z96 z107)) (2) (dO N true z85 z107))) 0 rfl (by decide) (by decide) dL_law_261 ?_
        refine Tst (st' := [.int (enc (dO N true z85 z107))]) rfl ?_
        refine tw_if_lt (tgt := 319) X (In_of (by omega) (by omega)) dL_law_262 (by decide) (fun c262 => ?_) (fun c262 => ?_)
        · skip
          exact (show False by omega).elim
        · skip
          refine tw_aload X dL_law_265 0 rfl ?_
          refine tw_iconst X dL_law_267 ?_
          refine tw_iald X (N := 3) (f := (ups (ups (ups (fun _ => 0) (0) (dO N true z85 z96)) (1) (dO N true z96 z107)) (2) (dO N true z85 z107))) 0 rfl (by decide) (by decide) dL_law_268 ?_
          refine Tst (st' := [.int (enc (dO N true z85 z107))]) rfl ?_
          refine tw_aload X dL_law_269 0 rfl ?_
          refine tw_iconst X dL_law_271 ?_
          refine tw_iald X (N := 3) (f := (ups (ups (ups (fun _ => 0) (0) (dO N true z85 z96)) (1) (dO N true z96 z107)) (2) (dO N true z85 z107))) 0 rfl (by decide) (by decide) dL_law_272 ?_
          refine Tst (st' := [.int (enc (dO N true z85 z96)), .int (enc (dO N true z85 z107))]) rfl ?_
          refine tw_aload X dL_law_273 0 rfl ?_
          refine tw_iconst X dL_law_275 ?_
          refine tw_iald X (N := 3) (f := (ups (ups (ups (fun _ => 0) (0) (dO N true z85 z96)) (1) (dO N true z96 z107)) (2) (dO N true z85 z107))) 0 rfl (by decide) (by decide) dL_law_276 ?_
          refine Tst (st' := [.int (enc (dO N true z96 z107)), .int (enc (dO N true z85 z96)), .int (enc (dO N true z85 z107))]) rfl ?_
          refine tw_iadd (z := (dO N true z85 z96) + (dO N true z96 z107)) X dL_law_277 rfl ?_
          refine tw_icmp_gt (tgt := 319) X (In_of (by omega) (by omega)) (In_of (by omega) (by omega)) dL_law_278 (by decide) (fun c278 => ?_) (fun c278 => ?_)
          · skip
            exact (show False by omega).elim
          · skip
            refine Tsub (lv' := [(11, .ref (qa113)), (10, .int (enc (z107))), (9, .int (enc (z96))), (8, .int (enc (z85))), (7, .int (enc (N 17 0))), (6, .int (enc (N 16 0))), (3, .int (enc (ti))), (2, .ref (qs 0)), (1, .ref (q 0)), (0, .ref (bs))]) [0, 1, 2, 3, 4, 5, 6, 7, 8, 9] rfl ?_
            exact J281 s9 o9 U9 sU9 oU9 A9 hV9
  have J211 : ∀ (s9 : Int → Int) (o9 : Int) (U9 : MT) (sU9 : Int → Int) (oU9 : Int) (A9 : Int → Int), WVo N s9 o9 → T G c room_1 31 (k + 1) (n + 3) ([(qa113, arI cy 3 (ups (ups (ups (fun _ => 0) (0) (dO N true z85 z96)) (1) (dO N true z96 z107)) (2) (dO N true z85 z107)))] ++ wD cy q N s9 o9 U9 sU9 oU9 A9 ++ wS G cy qs rr tt N g) 211 [(11, .ref (qa113)), (10, .int (enc (z107))), (9, .int (enc (z96))), (8, .int (enc (z85))), (7, .int (enc (N 17 0))), (6, .int (enc (N 16 0))), (3, .int (enc (ti))), (2, .ref (qs 0)), (1, .ref (q 0)), (0, .ref (bs))] [] := by
    intro s9 o9 U9 sU9 oU9 A9 hV9
    refine tw_aload X dL_law_211 0 rfl ?_
    refine tw_iconst X dL_law_213 ?_
    refine tw_iald X (N := 3) (f := (ups (ups (ups (fun _ => 0) (0) (dO N true z85 z96)) (1) (dO N true z96 z107)) (2) (dO N true z85 z107))) 0 rfl (by decide) (by decide) dL_law_214 ?_
    refine Tst (st' := [.int (enc (dO N true z85 z96))]) rfl ?_
    refine tw_if_lt (tgt := 244) X (In_of (by omega) (by omega)) dL_law_215 (by decide) (fun c215 => ?_) (fun c215 => ?_)
    · skip
      refine Tsub (lv' := [(11, .ref (qa113)), (10, .int (enc (z107))), (9, .int (enc (z96))), (8, .int (enc (z85))), (7, .int (enc (N 17 0))), (6, .int (enc (N 16 0))), (3, .int (enc (ti))), (2, .ref (qs 0)), (1, .ref (q 0)), (0, .ref (bs))]) [0, 1, 2, 3, 4, 5, 6, 7, 8, 9] rfl ?_
      exact J244 s9 o9 U9 sU9 oU9 A9 hV9
    · skip
      refine tw_aload_n X dL_law_218 8 rfl rfl ?_
      refine tw_iload X dL_law_219 3 rfl ?_
      refine tw_iload X dL_law_221 2 rfl ?_
      refine tw_callV X (As := [.int (enc (z85)), .int (enc (z96))]) (st := []) vw_L_88 (m_X4_distance (q := q) N s9 o9 U9 sU9 oU9 A9 (z85) (by omega) (z96) (by omega) B hF (by omega) hV9) ([(qa113, arI cy 3 (ups (ups (ups (fun _ => 0) (0) (dO N true z85 z96)) (1) (dO N true z96 z107)) (2) (dO N true z85 z107)))]) (wS G cy qs rr tt N g) (List.append_assoc _ _ _) rfl (q0 := 0) rfl rfl rfl ⟨rfl, rfl, Nat.le_of_ble_eq_true rfl, Nat.le_of_ble_eq_true rfl⟩ ⟨(show k + 1 + 0 ≤ 600104 by omega), (show n + 3 + 0 ≤ 7301314 by omega)⟩ (Nat.le_of_ble_eq_true rfl) dL_law_223 (fun v w1 hp => ?_)
      obtain ⟨rfl, s33, o33, U33, sU33, oU33, A33, hV33, rfl⟩ := hp
      have hdr := dO_rng hF.r (o := false) (a := z85) (b := z96) (by omega)
      refine Teq (ws' := [(qa113, arI cy 3 (ups (ups (ups (fun _ => 0) (0) (dO N true z85 z96)) (1) (dO N true z96 z107)) (2) (dO N true z85 z107)))] ++ wD cy q N s33 o33 U33 sU33 oU33 A33 ++ wS G cy qs rr tt N g) (lv' := [(11, .ref (qa113)), (10, .int (enc (z107))), (9, .int (enc (z96))), (8, .int (enc (z85))), (7, .int (enc (N 17 0))), (6, .int (enc (N 16 0))), (3, .int (enc (ti))), (2, .ref (qs 0)), (1, .ref (q 0)), (0, .ref (bs))]) (st' := [.int (enc (dO N false z85 z96))]) (List.append_assoc _ _ _).symm rfl rfl ?_
      refine tw_if_lt (tgt := 319) X (In_of (by omega) (by omega)) dL_law_226 (by decide) (fun c226 => ?_) (fun c226 => ?_)
      · skip
        exact (show False by omega).elim
      · skip
        refine tw_aload_n X dL_law_229 8 rfl rfl ?_
        refine tw_iload X dL_law_230 3 rfl ?_
        refine tw_iload X dL_law_232 2 rfl ?_
        refine tw_callV X (As := [.int (enc (z85)), .int (enc (z96))]) (st := []) vw_L_88 (m_X4_distance (q := q) N s33 o33 U33 sU33 oU33 A33 (z85) (by omega) (z96) (by omega) B hF (by omega) hV33) ([(qa113, arI cy 3 (ups (ups (ups (fun _ => 0) (0) (dO N true z85 z96)) (1) (dO N true z96 z107)) (2) (dO N true z85 z107)))]) (wS G cy qs rr tt N g) (List.append_assoc _ _ _) rfl (q0 := 0) rfl rfl rfl ⟨rfl, rfl, Nat.le_of_ble_eq_true rfl, Nat.le_of_ble_eq_true rfl⟩ ⟨(show k + 1 + 0 ≤ 600104 by omega), (show n + 3 + 0 ≤ 7301314 by omega)⟩ (Nat.le_of_ble_eq_true rfl) dL_law_234 (fun v w1 hp => ?_)
        obtain ⟨rfl, s34, o34, U34, sU34, oU34, A34, hV34, rfl⟩ := hp
        have hdr := dO_rng hF.r (o := false) (a := z85) (b := z96) (by omega)
        refine Teq (ws' := [(qa113, arI cy 3 (ups (ups (ups (fun _ => 0) (0) (dO N true z85 z96)) (1) (dO N true z96 z107)) (2) (dO N true z85 z107)))] ++ wD cy q N s34 o34 U34 sU34 oU34 A34 ++ wS G cy qs rr tt N g) (lv' := [(11, .ref (qa113)), (10, .int (enc (z107))), (9, .int (enc (z96))), (8, .int (enc (z85))), (7, .int (enc (N 17 0))), (6, .int (enc (N 16 0))), (3, .int (enc (ti))), (2, .ref (qs 0)), (1, .ref (q 0)), (0, .ref (bs))]) (st' := [.int (enc (dO N false z85 z96))]) (List.append_assoc _ _ _).symm rfl rfl ?_
        refine tw_aload X dL_law_237 0 rfl ?_
        refine tw_iconst X dL_law_239 ?_
        refine tw_iald X (N := 3) (f := (ups (ups (ups (fun _ => 0) (0) (dO N true z85 z96)) (1) (dO N true z96 z107)) (2) (dO N true z85 z107))) 0 rfl (by decide) (by decide) dL_law_240 ?_
        refine Tst (st' := [.int (enc (dO N true z85 z96)), .int (enc (dO N false z85 z96))]) rfl ?_
        refine tw_icmp_gt (tgt := 319) X (In_of (by omega) (by omega)) (In_of (by omega) (by omega)) dL_law_241 (by decide) (fun c241 => ?_) (fun c241 => ?_)
        · skip
          exact (show False by omega).elim
        · skip
          refine Tsub (lv' := [(11, .ref (qa113)), (10, .int (enc (z107))), (9, .int (enc (z96))), (8, .int (enc (z85))), (7, .int (enc (N 17 0))), (6, .int (enc (N 16 0))), (3, .int (enc (ti))), (2, .ref (qs 0)), (1, .ref (q 0)), (0, .ref (bs))]) [0, 1, 2, 3, 4, 5, 6, 7, 8, 9] rfl ?_
          exact J244 s34 o34 U34 sU34 oU34 A34 hV34
  refine tw_aload_n X dL_law_150 10 rfl rfl ?_
  refine tw_iload X dL_law_151 2 rfl ?_
  refine tw_iload X dL_law_153 3 rfl ?_
  refine tw_callV X (As := [.int (enc (z96)), .int (enc (z85))]) (st := []) vw_L_85 (m_X4_openDistance (q := q) N s6 o6 U6 sU6 oU6 A6 (z96) (by omega) (z85) (by omega) B hF (by omega) hV6) ([(qa113, arI cy 3 (ups (ups (ups (fun _ => 0) (0) (dO N true z85 z96)) (1) (dO N true z96 z107)) (2) (dO N true z85 z107)))]) (wS G cy qs rr tt N g) (List.append_assoc _ _ _) rfl (q0 := 0) rfl rfl rfl ⟨rfl, rfl, Nat.le_of_ble_eq_true rfl, Nat.le_of_ble_eq_true rfl⟩ ⟨(show k + 1 + 0 ≤ 600104 by omega), (show n + 3 + 0 ≤ 7301314 by omega)⟩ (Nat.le_of_ble_eq_true rfl) dL_law_155 (fun v w1 hp => ?_)
  obtain ⟨rfl, s35, o35, U35, sU35, oU35, A35, hV35, rfl⟩ := hp
  have hdr := dO_rng hF.r (o := true) (a := z96) (b := z85) (by omega)
  refine Teq (ws' := [(qa113, arI cy 3 (ups (ups (ups (fun _ => 0) (0) (dO N true z85 z96)) (1) (dO N true z96 z107)) (2) (dO N true z85 z107)))] ++ wD cy q N s35 o35 U35 sU35 oU35 A35 ++ wS G cy qs rr tt N g) (lv' := [(11, .ref (qa113)), (10, .int (enc (z107))), (9, .int (enc (z96))), (8, .int (enc (z85))), (7, .int (enc (N 17 0))), (6, .int (enc (N 16 0))), (5, .int (enc (N 19 0))), (4, .int (enc (x4))), (3, .int (enc (ti))), (2, .ref (qs 0)), (1, .ref (q 0)), (0, .ref (bs))]) (st' := [.int (enc (dO N true z96 z85))]) (List.append_assoc _ _ _).symm rfl rfl ?_
  refine tw_aload X dL_law_158 0 rfl ?_
  refine tw_iconst X dL_law_160 ?_
  refine tw_iald X (N := 3) (f := (ups (ups (ups (fun _ => 0) (0) (dO N true z85 z96)) (1) (dO N true z96 z107)) (2) (dO N true z85 z107))) 0 rfl (by decide) (by decide) dL_law_161 ?_
  refine Tst (st' := [.int (enc (dO N true z85 z96)), .int (enc (dO N true z96 z85))]) rfl ?_
  refine tw_icmp_ne (tgt := 319) X (In_of (by omega) (by omega)) (In_of (by omega) (by omega)) dL_law_162 (by decide) (fun c162 => ?_) (fun c162 => ?_)
  · skip
    exact (show False by omega).elim
  · skip
    refine tw_aload_n X dL_law_165 10 rfl rfl ?_
    refine tw_iload X dL_law_166 3 rfl ?_
    refine tw_iload X dL_law_168 2 rfl ?_
    refine tw_callV X (As := [.int (enc (z85)), .int (enc (z96))]) (st := []) vw_L_88 (m_X4_distance (q := q) N s35 o35 U35 sU35 oU35 A35 (z85) (by omega) (z96) (by omega) B hF (by omega) hV35) ([(qa113, arI cy 3 (ups (ups (ups (fun _ => 0) (0) (dO N true z85 z96)) (1) (dO N true z96 z107)) (2) (dO N true z85 z107)))]) (wS G cy qs rr tt N g) (List.append_assoc _ _ _) rfl (q0 := 0) rfl rfl rfl ⟨rfl, rfl, Nat.le_of_ble_eq_true rfl, Nat.le_of_ble_eq_true rfl⟩ ⟨(show k + 1 + 0 ≤ 600104 by omega), (show n + 3 + 0 ≤ 7301314 by omega)⟩ (Nat.le_of_ble_eq_true rfl) dL_law_170 (fun v w1 hp => ?_)
    obtain ⟨rfl, s36, o36, U36, sU36, oU36, A36, hV36, rfl⟩ := hp
    have hdr := dO_rng hF.r (o := false) (a := z85) (b := z96) (by omega)
    refine Teq (ws' := [(qa113, arI cy 3 (ups (ups (ups (fun _ => 0) (0) (dO N true z85 z96)) (1) (dO N true z96 z107)) (2) (dO N true z85 z107)))] ++ wD cy q N s36 o36 U36 sU36 oU36 A36 ++ wS G cy qs rr tt N g) (lv' := [(11, .ref (qa113)), (10, .int (enc (z107))), (9, .int (enc (z96))), (8, .int (enc (z85))), (7, .int (enc (N 17 0))), (6, .int (enc (N 16 0))), (5, .int (enc (N 19 0))), (4, .int (enc (x4))), (3, .int (enc (ti))), (2, .ref (qs 0)), (1, .ref (q 0)), (0, .ref (bs))]) (st' := [.int (enc (dO N false z85 z96))]) (List.append_assoc _ _ _).symm rfl rfl ?_
    refine tw_aload_n X dL_law_173 10 rfl rfl ?_
    refine tw_iload X dL_law_174 2 rfl ?_
    refine tw_iload X dL_law_176 3 rfl ?_
    refine tw_callV X (As := [.int (enc (z96)), .int (enc (z85))]) (st := [.int (enc (dO N false z85 z96))]) vw_L_88 (m_X4_distance (q := q) N s36 o36 U36 sU36 oU36 A36 (z96) (by omega) (z85) (by omega) B hF (by omega) hV36) ([(qa113, arI cy 3 (ups (ups (ups (fun _ => 0) (0) (dO N true z85 z96)) (1) (dO N true z96 z107)) (2) (dO N true z85 z107)))]) (wS G cy qs rr tt N g) (List.append_assoc _ _ _) rfl (q0 := 0) rfl rfl rfl ⟨rfl, rfl, Nat.le_of_ble_eq_true rfl, Nat.le_of_ble_eq_true rfl⟩ ⟨(show k + 1 + 0 ≤ 600104 by omega), (show n + 3 + 0 ≤ 7301314 by omega)⟩ (Nat.le_of_ble_eq_true rfl) dL_law_178 (fun v w1 hp => ?_)
    obtain ⟨rfl, s37, o37, U37, sU37, oU37, A37, hV37, rfl⟩ := hp
    have hdr := dO_rng hF.r (o := false) (a := z96) (b := z85) (by omega)
    refine Teq (ws' := [(qa113, arI cy 3 (ups (ups (ups (fun _ => 0) (0) (dO N true z85 z96)) (1) (dO N true z96 z107)) (2) (dO N true z85 z107)))] ++ wD cy q N s37 o37 U37 sU37 oU37 A37 ++ wS G cy qs rr tt N g) (lv' := [(11, .ref (qa113)), (10, .int (enc (z107))), (9, .int (enc (z96))), (8, .int (enc (z85))), (7, .int (enc (N 17 0))), (6, .int (enc (N 16 0))), (5, .int (enc (N 19 0))), (4, .int (enc (x4))), (3, .int (enc (ti))), (2, .ref (qs 0)), (1, .ref (q 0)), (0, .ref (bs))]) (st' := [.int (enc (dO N false z96 z85)), .int (enc (dO N false z85 z96))]) (List.append_assoc _ _ _).symm rfl rfl ?_
    refine tw_icmp_ne (tgt := 319) X (In_of (by omega) (by omega)) (In_of (by omega) (by omega)) dL_law_181 (by decide) (fun c181 => ?_) (fun c181 => ?_)
    · skip
      exact (show False by omega).elim
    · skip
      refine tw_aload X dL_law_184 0 rfl ?_
      refine tw_iconst X dL_law_186 ?_
      refine tw_iald X (N := 3) (f := (ups (ups (ups (fun _ => 0) (0) (dO N true z85 z96)) (1) (dO N true z96 z107)) (2) (dO N true z85 z107))) 0 rfl (by decide) (by decide) dL_law_187 ?_
      refine Tst (st' := [.int (enc (dO N true z85 z96))]) rfl ?_
      refine tw_if_ne (tgt := 195) X (In_of (by omega) (by omega)) dL_law_188 (by decide) (fun c188 => ?_) (fun c188 => ?_)
      · skip
        refine tw_iconst X dL_law_195 ?_
        refine tw_iload X dL_law_196 3 rfl ?_
        refine tw_iload X dL_law_198 2 rfl ?_
        refine tw_icmp_ne (tgt := 207) X (In_of (by omega) (by omega)) (In_of (by omega) (by omega)) dL_law_200 (by decide) (fun c200 => ?_) (fun c200 => ?_)
        · skip
          refine tw_iconst X dL_law_207 ?_
          refine tw_icmp_ne (tgt := 319) X (In_of (by omega) (by omega)) (In_of (by omega) (by omega)) dL_law_208 (by decide) (fun c208 => ?_) (fun c208 => ?_)
          · skip
            exact (show False by omega).elim
          · skip
            refine Tsub (lv' := [(11, .ref (qa113)), (10, .int (enc (z107))), (9, .int (enc (z96))), (8, .int (enc (z85))), (7, .int (enc (N 17 0))), (6, .int (enc (N 16 0))), (3, .int (enc (ti))), (2, .ref (qs 0)), (1, .ref (q 0)), (0, .ref (bs))]) [0, 1, 2, 3, 4, 5, 8, 9, 10, 11] rfl ?_
            exact J211 s37 o37 U37 sU37 oU37 A37 hV37
        · skip
          refine tw_iconst X dL_law_203 ?_
          refine tw_goto (tgt := 208) X dL_law_204 (by decide) ?_
          refine tw_icmp_ne (tgt := 319) X (In_of (by omega) (by omega)) (In_of (by omega) (by omega)) dL_law_208 (by decide) (fun c208 => ?_) (fun c208 => ?_)
          · skip
            exact (show False by omega).elim
          · skip
            refine Tsub (lv' := [(11, .ref (qa113)), (10, .int (enc (z107))), (9, .int (enc (z96))), (8, .int (enc (z85))), (7, .int (enc (N 17 0))), (6, .int (enc (N 16 0))), (3, .int (enc (ti))), (2, .ref (qs 0)), (1, .ref (q 0)), (0, .ref (bs))]) [0, 1, 2, 3, 4, 5, 8, 9, 10, 11] rfl ?_
            exact J211 s37 o37 U37 sU37 oU37 A37 hV37
      · skip
        refine tw_iconst X dL_law_191 ?_
        refine tw_goto (tgt := 196) X dL_law_192 (by decide) ?_
        refine tw_iload X dL_law_196 3 rfl ?_
        refine tw_iload X dL_law_198 2 rfl ?_
        refine tw_icmp_ne (tgt := 207) X (In_of (by omega) (by omega)) (In_of (by omega) (by omega)) dL_law_200 (by decide) (fun c200 => ?_) (fun c200 => ?_)
        · skip
          refine tw_iconst X dL_law_207 ?_
          refine tw_icmp_ne (tgt := 319) X (In_of (by omega) (by omega)) (In_of (by omega) (by omega)) dL_law_208 (by decide) (fun c208 => ?_) (fun c208 => ?_)
          · skip
            exact (show False by omega).elim
          · skip
            refine Tsub (lv' := [(11, .ref (qa113)), (10, .int (enc (z107))), (9, .int (enc (z96))), (8, .int (enc (z85))), (7, .int (enc (N 17 0))), (6, .int (enc (N 16 0))), (3, .int (enc (ti))), (2, .ref (qs 0)), (1, .ref (q 0)), (0, .ref (bs))]) [0, 1, 2, 3, 4, 5, 8, 9, 10, 11] rfl ?_
            exact J211 s37 o37 U37 sU37 oU37 A37 hV37
        · skip
          refine tw_iconst X dL_law_203 ?_
          refine tw_goto (tgt := 208) X dL_law_204 (by decide) ?_
          refine tw_icmp_ne (tgt := 319) X (In_of (by omega) (by omega)) (In_of (by omega) (by omega)) dL_law_208 (by decide) (fun c208 => ?_) (fun c208 => ?_)
          · skip
            exact (show False by omega).elim
          · skip
            refine Tsub (lv' := [(11, .ref (qa113)), (10, .int (enc (z107))), (9, .int (enc (z96))), (8, .int (enc (z85))), (7, .int (enc (N 17 0))), (6, .int (enc (N 16 0))), (3, .int (enc (ti))), (2, .ref (qs 0)), (1, .ref (q 0)), (0, .ref (bs))]) [0, 1, 2, 3, 4, 5, 8, 9, 10, 11] rfl ?_
            exact J211 s37 o37 U37 sU37 oU37 A37 hV37
set_option maxRecDepth 100000 in
set_option maxHeartbeats 4000000 in
theorem law_s2 {G : va_G} {cy : ClassId} {c : Cx} (X : Ok G cy c cL_law RL 31 room_1) {q qs rr tt : Nat → Nat} (N : MT) (sN : Int → Int) (oN : Int) (U : MT) (sU : Int → Int) (oU : Int) (A : Int → Int) (g : Int → Int) (bs : Nat) (ti B : Int) (hI : INV N g B) (hB2 : B ≤ 500000) (hV : WVo N sN oN) (k n : Nat) (hk : k + 4 ≤ 600104) (hn : n + 80 ≤ 7301314) (kk : ∀ (a1 a2 a3 a4 : Nat) (fw fk fs : Int → Int), (∀ r : Int, 0 ≤ r → r < N 16 0 → fw r = N 4 r) → (∀ r : Int, 0 ≤ r → r < N 16 0 → fk r = N 5 r) → (∀ r : Int, 0 ≤ r → r < N 16 0 → fs r = N 6 r) → T G c room_1 31 (k + 1 + 1 + 1 + 1) (n + 20 + 20 + 20 + 20) ([(a1, arI cy ((N 16 0).toNat) fw)] ++ [(a2, arI cy ((N 16 0).toNat) fk)] ++ [(a3, arI cy ((N 16 0).toNat) fs)] ++ [(a4, arI cy ((N 16 0).toNat) (fun _ => 0))] ++ wD cy q N sN oN U sU oU A ++ wS G cy qs rr tt N g) 619 [(16, .int (enc (cntC N (N 16 0).toNat))), (12, .ref (a1)), (13, .ref (a2)), (14, .ref (a3)), (15, .ref (a4)), (7, .int (enc (N 17 0))), (6, .int (enc (N 16 0))), (3, .int (enc (ti))), (2, .ref (qs 0)), (1, .ref (q 0)), (0, .ref (bs))] []) : T G c room_1 31 k n (wD cy q N sN oN U sU oU A ++ wS G cy qs rr tt N g) 432 [(7, .int (enc (N 17 0))), (6, .int (enc (N 16 0))), (3, .int (enc (ti))), (2, .ref (qs 0)), (1, .ref (q 0)), (0, .ref (bs))] [] := by
  have hF := hI.1
  have hB := hF.bd (by omega)
  obtain ⟨w0, w1, w2, w3, w4⟩ := hF.r
  have h17 := hF.2.2.2.2.2.1
  have h172 := hF.2.2.2.2.2.2.1
  have h20 := hF.2.2.2.2.2.2.2.1
  refine tw_iload X dL_law_432 1 rfl ?_
  refine tw_newa X (N := (N 16 0).toNat) (by omega) (by omega) (show k + 1 ≤ 600104 by omega) (show n + (N 16 0).toNat ≤ 7301314 by omega) dL_law_434 (fun a1 => ?_)
  refine Tnew2 ([]) (wD cy q N sN oN U sU oU A) (wS G cy qs rr tt N g) ([(a1, arI cy ((N 16 0).toNat) (fun _ => 0))]) (ws' := [(a1, arI cy ((N 16 0).toNat) (fun _ => 0))] ++ wD cy q N sN oN U sU oU A ++ wS G cy qs rr tt N g) rfl rfl ?_
  refine Twiden (k' := k + 1) (n' := n + 20) (by omega) (by omega) ?_
  refine tw_astore (lv' := [(12, .ref (a1)), (7, .int (enc (N 17 0))), (6, .int (enc (N 16 0))), (3, .int (enc (ti))), (2, .ref (qs 0)), (1, .ref (q 0)), (0, .ref (bs))]) X dL_law_436 (by decide) rfl ?_
  refine tw_iload X dL_law_438 2 rfl ?_
  refine tw_newa X (N := (N 16 0).toNat) (by omega) (by omega) (show k + 1 + 1 ≤ 600104 by omega) (show n + 20 + (N 16 0).toNat ≤ 7301314 by omega) dL_law_440 (fun a2 => ?_)
  refine Tnew2 ([(a1, arI cy ((N 16 0).toNat) (fun _ => 0))]) (wD cy q N sN oN U sU oU A) (wS G cy qs rr tt N g) ([(a2, arI cy ((N 16 0).toNat) (fun _ => 0))]) (ws' := [(a1, arI cy ((N 16 0).toNat) (fun _ => 0))] ++ [(a2, arI cy ((N 16 0).toNat) (fun _ => 0))] ++ wD cy q N sN oN U sU oU A ++ wS G cy qs rr tt N g) rfl rfl ?_
  refine Twiden (k' := k + 1 + 1) (n' := n + 20 + 20) (by omega) (by omega) ?_
  refine tw_astore (lv' := [(13, .ref (a2)), (12, .ref (a1)), (7, .int (enc (N 17 0))), (6, .int (enc (N 16 0))), (3, .int (enc (ti))), (2, .ref (qs 0)), (1, .ref (q 0)), (0, .ref (bs))]) X dL_law_442 (by decide) rfl ?_
  refine tw_iload X dL_law_444 3 rfl ?_
  refine tw_newa X (N := (N 16 0).toNat) (by omega) (by omega) (show k + 1 + 1 + 1 ≤ 600104 by omega) (show n + 20 + 20 + (N 16 0).toNat ≤ 7301314 by omega) dL_law_446 (fun a3 => ?_)
  refine Tnew2 ([(a1, arI cy ((N 16 0).toNat) (fun _ => 0))] ++ [(a2, arI cy ((N 16 0).toNat) (fun _ => 0))]) (wD cy q N sN oN U sU oU A) (wS G cy qs rr tt N g) ([(a3, arI cy ((N 16 0).toNat) (fun _ => 0))]) (ws' := [(a1, arI cy ((N 16 0).toNat) (fun _ => 0))] ++ [(a2, arI cy ((N 16 0).toNat) (fun _ => 0))] ++ [(a3, arI cy ((N 16 0).toNat) (fun _ => 0))] ++ wD cy q N sN oN U sU oU A ++ wS G cy qs rr tt N g) rfl rfl ?_
  refine Twiden (k' := k + 1 + 1 + 1) (n' := n + 20 + 20 + 20) (by omega) (by omega) ?_
  refine tw_astore (lv' := [(14, .ref (a3)), (13, .ref (a2)), (12, .ref (a1)), (7, .int (enc (N 17 0))), (6, .int (enc (N 16 0))), (3, .int (enc (ti))), (2, .ref (qs 0)), (1, .ref (q 0)), (0, .ref (bs))]) X dL_law_448 (by decide) rfl ?_
  refine tw_iload X dL_law_450 4 rfl ?_
  refine tw_newa X (N := (N 16 0).toNat) (by omega) (by omega) (show k + 1 + 1 + 1 + 1 ≤ 600104 by omega) (show n + 20 + 20 + 20 + (N 16 0).toNat ≤ 7301314 by omega) dL_law_452 (fun a4 => ?_)
  refine Tnew2 ([(a1, arI cy ((N 16 0).toNat) (fun _ => 0))] ++ [(a2, arI cy ((N 16 0).toNat) (fun _ => 0))] ++ [(a3, arI cy ((N 16 0).toNat) (fun _ => 0))]) (wD cy q N sN oN U sU oU A) (wS G cy qs rr tt N g) ([(a4, arI cy ((N 16 0).toNat) (fun _ => 0))]) (ws' := [(a1, arI cy ((N 16 0).toNat) (fun _ => 0))] ++ [(a2, arI cy ((N 16 0).toNat) (fun _ => 0))] ++ [(a3, arI cy ((N 16 0).toNat) (fun _ => 0))] ++ [(a4, arI cy ((N 16 0).toNat) (fun _ => 0))] ++ wD cy q N sN oN U sU oU A ++ wS G cy qs rr tt N g) rfl rfl ?_
  refine Twiden (k' := k + 1 + 1 + 1 + 1) (n' := n + 20 + 20 + 20 + 20) (by omega) (by omega) ?_
  refine tw_astore (lv' := [(15, .ref (a4)), (14, .ref (a3)), (13, .ref (a2)), (12, .ref (a1)), (7, .int (enc (N 17 0))), (6, .int (enc (N 16 0))), (3, .int (enc (ti))), (2, .ref (qs 0)), (1, .ref (q 0)), (0, .ref (bs))]) X dL_law_454 (by decide) rfl ?_
  refine tw_iconst X dL_law_456 ?_
  refine tw_istore (lv' := [(16, .int (enc (0))), (15, .ref (a4)), (14, .ref (a3)), (13, .ref (a2)), (12, .ref (a1)), (7, .int (enc (N 17 0))), (6, .int (enc (N 16 0))), (3, .int (enc (ti))), (2, .ref (qs 0)), (1, .ref (q 0)), (0, .ref (bs))]) X dL_law_457 (by decide) rfl ?_
  refine tw_iconst X dL_law_459 ?_
  refine tw_istore (lv' := [(17, .int (enc (0))), (16, .int (enc (0))), (15, .ref (a4)), (14, .ref (a3)), (13, .ref (a2)), (12, .ref (a1)), (7, .int (enc (N 17 0))), (6, .int (enc (N 16 0))), (3, .int (enc (ti))), (2, .ref (qs 0)), (1, .ref (q 0)), (0, .ref (bs))]) X dL_law_460 (by decide) rfl ?_
  have L462 : ∀ (fu i : Nat) (fw : Int → Int) (fk : Int → Int) (fs : Int → Int), (i : Int) ≤ N 16 0 → N 16 0 + 1 ≤ (i : Int) + fu → (∀ r : Int, 0 ≤ r → r < (i : Int) → fw r = N 4 r) → (∀ r : Int, 0 ≤ r → r < (i : Int) → fk r = N 5 r) → (∀ r : Int, 0 ≤ r → r < (i : Int) → fs r = N 6 r) → T G c room_1 31 (k + 1 + 1 + 1 + 1) (n + 20 + 20 + 20 + 20) ([(a1, arI cy ((N 16 0).toNat) fw)] ++ [(a2, arI cy ((N 16 0).toNat) fk)] ++ [(a3, arI cy ((N 16 0).toNat) fs)] ++ [(a4, arI cy ((N 16 0).toNat) (fun _ => 0))] ++ wD cy q N sN oN U sU oU A ++ wS G cy qs rr tt N g) 462 [(17, .int (enc ((i : Int)))), (16, .int (enc (cntC N i))), (12, .ref (a1)), (13, .ref (a2)), (14, .ref (a3)), (15, .ref (a4)), (7, .int (enc (N 17 0))), (6, .int (enc (N 16 0))), (3, .int (enc (ti))), (2, .ref (qs 0)), (1, .ref (q 0)), (0, .ref (bs))] [] := by
    intro fu
    induction fu with
    | zero =>
      intro i fw fk fs hi0 hi1
      exact absurd hi1 (by omega)
    | succ fu ih462 =>
      intro i fw fk fs hi0_462 hi1_462 hw hk9 hs9
      have hcc := cntC_rng N i
      refine tw_iload X dL_law_462 0 rfl ?_
      refine tw_iload X dL_law_464 7 rfl ?_
      refine tw_icmp_ge (tgt := 619) X (In_of (by omega) (by omega)) (In_of (by omega) (by omega)) dL_law_466 (by decide) (fun c466 => ?_) (fun c466 => ?_)
      · skip
        have ei : (N 16 0).toNat = i := by omega
        refine Tsub (lv' := [(16, .int (enc (cntC N i))), (12, .ref (a1)), (13, .ref (a2)), (14, .ref (a3)), (15, .ref (a4)), (7, .int (enc (N 17 0))), (6, .int (enc (N 16 0))), (3, .int (enc (ti))), (2, .ref (qs 0)), (1, .ref (q 0)), (0, .ref (bs))]) [1, 2, 3, 4, 5, 6, 7, 8, 9, 10, 11] rfl ?_
        refine Teq (ws' := [(a1, arI cy ((N 16 0).toNat) fw)] ++ [(a2, arI cy ((N 16 0).toNat) fk)] ++ [(a3, arI cy ((N 16 0).toNat) fs)] ++ [(a4, arI cy ((N 16 0).toNat) (fun _ => 0))] ++ wD cy q N sN oN U sU oU A ++ wS G cy qs rr tt N g) (lv' := [(16, .int (enc (cntC N (N 16 0).toNat))), (12, .ref (a1)), (13, .ref (a2)), (14, .ref (a3)), (15, .ref (a4)), (7, .int (enc (N 17 0))), (6, .int (enc (N 16 0))), (3, .int (enc (ti))), (2, .ref (qs 0)), (1, .ref (q 0)), (0, .ref (bs))]) (st' := []) rfl (by rw [ei]) rfl ?_
        exact kk a1 a2 a3 a4 fw fk fs (fun r r0 r1 => hw r r0 (by omega)) (fun r r0 r1 => hk9 r r0 (by omega)) (fun r r0 r1 => hs9 r r0 (by omega))
      · skip
        have d6 := hF.2.2.2.1 (i : Int)
        have hln := hF.r.ln (r := (i : Int)) (by omega) c466
        have hmw := mostW_rng N (N 16 0).toNat
        have hmv := mostW_val (fun r => (hF.2.2.2.1 r).1) (N 16 0).toNat
        have hl9 : len N (i : Int) = N 2 (i : Int) + N 5 (i : Int) := rfl
        have hb2 := hB 2 (i : Int)
        refine tw_aload X dL_law_469 2 rfl ?_
        refine tw_iload X dL_law_471 0 rfl ?_
        refine tw_aload_n X dL_law_473 10 rfl rfl ?_
        refine tw_iload X dL_law_474 0 rfl ?_
        refine tw_callV X (As := [.int (enc ((i : Int)))]) (st := [.int (enc ((i : Int))), .ref (a1)]) vw_L_100 (m_X4_wearOf (q := q) N sN oN U sU oU A ((i : Int)) (by omega) B hF (by omega)) ([(a1, arI cy ((N 16 0).toNat) fw)] ++ [(a2, arI cy ((N 16 0).toNat) fk)] ++ [(a3, arI cy ((N 16 0).toNat) fs)] ++ [(a4, arI cy ((N 16 0).toNat) (fun _ => 0))]) (wS G cy qs rr tt N g) (List.append_assoc _ _ _) rfl (q0 := 0) rfl rfl rfl ⟨rfl, rfl, Nat.le_of_ble_eq_true rfl, Nat.le_of_ble_eq_true rfl⟩ ⟨(show k + 1 + 1 + 1 + 1 + 0 ≤ 600104 by omega), (show n + 20 + 20 + 20 + 20 + 0 ≤ 7301314 by omega)⟩ (Nat.le_of_ble_eq_true rfl) dL_law_476 (fun v w1 hp => ?_)
        obtain ⟨rfl, rfl⟩ := hp
        refine Teq (ws' := [(a1, arI cy ((N 16 0).toNat) fw)] ++ [(a2, arI cy ((N 16 0).toNat) fk)] ++ [(a3, arI cy ((N 16 0).toNat) fs)] ++ [(a4, arI cy ((N 16 0).toNat) (fun _ => 0))] ++ wD cy q N sN oN U sU oU A ++ wS G cy qs rr tt N g) (lv' := [(17, .int (enc ((i : Int)))), (16, .int (enc (cntC N i))), (12, .ref (a1)), (13, .ref (a2)), (14, .ref (a3)), (15, .ref (a4)), (7, .int (enc (N 17 0))), (6, .int (enc (N 16 0))), (3, .int (enc (ti))), (2, .ref (qs 0)), (1, .ref (q 0)), (0, .ref (bs))]) (st' := [.int (enc (N 4 (i : Int))), .int (enc ((i : Int))), .ref (a1)]) (List.append_assoc _ _ _).symm rfl rfl ?_
        have b1 := hB 4 (i : Int)
        refine tw_iast X (N := (N 16 0).toNat) (f := fw) (ws' := [(a1, arI cy ((N 16 0).toNat) (ups fw ((i : Int)) (N 4 (i : Int))))] ++ [(a2, arI cy ((N 16 0).toNat) fk)] ++ [(a3, arI cy ((N 16 0).toNat) fs)] ++ [(a4, arI cy ((N 16 0).toNat) (fun _ => 0))] ++ wD cy q N sN oN U sU oU A ++ wS G cy qs rr tt N g) 0 rfl (by omega) (by omega) dL_law_479 rfl ?_
        refine tw_aload X dL_law_480 3 rfl ?_
        refine tw_iload X dL_law_482 0 rfl ?_
        refine tw_aload_n X dL_law_484 10 rfl rfl ?_
        refine tw_iload X dL_law_485 0 rfl ?_
        refine tw_callV X (As := [.int (enc ((i : Int)))]) (st := [.int (enc ((i : Int))), .ref (a2)]) vw_L_103 (m_X4_knotsOf (q := q) N sN oN U sU oU A ((i : Int)) (by omega) B hF (by omega)) ([(a1, arI cy ((N 16 0).toNat) (ups fw ((i : Int)) (N 4 (i : Int))))] ++ [(a2, arI cy ((N 16 0).toNat) fk)] ++ [(a3, arI cy ((N 16 0).toNat) fs)] ++ [(a4, arI cy ((N 16 0).toNat) (fun _ => 0))]) (wS G cy qs rr tt N g) (List.append_assoc _ _ _) rfl (q0 := 0) rfl rfl rfl ⟨rfl, rfl, Nat.le_of_ble_eq_true rfl, Nat.le_of_ble_eq_true rfl⟩ ⟨(show k + 1 + 1 + 1 + 1 + 0 ≤ 600104 by omega), (show n + 20 + 20 + 20 + 20 + 0 ≤ 7301314 by omega)⟩ (Nat.le_of_ble_eq_true rfl) dL_law_487 (fun v w1 hp => ?_)
        obtain ⟨rfl, rfl⟩ := hp
        refine Teq (ws' := [(a1, arI cy ((N 16 0).toNat) (ups fw ((i : Int)) (N 4 (i : Int))))] ++ [(a2, arI cy ((N 16 0).toNat) fk)] ++ [(a3, arI cy ((N 16 0).toNat) fs)] ++ [(a4, arI cy ((N 16 0).toNat) (fun _ => 0))] ++ wD cy q N sN oN U sU oU A ++ wS G cy qs rr tt N g) (lv' := [(17, .int (enc ((i : Int)))), (16, .int (enc (cntC N i))), (12, .ref (a1)), (13, .ref (a2)), (14, .ref (a3)), (15, .ref (a4)), (7, .int (enc (N 17 0))), (6, .int (enc (N 16 0))), (3, .int (enc (ti))), (2, .ref (qs 0)), (1, .ref (q 0)), (0, .ref (bs))]) (st' := [.int (enc (N 5 (i : Int))), .int (enc ((i : Int))), .ref (a2)]) (List.append_assoc _ _ _).symm rfl rfl ?_
        have b2 := hB 5 (i : Int)
        refine tw_iast X (N := (N 16 0).toNat) (f := fk) (ws' := [(a1, arI cy ((N 16 0).toNat) (ups fw ((i : Int)) (N 4 (i : Int))))] ++ [(a2, arI cy ((N 16 0).toNat) (ups fk ((i : Int)) (N 5 (i : Int))))] ++ [(a3, arI cy ((N 16 0).toNat) fs)] ++ [(a4, arI cy ((N 16 0).toNat) (fun _ => 0))] ++ wD cy q N sN oN U sU oU A ++ wS G cy qs rr tt N g) 1 rfl (by omega) (by omega) dL_law_490 rfl ?_
        refine tw_aload X dL_law_491 4 rfl ?_
        refine tw_iload X dL_law_493 0 rfl ?_
        refine tw_aload_n X dL_law_495 10 rfl rfl ?_
        refine tw_iload X dL_law_496 0 rfl ?_
        refine tw_callV X (As := [.int (enc ((i : Int)))]) (st := [.int (enc ((i : Int))), .ref (a3)]) vw_L_94 (m_X4_closedFor (q := q) N sN oN U sU oU A ((i : Int)) (by omega) B hF (by omega)) ([(a1, arI cy ((N 16 0).toNat) (ups fw ((i : Int)) (N 4 (i : Int))))] ++ [(a2, arI cy ((N 16 0).toNat) (ups fk ((i : Int)) (N 5 (i : Int))))] ++ [(a3, arI cy ((N 16 0).toNat) fs)] ++ [(a4, arI cy ((N 16 0).toNat) (fun _ => 0))]) (wS G cy qs rr tt N g) (List.append_assoc _ _ _) rfl (q0 := 0) rfl rfl rfl ⟨rfl, rfl, Nat.le_of_ble_eq_true rfl, Nat.le_of_ble_eq_true rfl⟩ ⟨(show k + 1 + 1 + 1 + 1 + 0 ≤ 600104 by omega), (show n + 20 + 20 + 20 + 20 + 0 ≤ 7301314 by omega)⟩ (Nat.le_of_ble_eq_true rfl) dL_law_498 (fun v w1 hp => ?_)
        obtain ⟨rfl, rfl⟩ := hp
        refine Teq (ws' := [(a1, arI cy ((N 16 0).toNat) (ups fw ((i : Int)) (N 4 (i : Int))))] ++ [(a2, arI cy ((N 16 0).toNat) (ups fk ((i : Int)) (N 5 (i : Int))))] ++ [(a3, arI cy ((N 16 0).toNat) fs)] ++ [(a4, arI cy ((N 16 0).toNat) (fun _ => 0))] ++ wD cy q N sN oN U sU oU A ++ wS G cy qs rr tt N g) (lv' := [(17, .int (enc ((i : Int)))), (16, .int (enc (cntC N i))), (12, .ref (a1)), (13, .ref (a2)), (14, .ref (a3)), (15, .ref (a4)), (7, .int (enc (N 17 0))), (6, .int (enc (N 16 0))), (3, .int (enc (ti))), (2, .ref (qs 0)), (1, .ref (q 0)), (0, .ref (bs))]) (st' := [.int (enc (N 6 (i : Int))), .int (enc ((i : Int))), .ref (a3)]) (List.append_assoc _ _ _).symm rfl rfl ?_
        have b3 := hB 6 (i : Int)
        refine tw_iast X (N := (N 16 0).toNat) (f := fs) (ws' := [(a1, arI cy ((N 16 0).toNat) (ups fw ((i : Int)) (N 4 (i : Int))))] ++ [(a2, arI cy ((N 16 0).toNat) (ups fk ((i : Int)) (N 5 (i : Int))))] ++ [(a3, arI cy ((N 16 0).toNat) (ups fs ((i : Int)) (N 6 (i : Int))))] ++ [(a4, arI cy ((N 16 0).toNat) (fun _ => 0))] ++ wD cy q N sN oN U sU oU A ++ wS G cy qs rr tt N g) 2 rfl (by omega) (by omega) dL_law_501 rfl ?_
        refine tw_iload X dL_law_502 1 rfl ?_
        refine tw_aload X dL_law_504 4 rfl ?_
        refine tw_iload X dL_law_506 0 rfl ?_
        refine tw_iald X (N := (N 16 0).toNat) (f := (ups fs ((i : Int)) (N 6 (i : Int)))) 2 rfl (by omega) (by omega) dL_law_508 ?_
        refine Tst (st' := [.int (enc (N 6 (i : Int))), .int (enc (cntC N i))]) (by rw [ups_same]) ?_
        refine tw_if_le (tgt := 516) X (In_of (by omega) (by omega)) dL_law_509 (by decide) (fun c509 => ?_) (fun c509 => ?_)
        · skip
          refine tw_iconst X dL_law_516 ?_
          refine tw_iadd (z := (cntC N i) + 0) X dL_law_517 rfl ?_
          refine tw_istore (lv' := [(16, .int (enc ((cntC N i) + 0))), (17, .int (enc ((i : Int)))), (12, .ref (a1)), (13, .ref (a2)), (14, .ref (a3)), (15, .ref (a4)), (7, .int (enc (N 17 0))), (6, .int (enc (N 16 0))), (3, .int (enc (ti))), (2, .ref (qs 0)), (1, .ref (q 0)), (0, .ref (bs))]) X dL_law_518 (by decide) rfl ?_
          refine tw_aload X dL_law_520 2 rfl ?_
          refine tw_iload X dL_law_522 1 rfl ?_
          refine tw_iald X (N := (N 16 0).toNat) (f := (ups fw ((i : Int)) (N 4 (i : Int)))) 0 rfl (by omega) (by omega) dL_law_524 ?_
          refine Tst (st' := [.int (enc (N 4 (i : Int)))]) (by rw [ups_same]) ?_
          refine tw_if_lt (tgt := 611) X (In_of (by omega) (by omega)) dL_law_525 (by decide) (fun c525 => ?_) (fun c525 => ?_)
          · skip
            exact (show False by omega).elim
          · skip
            refine tw_aload X dL_law_528 3 rfl ?_
            refine tw_iload X dL_law_530 1 rfl ?_
            refine tw_iald X (N := (N 16 0).toNat) (f := (ups fk ((i : Int)) (N 5 (i : Int)))) 1 rfl (by omega) (by omega) dL_law_532 ?_
            refine Tst (st' := [.int (enc (N 5 (i : Int)))]) (by rw [ups_same]) ?_
            refine tw_if_lt (tgt := 611) X (In_of (by omega) (by omega)) dL_law_533 (by decide) (fun c533 => ?_) (fun c533 => ?_)
            · skip
              exact (show False by omega).elim
            · skip
              refine tw_aload X dL_law_536 3 rfl ?_
              refine tw_iload X dL_law_538 1 rfl ?_
              refine tw_iald X (N := (N 16 0).toNat) (f := (ups fk ((i : Int)) (N 5 (i : Int)))) 1 rfl (by omega) (by omega) dL_law_540 ?_
              refine Tst (st' := [.int (enc (N 5 (i : Int)))]) (by rw [ups_same]) ?_
              refine tw_iconst X dL_law_541 ?_
              refine tw_icmp_gt (tgt := 611) X (In_of (by omega) (by omega)) (In_of (by omega) (by omega)) dL_law_542 (by decide) (fun c542 => ?_) (fun c542 => ?_)
              · skip
                exact (show False by omega).elim
              · skip
                refine tw_aload X dL_law_545 4 rfl ?_
                refine tw_iload X dL_law_547 1 rfl ?_
                refine tw_iald X (N := (N 16 0).toNat) (f := (ups fs ((i : Int)) (N 6 (i : Int)))) 2 rfl (by omega) (by omega) dL_law_549 ?_
                refine Tst (st' := [.int (enc (N 6 (i : Int)))]) (by rw [ups_same]) ?_
                refine tw_if_lt (tgt := 611) X (In_of (by omega) (by omega)) dL_law_550 (by decide) (fun c550 => ?_) (fun c550 => ?_)
                · skip
                  exact (show False by omega).elim
                · skip
                  refine tw_aload X dL_law_553 4 rfl ?_
                  refine tw_iload X dL_law_555 1 rfl ?_
                  refine tw_iald X (N := (N 16 0).toNat) (f := (ups fs ((i : Int)) (N 6 (i : Int)))) 2 rfl (by omega) (by omega) dL_law_557 ?_
                  refine Tst (st' := [.int (enc (N 6 (i : Int)))]) (by rw [ups_same]) ?_
                  refine tw_bipush X dL_law_558 (by decide) ?_
                  refine tw_icmp_gt (tgt := 611) X (In_of (by omega) (by omega)) (In_of (by omega) (by omega)) dL_law_560 (by decide) (fun c560 => ?_) (fun c560 => ?_)
                  · skip
                    exact (show False by omega).elim
                  · skip
                    refine tw_aload_n X dL_law_563 10 rfl rfl ?_
                    refine tw_iload X dL_law_564 1 rfl ?_
                    refine tw_callV X (As := [.int (enc ((i : Int)))]) (st := []) vw_L_97 (m_X4_lengthOf (q := q) N sN oN U sU oU A ((i : Int)) (by omega) B hF (by omega)) ([(a1, arI cy ((N 16 0).toNat) (ups fw ((i : Int)) (N 4 (i : Int))))] ++ [(a2, arI cy ((N 16 0).toNat) (ups fk ((i : Int)) (N 5 (i : Int))))] ++ [(a3, arI cy ((N 16 0).toNat) (ups fs ((i : Int)) (N 6 (i : Int))))] ++ [(a4, arI cy ((N 16 0).toNat) (fun _ => 0))]) (wS G cy qs rr tt N g) (List.append_assoc _ _ _) rfl (q0 := 0) rfl rfl rfl ⟨rfl, rfl, Nat.le_of_ble_eq_true rfl, Nat.le_of_ble_eq_true rfl⟩ ⟨(show k + 1 + 1 + 1 + 1 + 0 ≤ 600104 by omega), (show n + 20 + 20 + 20 + 20 + 0 ≤ 7301314 by omega)⟩ (Nat.le_of_ble_eq_true rfl) dL_law_566 (fun v w1 hp => ?_)
                    obtain ⟨rfl, rfl⟩ := hp
                    refine Teq (ws' := [(a1, arI cy ((N 16 0).toNat) (ups fw ((i : Int)) (N 4 (i : Int))))] ++ [(a2, arI cy ((N 16 0).toNat) (ups fk ((i : Int)) (N 5 (i : Int))))] ++ [(a3, arI cy ((N 16 0).toNat) (ups fs ((i : Int)) (N 6 (i : Int))))] ++ [(a4, arI cy ((N 16 0).toNat) (fun _ => 0))] ++ wD cy q N sN oN U sU oU A ++ wS G cy qs rr tt N g) (lv' := [(16, .int (enc ((cntC N i) + 0))), (17, .int (enc ((i : Int)))), (12, .ref (a1)), (13, .ref (a2)), (14, .ref (a3)), (15, .ref (a4)), (7, .int (enc (N 17 0))), (6, .int (enc (N 16 0))), (3, .int (enc (ti))), (2, .ref (qs 0)), (1, .ref (q 0)), (0, .ref (bs))]) (st' := [.int (enc (len N (i : Int)))]) (List.append_assoc _ _ _).symm rfl rfl ?_
                    refine tw_aload_n X dL_law_569 9 rfl rfl ?_
                    refine gf_L_15 X (v := .ref (qs 1)) 49 rfl rfl dL_law_570 ?_
                    refine tw_iload X dL_law_573 1 rfl ?_
                    refine sr_aaR X (g := g) (M := N) (r := (i : Int)) ([(a1, arI cy ((N 16 0).toNat) (ups fw ((i : Int)) (N 4 (i : Int))))] ++ [(a2, arI cy ((N 16 0).toNat) (ups fk ((i : Int)) (N 5 (i : Int))))] ++ [(a3, arI cy ((N 16 0).toNat) (ups fs ((i : Int)) (N 6 (i : Int))))] ++ [(a4, arI cy ((N 16 0).toNat) (fun _ => 0))] ++ wD cy q N sN oN U sU oU A) rfl (by omega) (by omega) dL_law_575 ?_
                    refine tw_iconst X dL_law_576 ?_
                    refine sr_ldR X (g := g) (M := N) (r := (i : Int)) (v := N 2 (i : Int)) ([(a1, arI cy ((N 16 0).toNat) (ups fw ((i : Int)) (N 4 (i : Int))))] ++ [(a2, arI cy ((N 16 0).toNat) (ups fk ((i : Int)) (N 5 (i : Int))))] ++ [(a3, arI cy ((N 16 0).toNat) (ups fs ((i : Int)) (N 6 (i : Int))))] ++ [(a4, arI cy ((N 16 0).toNat) (fun _ => 0))] ++ wD cy q N sN oN U sU oU A) rfl (by omega) (by decide) rfl dL_law_577 ?_
                    have b4 := hB 2 (i : Int)
                    refine tw_aload X dL_law_578 3 rfl ?_
                    refine tw_iload X dL_law_580 1 rfl ?_
                    refine tw_iald X (N := (N 16 0).toNat) (f := (ups fk ((i : Int)) (N 5 (i : Int)))) 1 rfl (by omega) (by omega) dL_law_582 ?_
                    refine Tst (st' := [.int (enc (N 5 (i : Int))), .int (enc (N 2 (i : Int))), .int (enc (len N (i : Int)))]) (by rw [ups_same]) ?_
                    refine tw_iadd (z := (N 2 (i : Int)) + (N 5 (i : Int))) X dL_law_583 rfl ?_
                    refine tw_icmp_ne (tgt := 611) X (In_of (by omega) (by omega)) (In_of (by omega) (by omega)) dL_law_584 (by decide) (fun c584 => ?_) (fun c584 => ?_)
                    · skip
                      exact (show False by omega).elim
                    · skip
                      refine tw_aload X dL_law_587 4 rfl ?_
                      refine tw_iload X dL_law_589 1 rfl ?_
                      refine tw_iald X (N := (N 16 0).toNat) (f := (ups fs ((i : Int)) (N 6 (i : Int)))) 2 rfl (by omega) (by omega) dL_law_591 ?_
                      refine Tst (st' := [.int (enc (N 6 (i : Int)))]) (by rw [ups_same]) ?_
                      refine tw_if_ne (tgt := 613) X (In_of (by omega) (by omega)) dL_law_592 (by decide) (fun c592 => ?_) (fun c592 => ?_)
                      · skip
                        refine tw_iinc (q := 1) (x := (i : Int)) (y := (i : Int) + 1) (lv' := [(17, .int (enc ((i : Int) + 1))), (16, .int (enc ((cntC N i) + 0))), (12, .ref (a1)), (13, .ref (a2)), (14, .ref (a3)), (15, .ref (a4)), (7, .int (enc (N 17 0))), (6, .int (enc (N 16 0))), (3, .int (enc (ti))), (2, .ref (qs 0)), (1, .ref (q 0)), (0, .ref (bs))]) X dL_law_613 rfl rfl (by decide) rfl ?_
                        refine tw_goto (tgt := 462) X dL_law_616 (by decide) ?_
                        refine Tsub (lv' := [(17, .int (enc ((i : Int) + 1))), (16, .int (enc ((cntC N i) + 0))), (12, .ref (a1)), (13, .ref (a2)), (14, .ref (a3)), (15, .ref (a4)), (7, .int (enc (N 17 0))), (6, .int (enc (N 16 0))), (3, .int (enc (ti))), (2, .ref (qs 0)), (1, .ref (q 0)), (0, .ref (bs))]) [0, 1, 2, 3, 4, 5, 6, 7, 8, 9, 10, 11] rfl ?_
                        refine Teq (ws' := [(a1, arI cy ((N 16 0).toNat) ((ups fw ((i : Int)) (N 4 (i : Int)))))] ++ [(a2, arI cy ((N 16 0).toNat) ((ups fk ((i : Int)) (N 5 (i : Int)))))] ++ [(a3, arI cy ((N 16 0).toNat) ((ups fs ((i : Int)) (N 6 (i : Int)))))] ++ [(a4, arI cy ((N 16 0).toNat) (fun _ => 0))] ++ wD cy q N sN oN U sU oU A ++ wS G cy qs rr tt N g) (lv' := [(17, .int (enc (((i + 1 : Nat) : Int)))), (16, .int (enc (cntC N (i + 1)))), (12, .ref (a1)), (13, .ref (a2)), (14, .ref (a3)), (15, .ref (a4)), (7, .int (enc (N 17 0))), (6, .int (enc (N 16 0))), (3, .int (enc (ti))), (2, .ref (qs 0)), (1, .ref (q 0)), (0, .ref (bs))]) (st' := []) (rfl) (lvc (i_succ i) (lvc (by rw [cntC_s]; split <;> omega) rfl)) rfl (ih462 (i + 1) ((ups fw ((i : Int)) (N 4 (i : Int)))) ((ups fk ((i : Int)) (N 5 (i : Int)))) ((ups fs ((i : Int)) (N 6 (i : Int)))) (by omega) (by omega) (up_next (h := N 4) hw) (up_next (h := N 5) hk9) (up_next (h := N 6) hs9))
                      · skip
                        refine tw_aload X dL_law_595 2 rfl ?_
                        refine tw_iload X dL_law_597 1 rfl ?_
                        refine tw_iald X (N := (N 16 0).toNat) (f := (ups fw ((i : Int)) (N 4 (i : Int)))) 0 rfl (by omega) (by omega) dL_law_599 ?_
                        refine Tst (st' := [.int (enc (N 4 (i : Int)))]) (by rw [ups_same]) ?_
                        refine tw_aload_n X dL_law_600 10 rfl rfl ?_
                        refine tw_aload_n X dL_law_601 10 rfl rfl ?_
                        refine tw_callV X (As := []) (st := [.ref (q 0), .int (enc (N 4 (i : Int)))]) vw_L_106 (m_X4_mostWorn (q := q) N sN oN U sU oU A hB (by omega)) ([(a1, arI cy ((N 16 0).toNat) (ups fw ((i : Int)) (N 4 (i : Int))))] ++ [(a2, arI cy ((N 16 0).toNat) (ups fk ((i : Int)) (N 5 (i : Int))))] ++ [(a3, arI cy ((N 16 0).toNat) (ups fs ((i : Int)) (N 6 (i : Int))))] ++ [(a4, arI cy ((N 16 0).toNat) (fun _ => 0))]) (wS G cy qs rr tt N g) (List.append_assoc _ _ _) rfl (q0 := 0) rfl rfl rfl ⟨rfl, rfl, Nat.le_of_ble_eq_true rfl, Nat.le_of_ble_eq_true rfl⟩ ⟨(show k + 1 + 1 + 1 + 1 + 0 ≤ 600104 by omega), (show n + 20 + 20 + 20 + 20 + 0 ≤ 7301314 by omega)⟩ (Nat.le_of_ble_eq_true rfl) dL_law_602 (fun v w1 hp => ?_)
                        obtain ⟨rfl, rfl⟩ := hp
                        refine Teq (ws' := [(a1, arI cy ((N 16 0).toNat) (ups fw ((i : Int)) (N 4 (i : Int))))] ++ [(a2, arI cy ((N 16 0).toNat) (ups fk ((i : Int)) (N 5 (i : Int))))] ++ [(a3, arI cy ((N 16 0).toNat) (ups fs ((i : Int)) (N 6 (i : Int))))] ++ [(a4, arI cy ((N 16 0).toNat) (fun _ => 0))] ++ wD cy q N sN oN U sU oU A ++ wS G cy qs rr tt N g) (lv' := [(16, .int (enc ((cntC N i) + 0))), (17, .int (enc ((i : Int)))), (12, .ref (a1)), (13, .ref (a2)), (14, .ref (a3)), (15, .ref (a4)), (7, .int (enc (N 17 0))), (6, .int (enc (N 16 0))), (3, .int (enc (ti))), (2, .ref (qs 0)), (1, .ref (q 0)), (0, .ref (bs))]) (st' := [.int (enc ((mostW N (N 16 0).toNat).1)), .ref (q 0), .int (enc (N 4 (i : Int)))]) (List.append_assoc _ _ _).symm rfl rfl ?_
                        have hm3 := hmv.2.2 (i : Int) (by omega) (by omega) c592
                        have hm1 := hmv.1
                        have hm2 := hmv.2.1
                        have hm4 : 0 ≤ (mostW N (N 16 0).toNat).1 := Int.not_lt.mp (fun z => by have := hm1 z; omega)
                        have hm5 := hm2 hm4
                        have hbm := hB 4 (mostW N (N 16 0).toNat).1
                        refine tw_callV X (As := [.int (enc ((mostW N (N 16 0).toNat).1))]) (st := [.int (enc (N 4 (i : Int)))]) vw_L_100 (m_X4_wearOf (q := q) N sN oN U sU oU A ((mostW N (N 16 0).toNat).1) (by omega) B hF (by omega)) ([(a1, arI cy ((N 16 0).toNat) (ups fw ((i : Int)) (N 4 (i : Int))))] ++ [(a2, arI cy ((N 16 0).toNat) (ups fk ((i : Int)) (N 5 (i : Int))))] ++ [(a3, arI cy ((N 16 0).toNat) (ups fs ((i : Int)) (N 6 (i : Int))))] ++ [(a4, arI cy ((N 16 0).toNat) (fun _ => 0))]) (wS G cy qs rr tt N g) (List.append_assoc _ _ _) rfl (q0 := 0) rfl rfl rfl ⟨rfl, rfl, Nat.le_of_ble_eq_true rfl, Nat.le_of_ble_eq_true rfl⟩ ⟨(show k + 1 + 1 + 1 + 1 + 0 ≤ 600104 by omega), (show n + 20 + 20 + 20 + 20 + 0 ≤ 7301314 by omega)⟩ (Nat.le_of_ble_eq_true rfl) dL_law_605 (fun v w1 hp => ?_)
                        obtain ⟨rfl, rfl⟩ := hp
                        refine Teq (ws' := [(a1, arI cy ((N 16 0).toNat) (ups fw ((i : Int)) (N 4 (i : Int))))] ++ [(a2, arI cy ((N 16 0).toNat) (ups fk ((i : Int)) (N 5 (i : Int))))] ++ [(a3, arI cy ((N 16 0).toNat) (ups fs ((i : Int)) (N 6 (i : Int))))] ++ [(a4, arI cy ((N 16 0).toNat) (fun _ => 0))] ++ wD cy q N sN oN U sU oU A ++ wS G cy qs rr tt N g) (lv' := [(16, .int (enc ((cntC N i) + 0))), (17, .int (enc ((i : Int)))), (12, .ref (a1)), (13, .ref (a2)), (14, .ref (a3)), (15, .ref (a4)), (7, .int (enc (N 17 0))), (6, .int (enc (N 16 0))), (3, .int (enc (ti))), (2, .ref (qs 0)), (1, .ref (q 0)), (0, .ref (bs))]) (st' := [.int (enc (N 4 ((mostW N (N 16 0).toNat).1))), .int (enc (N 4 (i : Int)))]) (List.append_assoc _ _ _).symm rfl rfl ?_
                        have b5 := hB 4 (((mostW N (N 16 0).toNat).1))
                        refine tw_icmp_le (tgt := 613) X (In_of (by omega) (by omega)) (In_of (by omega) (by omega)) dL_law_608 (by decide) (fun c608 => ?_) (fun c608 => ?_)
                        · skip
                          refine tw_iinc (q := 1) (x := (i : Int)) (y := (i : Int) + 1) (lv' := [(17, .int (enc ((i : Int) + 1))), (16, .int (enc ((cntC N i) + 0))), (12, .ref (a1)), (13, .ref (a2)), (14, .ref (a3)), (15, .ref (a4)), (7, .int (enc (N 17 0))), (6, .int (enc (N 16 0))), (3, .int (enc (ti))), (2, .ref (qs 0)), (1, .ref (q 0)), (0, .ref (bs))]) X dL_law_613 rfl rfl (by decide) rfl ?_
                          refine tw_goto (tgt := 462) X dL_law_616 (by decide) ?_
                          refine Tsub (lv' := [(17, .int (enc ((i : Int) + 1))), (16, .int (enc ((cntC N i) + 0))), (12, .ref (a1)), (13, .ref (a2)), (14, .ref (a3)), (15, .ref (a4)), (7, .int (enc (N 17 0))), (6, .int (enc (N 16 0))), (3, .int (enc (ti))), (2, .ref (qs 0)), (1, .ref (q 0)), (0, .ref (bs))]) [0, 1, 2, 3, 4, 5, 6, 7, 8, 9, 10, 11] rfl ?_
                          refine Teq (ws' := [(a1, arI cy ((N 16 0).toNat) ((ups fw ((i : Int)) (N 4 (i : Int)))))] ++ [(a2, arI cy ((N 16 0).toNat) ((ups fk ((i : Int)) (N 5 (i : Int)))))] ++ [(a3, arI cy ((N 16 0).toNat) ((ups fs ((i : Int)) (N 6 (i : Int)))))] ++ [(a4, arI cy ((N 16 0).toNat) (fun _ => 0))] ++ wD cy q N sN oN U sU oU A ++ wS G cy qs rr tt N g) (lv' := [(17, .int (enc (((i + 1 : Nat) : Int)))), (16, .int (enc (cntC N (i + 1)))), (12, .ref (a1)), (13, .ref (a2)), (14, .ref (a3)), (15, .ref (a4)), (7, .int (enc (N 17 0))), (6, .int (enc (N 16 0))), (3, .int (enc (ti))), (2, .ref (qs 0)), (1, .ref (q 0)), (0, .ref (bs))]) (st' := []) (rfl) (lvc (i_succ i) (lvc (by rw [cntC_s]; split <;> omega) rfl)) rfl (ih462 (i + 1) ((ups fw ((i : Int)) (N 4 (i : Int)))) ((ups fk ((i : Int)) (N 5 (i : Int)))) ((ups fs ((i : Int)) (N 6 (i : Int)))) (by omega) (by omega) (up_next (h := N 4) hw) (up_next (h := N 5) hk9) (up_next (h := N 6) hs9))
                        · skip
                          exact (show False by omega).elim
        · skip
          refine tw_iconst X dL_law_512 ?_
          refine tw_goto (tgt := 517) X dL_law_513 (by decide) ?_
          refine tw_iadd (z := (cntC N i) + 1) X dL_law_517 rfl ?_
          refine tw_istore (lv' := [(16, .int (enc ((cntC N i) + 1))), (17, .int (enc ((i : Int)))), (12, .ref (a1)), (13, .ref (a2)), (14, .ref (a3)), (15, .ref (a4)), (7, .int (enc (N 17 0))), (6, .int (enc (N 16 0))), (3, .int (enc (ti))), (2, .ref (qs 0)), (1, .ref (q 0)), (0, .ref (bs))]) X dL_law_518 (by decide) rfl ?_
          refine tw_aload X dL_law_520 2 rfl ?_
          refine tw_iload X dL_law_522 1 rfl ?_
          refine tw_iald X (N := (N 16 0).toNat) (f := (ups fw ((i : Int)) (N 4 (i : Int)))) 0 rfl (by omega) (by omega) dL_law_524 ?_
          refine Tst (st' := [.int (enc (N 4 (i : Int)))]) (by rw [ups_same]) ?_
          refine tw_if_lt (tgt := 611) X (In_of (by omega) (by omega)) dL_law_525 (by decide) (fun c525 => ?_) (fun c525 => ?_)
          · skip
            exact (show False by omega).elim
          · skip
            refine tw_aload X dL_law_528 3 rfl ?_
            refine tw_iload X dL_law_530 1 rfl ?_
            refine tw_iald X (N := (N 16 0).toNat) (f := (ups fk ((i : Int)) (N 5 (i : Int)))) 1 rfl (by omega) (by omega) dL_law_532 ?_
            refine Tst (st' := [.int (enc (N 5 (i : Int)))]) (by rw [ups_same]) ?_
            refine tw_if_lt (tgt := 611) X (In_of (by omega) (by omega)) dL_law_533 (by decide) (fun c533 => ?_) (fun c533 => ?_)
            · skip
              exact (show False by omega).elim
            · skip
              refine tw_aload X dL_law_536 3 rfl ?_
              refine tw_iload X dL_law_538 1 rfl ?_
              refine tw_iald X (N := (N 16 0).toNat) (f := (ups fk ((i : Int)) (N 5 (i : Int)))) 1 rfl (by omega) (by omega) dL_law_540 ?_
              refine Tst (st' := [.int (enc (N 5 (i : Int)))]) (by rw [ups_same]) ?_
              refine tw_iconst X dL_law_541 ?_
              refine tw_icmp_gt (tgt := 611) X (In_of (by omega) (by omega)) (In_of (by omega) (by omega)) dL_law_542 (by decide) (fun c542 => ?_) (fun c542 => ?_)
              · skip
                exact (show False by omega).elim
              · skip
                refine tw_aload X dL_law_545 4 rfl ?_
                refine tw_iload X dL_law_547 1 rfl ?_
                refine tw_iald X (N := (N 16 0).toNat) (f := (ups fs ((i : Int)) (N 6 (i : Int)))) 2 rfl (by omega) (by omega) dL_law_549 ?_
                refine Tst (st' := [.int (enc (N 6 (i : Int)))]) (by rw [ups_same]) ?_
                refine tw_if_lt (tgt := 611) X (In_of (by omega) (by omega)) dL_law_550 (by decide) (fun c550 => ?_) (fun c550 => ?_)
                · skip
                  exact (show False by omega).elim
                · skip
                  refine tw_aload X dL_law_553 4 rfl ?_
                  refine tw_iload X dL_law_555 1 rfl ?_
                  refine tw_iald X (N := (N 16 0).toNat) (f := (ups fs ((i : Int)) (N 6 (i : Int)))) 2 rfl (by omega) (by omega) dL_law_557 ?_
                  refine Tst (st' := [.int (enc (N 6 (i : Int)))]) (by rw [ups_same]) ?_
                  refine tw_bipush X dL_law_558 (by decide) ?_
                  refine tw_icmp_gt (tgt := 611) X (In_of (by omega) (by omega)) (In_of (by omega) (by omega)) dL_law_560 (by decide) (fun c560 => ?_) (fun c560 => ?_)
                  · skip
                    exact (show False by omega).elim
                  · skip
                    refine tw_aload_n X dL_law_563 10 rfl rfl ?_
                    refine tw_iload X dL_law_564 1 rfl ?_
                    refine tw_callV X (As := [.int (enc ((i : Int)))]) (st := []) vw_L_97 (m_X4_lengthOf (q := q) N sN oN U sU oU A ((i : Int)) (by omega) B hF (by omega)) ([(a1, arI cy ((N 16 0).toNat) (ups fw ((i : Int)) (N 4 (i : Int))))] ++ [(a2, arI cy ((N 16 0).toNat) (ups fk ((i : Int)) (N 5 (i : Int))))] ++ [(a3, arI cy ((N 16 0).toNat) (ups fs ((i : Int)) (N 6 (i : Int))))] ++ [(a4, arI cy ((N 16 0).toNat) (fun _ => 0))]) (wS G cy qs rr tt N g) (List.append_assoc _ _ _) rfl (q0 := 0) rfl rfl rfl ⟨rfl, rfl, Nat.le_of_ble_eq_true rfl, Nat.le_of_ble_eq_true rfl⟩ ⟨(show k + 1 + 1 + 1 + 1 + 0 ≤ 600104 by omega), (show n + 20 + 20 + 20 + 20 + 0 ≤ 7301314 by omega)⟩ (Nat.le_of_ble_eq_true rfl) dL_law_566 (fun v w1 hp => ?_)
                    obtain ⟨rfl, rfl⟩ := hp
                    refine Teq (ws' := [(a1, arI cy ((N 16 0).toNat) (ups fw ((i : Int)) (N 4 (i : Int))))] ++ [(a2, arI cy ((N 16 0).toNat) (ups fk ((i : Int)) (N 5 (i : Int))))] ++ [(a3, arI cy ((N 16 0).toNat) (ups fs ((i : Int)) (N 6 (i : Int))))] ++ [(a4, arI cy ((N 16 0).toNat) (fun _ => 0))] ++ wD cy q N sN oN U sU oU A ++ wS G cy qs rr tt N g) (lv' := [(16, .int (enc ((cntC N i) + 1))), (17, .int (enc ((i : Int)))), (12, .ref (a1)), (13, .ref (a2)), (14, .ref (a3)), (15, .ref (a4)), (7, .int (enc (N 17 0))), (6, .int (enc (N 16 0))), (3, .int (enc (ti))), (2, .ref (qs 0)), (1, .ref (q 0)), (0, .ref (bs))]) (st' := [.int (enc (len N (i : Int)))]) (List.append_assoc _ _ _).symm rfl rfl ?_
                    refine tw_aload_n X dL_law_569 9 rfl rfl ?_
                    refine gf_L_15 X (v := .ref (qs 1)) 49 rfl rfl dL_law_570 ?_
                    refine tw_iload X dL_law_573 1 rfl ?_
                    refine sr_aaR X (g := g) (M := N) (r := (i : Int)) ([(a1, arI cy ((N 16 0).toNat) (ups fw ((i : Int)) (N 4 (i : Int))))] ++ [(a2, arI cy ((N 16 0).toNat) (ups fk ((i : Int)) (N 5 (i : Int))))] ++ [(a3, arI cy ((N 16 0).toNat) (ups fs ((i : Int)) (N 6 (i : Int))))] ++ [(a4, arI cy ((N 16 0).toNat) (fun _ => 0))] ++ wD cy q N sN oN U sU oU A) rfl (by omega) (by omega) dL_law_575 ?_
                    refine tw_iconst X dL_law_576 ?_
                    refine sr_ldR X (g := g) (M := N) (r := (i : Int)) (v := N 2 (i : Int)) ([(a1, arI cy ((N 16 0).toNat) (ups fw ((i : Int)) (N 4 (i : Int))))] ++ [(a2, arI cy ((N 16 0).toNat) (ups fk ((i : Int)) (N 5 (i : Int))))] ++ [(a3, arI cy ((N 16 0).toNat) (ups fs ((i : Int)) (N 6 (i : Int))))] ++ [(a4, arI cy ((N 16 0).toNat) (fun _ => 0))] ++ wD cy q N sN oN U sU oU A) rfl (by omega) (by decide) rfl dL_law_577 ?_
                    have b6 := hB 2 (i : Int)
                    refine tw_aload X dL_law_578 3 rfl ?_
                    refine tw_iload X dL_law_580 1 rfl ?_
                    refine tw_iald X (N := (N 16 0).toNat) (f := (ups fk ((i : Int)) (N 5 (i : Int)))) 1 rfl (by omega) (by omega) dL_law_582 ?_
                    refine Tst (st' := [.int (enc (N 5 (i : Int))), .int (enc (N 2 (i : Int))), .int (enc (len N (i : Int)))]) (by rw [ups_same]) ?_
                    refine tw_iadd (z := (N 2 (i : Int)) + (N 5 (i : Int))) X dL_law_583 rfl ?_
                    refine tw_icmp_ne (tgt := 611) X (In_of (by omega) (by omega)) (In_of (by omega) (by omega)) dL_law_584 (by decide) (fun c584 => ?_) (fun c584 => ?_)
                    · skip
                      exact (show False by omega).elim
                    · skip
                      refine tw_aload X dL_law_587 4 rfl ?_
                      refine tw_iload X dL_law_589 1 rfl ?_
                      refine tw_iald X (N := (N 16 0).toNat) (f := (ups fs ((i : Int)) (N 6 (i : Int)))) 2 rfl (by omega) (by omega) dL_law_591 ?_
                      refine Tst (st' := [.int (enc (N 6 (i : Int)))]) (by rw [ups_same]) ?_
                      refine tw_if_ne (tgt := 613) X (In_of (by omega) (by omega)) dL_law_592 (by decide) (fun c592 => ?_) (fun c592 => ?_)
                      · skip
                        refine tw_iinc (q := 1) (x := (i : Int)) (y := (i : Int) + 1) (lv' := [(17, .int (enc ((i : Int) + 1))), (16, .int (enc ((cntC N i) + 1))), (12, .ref (a1)), (13, .ref (a2)), (14, .ref (a3)), (15, .ref (a4)), (7, .int (enc (N 17 0))), (6, .int (enc (N 16 0))), (3, .int (enc (ti))), (2, .ref (qs 0)), (1, .ref (q 0)), (0, .ref (bs))]) X dL_law_613 rfl rfl (by decide) rfl ?_
                        refine tw_goto (tgt := 462) X dL_law_616 (by decide) ?_
                        refine Tsub (lv' := [(17, .int (enc ((i : Int) + 1))), (16, .int (enc ((cntC N i) + 1))), (12, .ref (a1)), (13, .ref (a2)), (14, .ref (a3)), (15, .ref (a4)), (7, .int (enc (N 17 0))), (6, .int (enc (N 16 0))), (3, .int (enc (ti))), (2, .ref (qs 0)), (1, .ref (q 0)), (0, .ref (bs))]) [0, 1, 2, 3, 4, 5, 6, 7, 8, 9, 10, 11] rfl ?_
                        refine Teq (ws' := [(a1, arI cy ((N 16 0).toNat) ((ups fw ((i : Int)) (N 4 (i : Int)))))] ++ [(a2, arI cy ((N 16 0).toNat) ((ups fk ((i : Int)) (N 5 (i : Int)))))] ++ [(a3, arI cy ((N 16 0).toNat) ((ups fs ((i : Int)) (N 6 (i : Int)))))] ++ [(a4, arI cy ((N 16 0).toNat) (fun _ => 0))] ++ wD cy q N sN oN U sU oU A ++ wS G cy qs rr tt N g) (lv' := [(17, .int (enc (((i + 1 : Nat) : Int)))), (16, .int (enc (cntC N (i + 1)))), (12, .ref (a1)), (13, .ref (a2)), (14, .ref (a3)), (15, .ref (a4)), (7, .int (enc (N 17 0))), (6, .int (enc (N 16 0))), (3, .int (enc (ti))), (2, .ref (qs 0)), (1, .ref (q 0)), (0, .ref (bs))]) (st' := []) (rfl) (lvc (i_succ i) (lvc (by rw [cntC_s]; split <;> omega) rfl)) rfl (ih462 (i + 1) ((ups fw ((i : Int)) (N 4 (i : Int)))) ((ups fk ((i : Int)) (N 5 (i : Int)))) ((ups fs ((i : Int)) (N 6 (i : Int)))) (by omega) (by omega) (up_next (h := N 4) hw) (up_next (h := N 5) hk9) (up_next (h := N 6) hs9))
                      · skip
                        refine tw_aload X dL_law_595 2 rfl ?_
                        refine tw_iload X dL_law_597 1 rfl ?_
                        refine tw_iald X (N := (N 16 0).toNat) (f := (ups fw ((i : Int)) (N 4 (i : Int)))) 0 rfl (by omega) (by omega) dL_law_599 ?_
                        refine Tst (st' := [.int (enc (N 4 (i : Int)))]) (by rw [ups_same]) ?_
                        refine tw_aload_n X dL_law_600 10 rfl rfl ?_
                        refine tw_aload_n X dL_law_601 10 rfl rfl ?_
                        refine tw_callV X (As := []) (st := [.ref (q 0), .int (enc (N 4 (i : Int)))]) vw_L_106 (m_X4_mostWorn (q := q) N sN oN U sU oU A hB (by omega)) ([(a1, arI cy ((N 16 0).toNat) (ups fw ((i : Int)) (N 4 (i : Int))))] ++ [(a2, arI cy ((N 16 0).toNat) (ups fk ((i : Int)) (N 5 (i : Int))))] ++ [(a3, arI cy ((N 16 0).toNat) (ups fs ((i : Int)) (N 6 (i : Int))))] ++ [(a4, arI cy ((N 16 0).toNat) (fun _ => 0))]) (wS G cy qs rr tt N g) (List.append_assoc _ _ _) rfl (q0 := 0) rfl rfl rfl ⟨rfl, rfl, Nat.le_of_ble_eq_true rfl, Nat.le_of_ble_eq_true rfl⟩ ⟨(show k + 1 + 1 + 1 + 1 + 0 ≤ 600104 by omega), (show n + 20 + 20 + 20 + 20 + 0 ≤ 7301314 by omega)⟩ (Nat.le_of_ble_eq_true rfl) dL_law_602 (fun v w1 hp => ?_)
                        obtain ⟨rfl, rfl⟩ := hp
                        refine Teq (ws' := [(a1, arI cy ((N 16 0).toNat) (ups fw ((i : Int)) (N 4 (i : Int))))] ++ [(a2, arI cy ((N 16 0).toNat) (ups fk ((i : Int)) (N 5 (i : Int))))] ++ [(a3, arI cy ((N 16 0).toNat) (ups fs ((i : Int)) (N 6 (i : Int))))] ++ [(a4, arI cy ((N 16 0).toNat) (fun _ => 0))] ++ wD cy q N sN oN U sU oU A ++ wS G cy qs rr tt N g) (lv' := [(16, .int (enc ((cntC N i) + 1))), (17, .int (enc ((i : Int)))), (12, .ref (a1)), (13, .ref (a2)), (14, .ref (a3)), (15, .ref (a4)), (7, .int (enc (N 17 0))), (6, .int (enc (N 16 0))), (3, .int (enc (ti))), (2, .ref (qs 0)), (1, .ref (q 0)), (0, .ref (bs))]) (st' := [.int (enc ((mostW N (N 16 0).toNat).1)), .ref (q 0), .int (enc (N 4 (i : Int)))]) (List.append_assoc _ _ _).symm rfl rfl ?_
                        have hm3 := hmv.2.2 (i : Int) (by omega) (by omega) c592
                        have hm1 := hmv.1
                        have hm2 := hmv.2.1
                        have hm4 : 0 ≤ (mostW N (N 16 0).toNat).1 := Int.not_lt.mp (fun z => by have := hm1 z; omega)
                        have hm5 := hm2 hm4
                        have hbm := hB 4 (mostW N (N 16 0).toNat).1
                        refine tw_callV X (As := [.int (enc ((mostW N (N 16 0).toNat).1))]) (st := [.int (enc (N 4 (i : Int)))]) vw_L_100 (m_X4_wearOf (q := q) N sN oN U sU oU A ((mostW N (N 16 0).toNat).1) (by omega) B hF (by omega)) ([(a1, arI cy ((N 16 0).toNat) (ups fw ((i : Int)) (N 4 (i : Int))))] ++ [(a2, arI cy ((N 16 0).toNat) (ups fk ((i : Int)) (N 5 (i : Int))))] ++ [(a3, arI cy ((N 16 0).toNat) (ups fs ((i : Int)) (N 6 (i : Int))))] ++ [(a4, arI cy ((N 16 0).toNat) (fun _ => 0))]) (wS G cy qs rr tt N g) (List.append_assoc _ _ _) rfl (q0 := 0) rfl rfl rfl ⟨rfl, rfl, Nat.le_of_ble_eq_true rfl, Nat.le_of_ble_eq_true rfl⟩ ⟨(show k + 1 + 1 + 1 + 1 + 0 ≤ 600104 by omega), (show n + 20 + 20 + 20 + 20 + 0 ≤ 7301314 by omega)⟩ (Nat.le_of_ble_eq_true rfl) dL_law_605 (fun v w1 hp => ?_)
                        obtain ⟨rfl, rfl⟩ := hp
                        refine Teq (ws' := [(a1, arI cy ((N 16 0).toNat) (ups fw ((i : Int)) (N 4 (i : Int))))] ++ [(a2, arI cy ((N 16 0).toNat) (ups fk ((i : Int)) (N 5 (i : Int))))] ++ [(a3, arI cy ((N 16 0).toNat) (ups fs ((i : Int)) (N 6 (i : Int))))] ++ [(a4, arI cy ((N 16 0).toNat) (fun _ => 0))] ++ wD cy q N sN oN U sU oU A ++ wS G cy qs rr tt N g) (lv' := [(16, .int (enc ((cntC N i) + 1))), (17, .int (enc ((i : Int)))), (12, .ref (a1)), (13, .ref (a2)), (14, .ref (a3)), (15, .ref (a4)), (7, .int (enc (N 17 0))), (6, .int (enc (N 16 0))), (3, .int (enc (ti))), (2, .ref (qs 0)), (1, .ref (q 0)), (0, .ref (bs))]) (st' := [.int (enc (N 4 ((mostW N (N 16 0).toNat).1))), .int (enc (N 4 (i : Int)))]) (List.append_assoc _ _ _).symm rfl rfl ?_
                        have b7 := hB 4 (((mostW N (N 16 0).toNat).1))
                        refine tw_icmp_le (tgt := 613) X (In_of (by omega) (by omega)) (In_of (by omega) (by omega)) dL_law_608 (by decide) (fun c608 => ?_) (fun c608 => ?_)
                        · skip
                          refine tw_iinc (q := 1) (x := (i : Int)) (y := (i : Int) + 1) (lv' := [(17, .int (enc ((i : Int) + 1))), (16, .int (enc ((cntC N i) + 1))), (12, .ref (a1)), (13, .ref (a2)), (14, .ref (a3)), (15, .ref (a4)), (7, .int (enc (N 17 0))), (6, .int (enc (N 16 0))), (3, .int (enc (ti))), (2, .ref (qs 0)), (1, .ref (q 0)), (0, .ref (bs))]) X dL_law_613 rfl rfl (by decide) rfl ?_
                          refine tw_goto (tgt := 462) X dL_law_616 (by decide) ?_
                          refine Tsub (lv' := [(17, .int (enc ((i : Int) + 1))), (16, .int (enc ((cntC N i) + 1))), (12, .ref (a1)), (13, .ref (a2)), (14, .ref (a3)), (15, .ref (a4)), (7, .int (enc (N 17 0))), (6, .int (enc (N 16 0))), (3, .int (enc (ti))), (2, .ref (qs 0)), (1, .ref (q 0)), (0, .ref (bs))]) [0, 1, 2, 3, 4, 5, 6, 7, 8, 9, 10, 11] rfl ?_
                          refine Teq (ws' := [(a1, arI cy ((N 16 0).toNat) ((ups fw ((i : Int)) (N 4 (i : Int)))))] ++ [(a2, arI cy ((N 16 0).toNat) ((ups fk ((i : Int)) (N 5 (i : Int)))))] ++ [(a3, arI cy ((N 16 0).toNat) ((ups fs ((i : Int)) (N 6 (i : Int)))))] ++ [(a4, arI cy ((N 16 0).toNat) (fun _ => 0))] ++ wD cy q N sN oN U sU oU A ++ wS G cy qs rr tt N g) (lv' := [(17, .int (enc (((i + 1 : Nat) : Int)))), (16, .int (enc (cntC N (i + 1)))), (12, .ref (a1)), (13, .ref (a2)), (14, .ref (a3)), (15, .ref (a4)), (7, .int (enc (N 17 0))), (6, .int (enc (N 16 0))), (3, .int (enc (ti))), (2, .ref (qs 0)), (1, .ref (q 0)), (0, .ref (bs))]) (st' := []) (rfl) (lvc (i_succ i) (lvc (by rw [cntC_s]; split <;> omega) rfl)) rfl (ih462 (i + 1) ((ups fw ((i : Int)) (N 4 (i : Int)))) ((ups fk ((i : Int)) (N 5 (i : Int)))) ((ups fs ((i : Int)) (N 6 (i : Int)))) (by omega) (by omega) (up_next (h := N 4) hw) (up_next (h := N 5) hk9) (up_next (h := N 6) hs9))
                        · skip
                          exact (show False by omega).elim
  refine Tsub (lv' := [(17, .int (enc (0))), (16, .int (enc (0))), (12, .ref (a1)), (13, .ref (a2)), (14, .ref (a3)), (15, .ref (a4)), (7, .int (enc (N 17 0))), (6, .int (enc (N 16 0))), (3, .int (enc (ti))), (2, .ref (qs 0)), (1, .ref (q 0)), (0, .ref (bs))]) [0, 1, 5, 4, 3, 2, 6, 7, 8, 9, 10, 11] rfl ?_
  refine Teq (ws' := [(a1, arI cy ((N 16 0).toNat) (fun _ => 0))] ++ [(a2, arI cy ((N 16 0).toNat) (fun _ => 0))] ++ [(a3, arI cy ((N 16 0).toNat) (fun _ => 0))] ++ [(a4, arI cy ((N 16 0).toNat) (fun _ => 0))] ++ wD cy q N sN oN U sU oU A ++ wS G cy qs rr tt N g) (lv' := [(17, .int (enc (((0 : Nat) : Int)))), (16, .int (enc (cntC N 0))), (12, .ref (a1)), (13, .ref (a2)), (14, .ref (a3)), (15, .ref (a4)), (7, .int (enc (N 17 0))), (6, .int (enc (N 16 0))), (3, .int (enc (ti))), (2, .ref (qs 0)), (1, .ref (q 0)), (0, .ref (bs))]) (st' := []) (rfl) (rfl) rfl (L462 (N 16 0 + 1).toNat 0 (fun _ => 0) (fun _ => 0) (fun _ => 0) (by omega) (by omega) (fun r r0 r1 => absurd r1 (by omega)) (fun r r0 r1 => absurd r1 (by omega)) (fun r r0 r1 => absurd r1 (by omega)))
