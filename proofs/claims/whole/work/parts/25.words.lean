/-! WHAT A THROW NEEDS OF THE TABLES AND OF THE STATE -/
def eISE : String := "java/lang/IllegalStateException"
def eIOB : String := "java/lang/IndexOutOfBoundsException"
def eIAE : String := "java/lang/IllegalArgumentException"
def upE : List String := ["java/lang/RuntimeException", "java/lang/Exception"]
def nbE : List Cond := [.castable eISE eISE, .castable eIOB eIOB, .castable eIAE eIAE, .declares ⟨"java/lang/RuntimeException", "<init>", "(Ljava/lang/String;)V"⟩, .declares ⟨"java/lang/Exception", "<init>", "(Ljava/lang/String;)V"⟩, .declares ⟨"java/lang/Throwable", "<init>", "(Ljava/lang/String;)V"⟩]
def txE : List (Nat × String) := [(32, "there are 10 crossings"), (47, "both crossings are the same"), (50, "length is not 1 to 9"), (52, "dye is not 0 to 3"), (63, "there are 20 roads"), (76, "there are 12 tourists"), (82, "no way leads there"), (93, "hours is not 1 to 20"), (99, "the road is closed"), (112, "somebody is on the road"), (241, "no such crossing"), (244, "no such road"), (246, "no such tourist"), (248, "hours is not 1 to 50")]
def ncE : List (String × String) := [(eIOB, eISE), (eIAE, eISE), (eISE, eIOB), (eIAE, eIOB), (eISE, eIAE), (eIOB, eIAE)]
theorem lwA_of {w : Cond} (h : w ∈ lw_tbl) (g : goodWord w = true) : w ∈ lwA := List.mem_filter.mpr ⟨h, g⟩
/-- a class of exceptions that the class throws: its words -/
def ThI (E : String) (ik ic : Nat) : Prop := Cond.classLink RX4 ik E ∈ lwA ∧ Cond.initialized E ∈ lwA ∧ Bundle.fit E = true ∧ (∀ w ∈ vx_atS RX4 ic E upE, w ∈ lwA ∨ w ∈ nbE) ∧ ∀ w ∈ Cond.classLink RX4 ik E :: Cond.initialized E :: vx_atS RX4 ic E upE, vx_ot w = true
set_option maxRecDepth 100000 in
theorem at_ISE_t : ∀ w ∈ vx_atS RX4 34 eISE upE, w ∈ lw_tbl := by decide +kernel
set_option maxRecDepth 100000 in
theorem at_ISE_n : ∀ w ∈ vx_atS RX4 34 eISE upE, goodWord w = true ∨ w ∈ nbE := by decide +kernel
set_option maxRecDepth 100000 in
theorem at_ISE_o : ∀ w ∈ Cond.classLink RX4 30 eISE :: Cond.initialized eISE :: vx_atS RX4 34 eISE upE, vx_ot w = true := by decide +kernel
theorem wz_ISE : Cond.initialized eISE ∈ lwA := lwA_of (by decide +kernel) rfl
theorem th_ISE : ThI eISE 30 34 := ⟨wc_X4_30, wz_ISE, by decide +kernel, fun w h => (at_ISE_n w h).elim (fun g => Or.inl (lwA_of (at_ISE_t w h) g)) Or.inr, at_ISE_o⟩
set_option maxRecDepth 100000 in
theorem at_IOB_t : ∀ w ∈ vx_atS RX4 243 eIOB upE, w ∈ lw_tbl := by decide +kernel
set_option maxRecDepth 100000 in
theorem at_IOB_n : ∀ w ∈ vx_atS RX4 243 eIOB upE, goodWord w = true ∨ w ∈ nbE := by decide +kernel
set_option maxRecDepth 100000 in
theorem at_IOB_o : ∀ w ∈ Cond.classLink RX4 239 eIOB :: Cond.initialized eIOB :: vx_atS RX4 243 eIOB upE, vx_ot w = true := by decide +kernel
theorem wz_IOB : Cond.initialized eIOB ∈ lwA := lwA_of (by decide +kernel) rfl
theorem th_IOB : ThI eIOB 239 243 := ⟨wc_X4_239, wz_IOB, by decide +kernel, fun w h => (at_IOB_n w h).elim (fun g => Or.inl (lwA_of (at_IOB_t w h) g)) Or.inr, at_IOB_o⟩
set_option maxRecDepth 100000 in
theorem at_IAE_t : ∀ w ∈ vx_atS RX4 49 eIAE upE, w ∈ lw_tbl := by decide +kernel
set_option maxRecDepth 100000 in
theorem at_IAE_n : ∀ w ∈ vx_atS RX4 49 eIAE upE, goodWord w = true ∨ w ∈ nbE := by decide +kernel
set_option maxRecDepth 100000 in
theorem at_IAE_o : ∀ w ∈ Cond.classLink RX4 45 eIAE :: Cond.initialized eIAE :: vx_atS RX4 49 eIAE upE, vx_ot w = true := by decide +kernel
theorem wz_IAE : Cond.initialized eIAE ∈ lwA := lwA_of (by decide +kernel) rfl
theorem th_IAE : ThI eIAE 45 49 := ⟨wc_X4_45, wz_IAE, by decide +kernel, fun w h => (at_IAE_n w h).elim (fun g => Or.inl (lwA_of (at_IAE_t w h) g)) Or.inr, at_IAE_o⟩
/-- what of the state a throw needs, besides the good words: kept by warming, and by a call -/
def XS (U : State) : Prop := (∀ w ∈ nbE, va_Nw w U) ∧ (∀ q ∈ txE, ∃ a : Nat, vk_R RX4 q.1 q.2 a U) ∧ ∀ q ∈ ncE, va_Nc q.1 q.2 U
theorem XS.all {P : Cond → Prop} (h1 : ∀ a b : String, Cond.castable a b ∈ nbE → P (Cond.castable a b)) (h2 : ∀ x : MethodName, Cond.declares x ∈ nbE → P (Cond.declares x)) : ∀ w ∈ nbE, P w := by
  intro w hw
  have hw2 := hw
  unfold nbE at hw2
  simp only [List.mem_cons, List.not_mem_nil, or_false] at hw2
  rcases hw2 with rfl | rfl | rfl | rfl | rfl | rfl
  · exact h1 _ _ hw
  · exact h1 _ _ hw
  · exact h1 _ _ hw
  · exact h2 _ hw
  · exact h2 _ hw
  · exact h2 _ hw
theorem XS.warm {s U : State} (hW : s.WarmedH U.vm) (h : XS s) : XS U := ⟨XS.all (fun _ _ hw => va_Nw.warmC hW (h.1 _ hw)) (fun _ hw => va_Nw.warmD hW (h.1 _ hw)), fun q hq => by
  obtain ⟨a, z⟩ := h.2.1 q hq
  exact ⟨a, vk_R.warm hW z⟩, fun q hq => va_Nc.moved hW.alike (h.2.2 q hq)⟩
theorem XS.same {u U : State} (e : u.vm = U.vm) (h : XS u) : XS U := ⟨XS.all (fun _ _ hw => va_Nw.same rfl e (h.1 _ hw)) (fun _ hw => va_Nw.same rfl e (h.1 _ hw)), fun q hq => by
  obtain ⟨a, z⟩ := h.2.1 q hq
  exact ⟨a, vk_R.same e.symm z⟩, fun q hq => va_Nc.moved (by rw [e]; exact Vm.Alike.refl _) (h.2.2 q hq)⟩
def XZ (A : Nat → Prop) (U : State) (H : Heap) : Prop := vx_Zq Bundle.tN "UNASSIGNED_STACK" Bundle.steD A U H ∧ vx_Zq Bundle.tN "SUPPRESSED_SENTINEL" Bundle.listD A U H
theorem XZ.to {A B : Nat → Prop} {s U : State} {H0 H : Heap} {locs : List Loc} (h : XZ A s H0) (hS : va_S A H0 H locs) (hAB : ∀ q, B q → A q) (hvm : s.vm.Alike U.vm) : XZ B U H := ⟨(vx_Zq.moved hvm (h.1.kept hS.2.1)).narrow hAB, (vx_Zq.moved hvm (h.2.kept hS.2.1)).narrow hAB⟩
