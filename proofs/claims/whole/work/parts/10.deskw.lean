theorem iwX1_collect_1 : ∀ w ∈ wsX10, w ∈ wsX1_collect := fun _ h => List.mem_cons_of_mem _ (List.mem_append_right _ h)
set_option maxHeartbeats 1000000 in
set_option maxRecDepth 100000 in
/-- collect(x, v) -/
theorem c_collect (l : Launch) (dC : Nat → ClassId) (dI : Nat → Nat → Nat) (h qT qC qS qA qF : Nat) (cT cC cS cA cF : ClassId) (ad : Nat → Nat) (n : Nat) (kd ok cn rc : Nat → Int32) (rs an : Nat → Int64) (fl : Nat → Int32) (t0 t1 t2 t3 t4 t5 : Int32) (sz : Nat) (x : Int32) (v : Int64) : Met l yX1_collect wsX1_collect ({ frames := 1, cells := 0, slots := 0, locals := 21 }) (va_Pc [.ref h, .int x, .long v] (dQ dC dI [(cT, .object "MainframeDesk$Thing"), (cC, .int), (cS, .long), (cA, .long), (cF, .int)] (dW h qT qC qS qA qF cT cC cS cA cF ad n kd ok cn rc rs an fl t0 t1 t2 t3 t4 t5) sz)) (va_Qi (fun (r : Int32) (u : dM) => (r, u) = mCollect (n, kd, ok, cn, rc, rs, an, fl, t0, t1, t2, t3, t4, t5) x v) (fun u t => dAt dC dI (dWm h qT qC qS qA qF cT cC cS cA cF ad u) (va_A (dW h qT qC qS qA qF cT cC cS cA cF ad n kd ok cn rc rs an fl t0 t1 t2 t3 t4 t5) sz) t) (va_A (dW h qT qC qS qA qF cT cC cS cA cF ad n kd ok cn rc rs an fl t0 t1 t2 t3 t4 t5) sz)) 0 0 (va_A (dW h qT qC qS qA qF cT cC cS cA cF ad n kd ok cn rc rs an fl t0 t1 t2 t3 t4 t5) sz) := by
  refine Met.ofW (cc := cX1_collect) (maxL := 4) (ret := (some .int)) (by decide) rfl ?_
  intro p e s m args below meth c s₁ B hml hv
  obtain ⟨rfl, hsz, hP, hK, hD0, hN⟩ := hv
  have hx := B.exec
  have hb := B.bytes
  have hr := B.returns
  have hts := atoms_spec (ws := wsX1_collect) B.pre
  have hown : s.vm.findClass RX1 = some m.cls := findClass_of_methodNamed B.named
  have hlocks := B.notSynchronized
  subst hsz
  have hD := hD0.self (sz := s.heap.size)
  generalize hAe : va_A (dW h qT qC qS qA qF cT cC cS cA cF ad n kd ok cn rc rs an fl t0 t1 t2 t3 t4 t5) s.heap.size = A at hD ⊢
  have hA : ∀ q : Nat, s.heap.size ≤ q → A q := fun q h => by rw [← hAe]; exact Or.inr h
  have hS : va_S A s.heap s.heap [] := va_S.rf
  have hl := lv_entry ([.ref h, .int x, .long v]) (n := 4) (Nat.le_of_ble_eq_true rfl)
  rw [lg_entry_eq]
  generalize (lg_sl ([.ref h, .int x, .long v]) ++ List.replicate (4 - (lg_sl ([.ref h, .int x, .long v])).length) Slot.unset).toArray = ls at hl ⊢
  have hl : lv_has ls 4 [(0, .ref h), (1, .int x), (2, .long v)] := hl
  refine lv_iload_n hx hb dX1_collect_0 rfl (lv_at hl 1 rfl) ?_
  refine lv_iconst (v := 4) hx hb dX1_collect_1 (by decide) ?_
  refine vp_callSi (W.runS (As := [.int x, .int 4]) (rest := []) ⟨hx, hb, hml, hown, hts⟩ (c_isWithin l x 4) (va_cwS 2 hts gX1_collect_X1_isWithin rfl rfl rfl (by decide +kernel) ⟨Nat.le_of_ble_eq_true rfl, Nat.le_of_ble_eq_true rfl⟩) ⟨fun _ _ _ _ q => q, fun _ _ _ => ⟨rfl, trivial⟩⟩ rfl rfl hl.1 rfl (lv_room (Nat.le_of_ble_eq_true rfl)) dX1_collect_2 ⟨Nat.le_of_ble_eq_true rfl, Nat.le_of_ble_eq_true rfl⟩) (fun r9 hr9 => ?_)
  rcases hr9 with ⟨hq_48, rfl⟩ | ⟨hq_48, rfl⟩
  · refine lv_if_eq (tgt := 19) hx hb dX1_collect_5 (by decide) (fun h => absurd h (by decide)) (fun _ => ?_)
    refine lv_aload_n hx hb dX1_collect_8 rfl (lv_at hl 0 rfl) ?_
    refine va_get (D := (dC, dI)) (ci := 1) (v := .ref qC) (C := RX1) (T := TX1) (N := 12) hx hb hts iwX1_collect_1 hown hK hP 0 rfl rfl 2 (by decide) (hts (.fieldLink RX1 19 "MainframeDesk" "rowCounts" "[I") (by decide +kernel)) (fun _ h9 => h9) rfl dX1_collect_9 ?_
    refine lv_iload_n hx hb dX1_collect_12 rfl (lv_at hl 1 rfl) ?_
    refine va_iald hx hb hK hP 2 1 rfl rfl (kx_in hq_48 (by decide)) dX1_collect_13 ?_
    refine lv_topi (fun v_50 ev_50 => ?_)
    refine lv_bipush (v := 50) hx hb dX1_collect_14 (by decide) ?_
    refine lv_icmp_lt (tgt := 21) hx hb dX1_collect_16 (by decide) (fun c_51 => ?_) (fun c_51 => ?_)
    · refine lv_aload_n hx hb dX1_collect_21 rfl (lv_at hl 0 rfl) ?_
      refine va_get (D := (dC, dI)) (ci := 1) (v := .ref qC) (C := RX1) (T := TX1) (N := 12) hx hb hts iwX1_collect_1 hown hK hP 0 rfl rfl 2 (by decide) (hts (.fieldLink RX1 19 "MainframeDesk" "rowCounts" "[I") (by decide +kernel)) (fun _ h9 => h9) rfl dX1_collect_22 ?_
      refine lv_iload_n hx hb dX1_collect_25 rfl (lv_at hl 1 rfl) ?_
      refine lv_dup2_11 hx hb dX1_collect_26 rfl rfl ?_
      refine va_iald hx hb hK hP 2 1 rfl rfl (kx_in hq_48 (by decide)) dX1_collect_27 ?_
      refine lv_topi (fun v_52 ev_52 => ?_)
      refine lv_iconst (v := 1) hx hb dX1_collect_28 (by decide) ?_
      refine lv_iadd hx hb dX1_collect_29 ?_
      refine lv_topi (fun z_53 ez_53 => ?_)
      refine va_iast hx hb hK hP hD hS 2 1 rfl rfl (kx_in hq_48 (by decide)) dX1_collect_30 (fun H locs hP hD hS => ?_)
      have hP : va_P (dC, dI) vwCl (dW h qT qC qS qA qF cT cC cS cA cF ad n kd ok cn (upd rc x.toNatClampNeg z_53) rs an fl t0 t1 t2 t3 t4 t5) H := hP
      have hD : va_D A (dW h qT qC qS qA qF cT cC cS cA cF ad n kd ok cn (upd rc x.toNatClampNeg z_53) rs an fl t0 t1 t2 t3 t4 t5) := hD
      refine lv_aload_n hx hb dX1_collect_31 rfl (lv_at hl 0 rfl) ?_
      refine va_get (D := (dC, dI)) (ci := 1) (v := .ref qS) (C := RX1) (T := TX1) (N := 12) hx hb hts iwX1_collect_1 hown hK hP 0 rfl rfl 3 (by decide) (hts (.fieldLink RX1 23 "MainframeDesk" "rowSums" "[J") (by decide +kernel)) (fun _ h9 => h9) rfl dX1_collect_32 ?_
      refine lv_iload_n hx hb dX1_collect_35 rfl (lv_at hl 1 rfl) ?_
      refine lv_dup2_11 hx hb dX1_collect_36 rfl rfl ?_
      refine va_lald hx hb hK hP 3 2 rfl rfl (kx_in hq_48 (by decide)) dX1_collect_37 ?_
      refine lv_topl (fun v_54 ev_54 => ?_)
      refine lv_lload_n hx hb dX1_collect_38 rfl (lv_at hl 2 rfl) ?_
      refine lv_ladd hx hb dX1_collect_39 ?_
      refine lv_topl (fun z_55 ez_55 => ?_)
      refine va_last hx hb hK hP hD hS 3 2 rfl rfl (kx_in hq_48 (by decide)) dX1_collect_40 (fun H locs hP hD hS => ?_)
      have hP : va_P (dC, dI) vwCl (dW h qT qC qS qA qF cT cC cS cA cF ad n kd ok cn (upd rc x.toNatClampNeg z_53) (vp_updL rs x.toNatClampNeg z_55) an fl t0 t1 t2 t3 t4 t5) H := hP
      have hD : va_D A (dW h qT qC qS qA qF cT cC cS cA cF ad n kd ok cn (upd rc x.toNatClampNeg z_53) (vp_updL rs x.toNatClampNeg z_55) an fl t0 t1 t2 t3 t4 t5) := hD
      refine lv_aload_n hx hb dX1_collect_41 rfl (lv_at hl 0 rfl) ?_
      refine va_get (D := (dC, dI)) (ci := 1) (v := .ref qC) (C := RX1) (T := TX1) (N := 12) hx hb hts iwX1_collect_1 hown hK hP 0 rfl rfl 2 (by decide) (hts (.fieldLink RX1 19 "MainframeDesk" "rowCounts" "[I") (by decide +kernel)) (fun _ h9 => h9) rfl dX1_collect_42 ?_
      refine lv_iload_n hx hb dX1_collect_45 rfl (lv_at hl 1 rfl) ?_
      refine va_iald hx hb hK hP 2 1 rfl rfl (kx_in hq_48 (by decide)) dX1_collect_46 ?_
      refine lv_topi (fun v_56 ev_56 => ?_)
      rw [pk_us] at ev_56
      exact W.iret (v := v_56) hx hb hr (fun t ht hW => ⟨⟨_, (n, kd, ok, cn, upd rc x.toNatClampNeg z_53, vp_updL rs x.toNatClampNeg z_55, an, fl, t0, t1, t2, t3, t4, t5), rfl, (by subst ev_50; subst ev_52; subst ez_53; subst ev_54; subst ez_55; subst ev_56; exact (if_pos ⟨hq_48, c_51⟩).symm), by rw [ht]; exact hP, hD⟩, hS.F ht⟩) hS.2.2 dX1_collect_47
    · refine lv_iconst (v := (-1)) hx hb dX1_collect_19 (by decide) ?_
      exact W.iret (v := (-1)) hx hb hr (fun t ht hW => ⟨⟨_, (n, kd, ok, cn, rc, rs, an, fl, t0, t1, t2, t3, t4, t5), rfl, (by subst ev_50; exact (if_neg (fun q => c_51 q.2)).symm), by rw [ht]; exact hP, hD⟩, hS.F ht⟩) hS.2.2 dX1_collect_20
  · refine lv_if_eq (tgt := 19) hx hb dX1_collect_5 (by decide) (fun _ => ?_) (fun h => absurd h (by decide))
    refine lv_iconst (v := (-1)) hx hb dX1_collect_19 (by decide) ?_
    exact W.iret (v := (-1)) hx hb hr (fun t ht hW => ⟨⟨_, (n, kd, ok, cn, rc, rs, an, fl, t0, t1, t2, t3, t4, t5), rfl, (by exact (if_neg (fun q => hq_48 q.1)).symm), by rw [ht]; exact hP, hD⟩, hS.F ht⟩) hS.2.2 dX1_collect_20
theorem iwX1_answer_1 : ∀ w ∈ wsX10, w ∈ wsX1_answer := fun _ h => List.mem_cons_of_mem _ (List.mem_append_right _ h)
set_option maxHeartbeats 1000000 in
set_option maxRecDepth 100000 in
/-- answer(x, v) -/
theorem c_answer (l : Launch) (dC : Nat → ClassId) (dI : Nat → Nat → Nat) (h qT qC qS qA qF : Nat) (cT cC cS cA cF : ClassId) (ad : Nat → Nat) (n : Nat) (kd ok cn rc : Nat → Int32) (rs an : Nat → Int64) (fl : Nat → Int32) (t0 t1 t2 t3 t4 t5 : Int32) (sz : Nat) (x : Int32) (v : Int64) : Met l yX1_answer wsX1_answer ({ frames := 1, cells := 0, slots := 0, locals := 21 }) (va_Pc [.ref h, .int x, .long v] (dQ dC dI [(cT, .object "MainframeDesk$Thing"), (cC, .int), (cS, .long), (cA, .long), (cF, .int)] (dW h qT qC qS qA qF cT cC cS cA cF ad n kd ok cn rc rs an fl t0 t1 t2 t3 t4 t5) sz)) (va_Qi (fun (r : Int32) (u : dM) => (r, u) = mAnswer (n, kd, ok, cn, rc, rs, an, fl, t0, t1, t2, t3, t4, t5) x v) (fun u t => dAt dC dI (dWm h qT qC qS qA qF cT cC cS cA cF ad u) (va_A (dW h qT qC qS qA qF cT cC cS cA cF ad n kd ok cn rc rs an fl t0 t1 t2 t3 t4 t5) sz) t) (va_A (dW h qT qC qS qA qF cT cC cS cA cF ad n kd ok cn rc rs an fl t0 t1 t2 t3 t4 t5) sz)) 0 0 (va_A (dW h qT qC qS qA qF cT cC cS cA cF ad n kd ok cn rc rs an fl t0 t1 t2 t3 t4 t5) sz) := by
  refine Met.ofW (cc := cX1_answer) (maxL := 4) (ret := (some .int)) (by decide) rfl ?_
  intro p e s m args below meth c s₁ B hml hv
  obtain ⟨rfl, hsz, hP, hK, hD0, hN⟩ := hv
  have hx := B.exec
  have hb := B.bytes
  have hr := B.returns
  have hts := atoms_spec (ws := wsX1_answer) B.pre
  have hown : s.vm.findClass RX1 = some m.cls := findClass_of_methodNamed B.named
  have hlocks := B.notSynchronized
  subst hsz
  have hD := hD0.self (sz := s.heap.size)
  generalize hAe : va_A (dW h qT qC qS qA qF cT cC cS cA cF ad n kd ok cn rc rs an fl t0 t1 t2 t3 t4 t5) s.heap.size = A at hD ⊢
  have hA : ∀ q : Nat, s.heap.size ≤ q → A q := fun q h => by rw [← hAe]; exact Or.inr h
  have hS : va_S A s.heap s.heap [] := va_S.rf
  have hl := lv_entry ([.ref h, .int x, .long v]) (n := 4) (Nat.le_of_ble_eq_true rfl)
  rw [lg_entry_eq]
  generalize (lg_sl ([.ref h, .int x, .long v]) ++ List.replicate (4 - (lg_sl ([.ref h, .int x, .long v])).length) Slot.unset).toArray = ls at hl ⊢
  have hl : lv_has ls 4 [(0, .ref h), (1, .int x), (2, .long v)] := hl
  refine lv_iload_n hx hb dX1_answer_0 rfl (lv_at hl 1 rfl) ?_
  refine lv_bipush (v := 32) hx hb dX1_answer_1 (by decide) ?_
  refine vp_callSi (W.runS (As := [.int x, .int 32]) (rest := []) ⟨hx, hb, hml, hown, hts⟩ (c_isWithin l x 32) (va_cwS 2 hts gX1_answer_X1_isWithin rfl rfl rfl (by decide +kernel) ⟨Nat.le_of_ble_eq_true rfl, Nat.le_of_ble_eq_true rfl⟩) ⟨fun _ _ _ _ q => q, fun _ _ _ => ⟨rfl, trivial⟩⟩ rfl rfl hl.1 rfl (lv_room (Nat.le_of_ble_eq_true rfl)) dX1_answer_3 ⟨Nat.le_of_ble_eq_true rfl, Nat.le_of_ble_eq_true rfl⟩) (fun r9 hr9 => ?_)
  rcases hr9 with ⟨hq_58, rfl⟩ | ⟨hq_58, rfl⟩
  · refine lv_if_ne (tgt := 11) hx hb dX1_answer_6 (by decide) (fun _ => ?_) (fun h => absurd h (by decide))
    refine lv_aload_n hx hb dX1_answer_11 rfl (lv_at hl 0 rfl) ?_
    refine va_get (D := (dC, dI)) (ci := 1) (v := .ref qA) (C := RX1) (T := TX1) (N := 12) hx hb hts iwX1_answer_1 hown hK hP 0 rfl rfl 4 (by decide) (hts (.fieldLink RX1 27 "MainframeDesk" "answers" "[J") (by decide +kernel)) (fun _ h9 => h9) rfl dX1_answer_12 ?_
    refine lv_iload_n hx hb dX1_answer_15 rfl (lv_at hl 1 rfl) ?_
    refine lv_lload_n hx hb dX1_answer_16 rfl (lv_at hl 2 rfl) ?_
    refine va_last hx hb hK hP hD hS 4 3 rfl rfl (kx_in hq_58 (by decide)) dX1_answer_17 (fun H locs hP hD hS => ?_)
    have hP : va_P (dC, dI) vwCl (dW h qT qC qS qA qF cT cC cS cA cF ad n kd ok cn rc rs (vp_updL an x.toNatClampNeg v) fl t0 t1 t2 t3 t4 t5) H := hP
    have hD : va_D A (dW h qT qC qS qA qF cT cC cS cA cF ad n kd ok cn rc rs (vp_updL an x.toNatClampNeg v) fl t0 t1 t2 t3 t4 t5) := hD
    refine lv_iconst (v := 1) hx hb dX1_answer_18 (by decide) ?_
    exact W.iret (v := 1) hx hb hr (fun t ht hW => ⟨⟨_, (n, kd, ok, cn, rc, rs, vp_updL an x.toNatClampNeg v, fl, t0, t1, t2, t3, t4, t5), rfl, (by exact (if_pos hq_58).symm), by rw [ht]; exact hP, hD⟩, hS.F ht⟩) hS.2.2 dX1_answer_19
  · refine lv_if_ne (tgt := 11) hx hb dX1_answer_6 (by decide) (fun h => absurd h (by decide)) (fun _ => ?_)
    refine lv_iconst (v := (-1)) hx hb dX1_answer_9 (by decide) ?_
    exact W.iret (v := (-1)) hx hb hr (fun t ht hW => ⟨⟨_, (n, kd, ok, cn, rc, rs, an, fl, t0, t1, t2, t3, t4, t5), rfl, (by exact (if_neg hq_58).symm), by rw [ht]; exact hP, hD⟩, hS.F ht⟩) hS.2.2 dX1_answer_10
theorem iwX1_fails_1 : ∀ w ∈ wsX10, w ∈ wsX1_fails := fun _ h => List.mem_cons_of_mem _ (List.mem_append_right _ h)
set_option maxHeartbeats 1000000 in
set_option maxRecDepth 100000 in
/-- fails(x, k) -/
theorem c_fails (l : Launch) (dC : Nat → ClassId) (dI : Nat → Nat → Nat) (h qT qC qS qA qF : Nat) (cT cC cS cA cF : ClassId) (ad : Nat → Nat) (n : Nat) (kd ok cn rc : Nat → Int32) (rs an : Nat → Int64) (fl : Nat → Int32) (t0 t1 t2 t3 t4 t5 : Int32) (sz : Nat) (x k : Int32) : Met l yX1_fails wsX1_fails ({ frames := 1, cells := 0, slots := 0, locals := 21 }) (va_Pc [.ref h, .int x, .int k] (dQ dC dI [(cT, .object "MainframeDesk$Thing"), (cC, .int), (cS, .long), (cA, .long), (cF, .int)] (dW h qT qC qS qA qF cT cC cS cA cF ad n kd ok cn rc rs an fl t0 t1 t2 t3 t4 t5) sz)) (va_Qi (fun (r : Int32) (u : dM) => (r, u) = mFails (n, kd, ok, cn, rc, rs, an, fl, t0, t1, t2, t3, t4, t5) x k) (fun u t => dAt dC dI (dWm h qT qC qS qA qF cT cC cS cA cF ad u) (va_A (dW h qT qC qS qA qF cT cC cS cA cF ad n kd ok cn rc rs an fl t0 t1 t2 t3 t4 t5) sz) t) (va_A (dW h qT qC qS qA qF cT cC cS cA cF ad n kd ok cn rc rs an fl t0 t1 t2 t3 t4 t5) sz)) 0 0 (va_A (dW h qT qC qS qA qF cT cC cS cA cF ad n kd ok cn rc rs an fl t0 t1 t2 t3 t4 t5) sz) := by
  refine Met.ofW (cc := cX1_fails) (maxL := 4) (ret := (some .int)) (by decide) rfl ?_
  intro p e s m args below meth c s₁ B hml hv
  obtain ⟨rfl, hsz, hP, hK, hD0, hN⟩ := hv
  have hx := B.exec
  have hb := B.bytes
  have hr := B.returns
  have hts := atoms_spec (ws := wsX1_fails) B.pre
  have hown : s.vm.findClass RX1 = some m.cls := findClass_of_methodNamed B.named
  have hlocks := B.notSynchronized
  subst hsz
  have hD := hD0.self (sz := s.heap.size)
  generalize hAe : va_A (dW h qT qC qS qA qF cT cC cS cA cF ad n kd ok cn rc rs an fl t0 t1 t2 t3 t4 t5) s.heap.size = A at hD ⊢
  have hA : ∀ q : Nat, s.heap.size ≤ q → A q := fun q h => by rw [← hAe]; exact Or.inr h
  have hS : va_S A s.heap s.heap [] := va_S.rf
  have hl := lv_entry ([.ref h, .int x, .int k]) (n := 4) (Nat.le_of_ble_eq_true rfl)
  rw [lg_entry_eq]
  generalize (lg_sl ([.ref h, .int x, .int k]) ++ List.replicate (4 - (lg_sl ([.ref h, .int x, .int k])).length) Slot.unset).toArray = ls at hl ⊢
  have hl : lv_has ls 4 [(0, .ref h), (1, .int x), (2, .int k)] := hl
  refine lv_iload_n hx hb dX1_fails_0 rfl (lv_at hl 1 rfl) ?_
  refine lv_bipush (v := 32) hx hb dX1_fails_1 (by decide) ?_
  refine vp_callSi (W.runS (As := [.int x, .int 32]) (rest := []) ⟨hx, hb, hml, hown, hts⟩ (c_isWithin l x 32) (va_cwS 2 hts gX1_fails_X1_isWithin rfl rfl rfl (by decide +kernel) ⟨Nat.le_of_ble_eq_true rfl, Nat.le_of_ble_eq_true rfl⟩) ⟨fun _ _ _ _ q => q, fun _ _ _ => ⟨rfl, trivial⟩⟩ rfl rfl hl.1 rfl (lv_room (Nat.le_of_ble_eq_true rfl)) dX1_fails_3 ⟨Nat.le_of_ble_eq_true rfl, Nat.le_of_ble_eq_true rfl⟩) (fun r9 hr9 => ?_)
  rcases hr9 with ⟨hq_61, rfl⟩ | ⟨hq_61, rfl⟩
  · refine lv_if_eq (tgt := 19) hx hb dX1_fails_6 (by decide) (fun h => absurd h (by decide)) (fun _ => ?_)
    refine lv_iload_n hx hb dX1_fails_9 rfl (lv_at hl 2 rfl) ?_
    refine lv_if_lt (tgt := 19) hx hb dX1_fails_10 (by decide) (fun c_63 => ?_) (fun c_63 => ?_)
    · refine lv_iconst (v := (-1)) hx hb dX1_fails_19 (by decide) ?_
      exact W.iret (v := (-1)) hx hb hr (fun t ht hW => ⟨⟨_, (n, kd, ok, cn, rc, rs, an, fl, t0, t1, t2, t3, t4, t5), rfl, (by exact (if_neg (fun q => Int32.not_le.mpr c_63 q.2.1)).symm), by rw [ht]; exact hP, hD⟩, hS.F ht⟩) hS.2.2 dX1_fails_20
    · refine lv_iload_n hx hb dX1_fails_13 rfl (lv_at hl 2 rfl) ?_
      refine lv_bipush (v := 6) hx hb dX1_fails_14 (by decide) ?_
      refine lv_icmp_le (tgt := 21) hx hb dX1_fails_16 (by decide) (fun c_64 => ?_) (fun c_64 => ?_)
      · refine lv_aload_n hx hb dX1_fails_21 rfl (lv_at hl 0 rfl) ?_
        refine va_get (D := (dC, dI)) (ci := 1) (v := .ref qF) (C := RX1) (T := TX1) (N := 12) hx hb hts iwX1_fails_1 hown hK hP 0 rfl rfl 5 (by decide) (hts (.fieldLink RX1 30 "MainframeDesk" "failures" "[I") (by decide +kernel)) (fun _ h9 => h9) rfl dX1_fails_22 ?_
        refine lv_iload_n hx hb dX1_fails_25 rfl (lv_at hl 1 rfl) ?_
        refine va_iald hx hb hK hP 5 4 rfl rfl (kx_in hq_61 (by decide)) dX1_fails_26 ?_
        refine lv_topi (fun v_65 ev_65 => ?_)
        refine lv_istore_n (lv' := [(3, .int v_65), (0, .ref h), (1, .int x), (2, .int k)]) hx hb dX1_fails_27 rfl hl (by decide) rfl (fun ls hl => ?_)
        refine lv_aload_n hx hb dX1_fails_28 rfl (lv_at hl 1 rfl) ?_
        refine va_get (D := (dC, dI)) (ci := 1) (v := .ref qF) (C := RX1) (T := TX1) (N := 12) hx hb hts iwX1_fails_1 hown hK hP 0 rfl rfl 5 (by decide) (hts (.fieldLink RX1 30 "MainframeDesk" "failures" "[I") (by decide +kernel)) (fun _ h9 => h9) rfl dX1_fails_29 ?_
        refine lv_iload_n hx hb dX1_fails_32 rfl (lv_at hl 2 rfl) ?_
        refine lv_iload_n hx hb dX1_fails_33 rfl (lv_at hl 3 rfl) ?_
        refine va_iast hx hb hK hP hD hS 5 4 rfl rfl (kx_in hq_61 (by decide)) dX1_fails_34 (fun H locs hP hD hS => ?_)
        have hP : va_P (dC, dI) vwCl (dW h qT qC qS qA qF cT cC cS cA cF ad n kd ok cn rc rs an (upd fl x.toNatClampNeg k) t0 t1 t2 t3 t4 t5) H := hP
        have hD : va_D A (dW h qT qC qS qA qF cT cC cS cA cF ad n kd ok cn rc rs an (upd fl x.toNatClampNeg k) t0 t1 t2 t3 t4 t5) := hD
        refine lv_iload_n hx hb dX1_fails_35 rfl (lv_at hl 0 rfl) ?_
        exact W.iret (v := v_65) hx hb hr (fun t ht hW => ⟨⟨_, (n, kd, ok, cn, rc, rs, an, upd fl x.toNatClampNeg k, t0, t1, t2, t3, t4, t5), rfl, (by subst ev_65; exact (if_pos ⟨hq_61, Int32.not_lt.mp c_63, c_64⟩).symm), by rw [ht]; exact hP, hD⟩, hS.F ht⟩) hS.2.2 dX1_fails_36
      · refine lv_iconst (v := (-1)) hx hb dX1_fails_19 (by decide) ?_
        exact W.iret (v := (-1)) hx hb hr (fun t ht hW => ⟨⟨_, (n, kd, ok, cn, rc, rs, an, fl, t0, t1, t2, t3, t4, t5), rfl, (by exact (if_neg (fun q => c_64 q.2.2)).symm), by rw [ht]; exact hP, hD⟩, hS.F ht⟩) hS.2.2 dX1_fails_20
  · refine lv_if_eq (tgt := 19) hx hb dX1_fails_6 (by decide) (fun _ => ?_) (fun h => absurd h (by decide))
    refine lv_iconst (v := (-1)) hx hb dX1_fails_19 (by decide) ?_
    exact W.iret (v := (-1)) hx hb hr (fun t ht hW => ⟨⟨_, (n, kd, ok, cn, rc, rs, an, fl, t0, t1, t2, t3, t4, t5), rfl, (by exact (if_neg (fun q => hq_61 q.1)).symm), by rw [ht]; exact hP, hD⟩, hS.F ht⟩) hS.2.2 dX1_fails_20
theorem iwX1_takeRow_1 : ∀ w ∈ wsX10, w ∈ wsX1_takeRow := fun _ h => List.mem_cons_of_mem _ (List.mem_append_right _ h)
set_option maxHeartbeats 1000000 in
set_option maxRecDepth 100000 in
/-- takeRow(c): the row is empty then, if the call has one -/
theorem c_takeRow (l : Launch) (dC : Nat → ClassId) (dI : Nat → Nat → Nat) (h qT qC qS qA qF : Nat) (cT cC cS cA cF : ClassId) (ad : Nat → Nat) (n : Nat) (kd ok cn rc : Nat → Int32) (rs an : Nat → Int64) (fl : Nat → Int32) (t0 t1 t2 t3 t4 t5 : Int32) (sz : Nat) (cz : Int32) (hc : 0 ≤ cz ∧ cz < 32) : Met l yX1_takeRow wsX1_takeRow ({ frames := 1, cells := 0, slots := 0, locals := 20 }) (va_Pc [.ref h, .int cz] (dQ dC dI [(cT, .object "MainframeDesk$Thing"), (cC, .int), (cS, .long), (cA, .long), (cF, .int)] (dW h qT qC qS qA qF cT cC cS cA cF ad n kd ok cn rc rs an fl t0 t1 t2 t3 t4 t5) sz)) (va_Qv (fun (u : dM) => u = (n, kd, ok, cn, mTkC rc cz, mTkS rs cz, an, fl, t0, t1, t2, t3, t4, t5)) (fun u t => dAt dC dI (dWm h qT qC qS qA qF cT cC cS cA cF ad u) (va_A (dW h qT qC qS qA qF cT cC cS cA cF ad n kd ok cn rc rs an fl t0 t1 t2 t3 t4 t5) sz) t) (va_A (dW h qT qC qS qA qF cT cC cS cA cF ad n kd ok cn rc rs an fl t0 t1 t2 t3 t4 t5) sz)) 0 0 (va_A (dW h qT qC qS qA qF cT cC cS cA cF ad n kd ok cn rc rs an fl t0 t1 t2 t3 t4 t5) sz) := by
  refine Met.ofW (cc := cX1_takeRow) (maxL := 2) (ret := none) (by decide) rfl ?_
  intro p e s m args below meth c s₁ B hml hv
  obtain ⟨rfl, hsz, hP, hK, hD0, hN⟩ := hv
  have hx := B.exec
  have hb := B.bytes
  have hr := B.returns
  have hts := atoms_spec (ws := wsX1_takeRow) B.pre
  have hown : s.vm.findClass RX1 = some m.cls := findClass_of_methodNamed B.named
  have hlocks := B.notSynchronized
  subst hsz
  have hD := hD0.self (sz := s.heap.size)
  generalize hAe : va_A (dW h qT qC qS qA qF cT cC cS cA cF ad n kd ok cn rc rs an fl t0 t1 t2 t3 t4 t5) s.heap.size = A at hD ⊢
  have hA : ∀ q : Nat, s.heap.size ≤ q → A q := fun q h => by rw [← hAe]; exact Or.inr h
  have hS : va_S A s.heap s.heap [] := va_S.rf
  have hl := lv_entry ([.ref h, .int cz]) (n := 2) (Nat.le_of_ble_eq_true rfl)
  rw [lg_entry_eq]
  generalize (lg_sl ([.ref h, .int cz]) ++ List.replicate (2 - (lg_sl ([.ref h, .int cz])).length) Slot.unset).toArray = ls at hl ⊢
  have hl : lv_has ls 2 [(0, .ref h), (1, .int cz)] := hl
  refine lv_iload_n hx hb dX1_takeRow_0 rfl (lv_at hl 1 rfl) ?_
  refine vp_callSi (W.runS (As := [.int cz]) (rest := []) ⟨hx, hb, hml, hown, hts⟩ (c_hasRow l cz) (va_cwS 1 hts gX1_takeRow_X1_hasRow rfl rfl rfl (by decide +kernel) ⟨Nat.le_of_ble_eq_true rfl, Nat.le_of_ble_eq_true rfl⟩) ⟨fun _ _ _ _ q => q, fun _ _ _ => ⟨rfl, trivial⟩⟩ rfl rfl hl.1 rfl (lv_room (Nat.le_of_ble_eq_true rfl)) dX1_takeRow_1 ⟨Nat.le_of_ble_eq_true rfl, Nat.le_of_ble_eq_true rfl⟩) (fun r9 hr9 => ?_)
  rcases hr9 with ⟨h8_67, rfl⟩ | ⟨h8_67, rfl⟩
  · refine lv_if_eq (tgt := 27) hx hb dX1_takeRow_4 (by decide) (fun h => absurd h (by decide)) (fun _ => ?_)
    refine lv_aload_n hx hb dX1_takeRow_7 rfl (lv_at hl 0 rfl) ?_
    refine va_get (D := (dC, dI)) (ci := 1) (v := .ref qC) (C := RX1) (T := TX1) (N := 12) hx hb hts iwX1_takeRow_1 hown hK hP 0 rfl rfl 2 (by decide) (hts (.fieldLink RX1 19 "MainframeDesk" "rowCounts" "[I") (by decide +kernel)) (fun _ h9 => h9) rfl dX1_takeRow_8 ?_
    refine lv_iload_n hx hb dX1_takeRow_11 rfl (lv_at hl 1 rfl) ?_
    refine vp_callSi (W.runS (As := [.int cz]) (rest := [.ref qC]) ⟨hx, hb, hml, hown, hts⟩ (c_rowOf l cz) (va_cwS 1 hts gX1_takeRow_X1_rowOf rfl rfl rfl (by decide +kernel) ⟨Nat.le_of_ble_eq_true rfl, Nat.le_of_ble_eq_true rfl⟩) ⟨fun _ _ _ _ q => q, fun _ _ _ => ⟨rfl, trivial⟩⟩ rfl rfl hl.1 rfl (lv_room (Nat.le_of_ble_eq_true rfl)) dX1_takeRow_12 ⟨Nat.le_of_ble_eq_true rfl, Nat.le_of_ble_eq_true rfl⟩) (fun r9 hr9 => ?_)
    subst hr9
    refine lv_iconst (v := 0) hx hb dX1_takeRow_15 (by decide) ?_
    refine va_iast hx hb hK hP hD hS 2 1 rfl rfl (kx_w4 hc) dX1_takeRow_16 (fun H locs hP hD hS => ?_)
    have hP : va_P (dC, dI) vwCl (dW h qT qC qS qA qF cT cC cS cA cF ad n kd ok cn (upd rc (mW4 cz).toNatClampNeg 0) rs an fl t0 t1 t2 t3 t4 t5) H := hP
    have hD : va_D A (dW h qT qC qS qA qF cT cC cS cA cF ad n kd ok cn (upd rc (mW4 cz).toNatClampNeg 0) rs an fl t0 t1 t2 t3 t4 t5) := hD
    refine lv_aload_n hx hb dX1_takeRow_17 rfl (lv_at hl 0 rfl) ?_
    refine va_get (D := (dC, dI)) (ci := 1) (v := .ref qS) (C := RX1) (T := TX1) (N := 12) hx hb hts iwX1_takeRow_1 hown hK hP 0 rfl rfl 3 (by decide) (hts (.fieldLink RX1 23 "MainframeDesk" "rowSums" "[J") (by decide +kernel)) (fun _ h9 => h9) rfl dX1_takeRow_18 ?_
    refine lv_iload_n hx hb dX1_takeRow_21 rfl (lv_at hl 1 rfl) ?_
    refine vp_callSi (W.runS (As := [.int cz]) (rest := [.ref qS]) ⟨hx, hb, hml, hown, hts⟩ (c_rowOf l cz) (va_cwS 1 hts gX1_takeRow_X1_rowOf rfl rfl rfl (by decide +kernel) ⟨Nat.le_of_ble_eq_true rfl, Nat.le_of_ble_eq_true rfl⟩) ⟨fun _ _ _ _ q => q, fun _ _ _ => ⟨rfl, trivial⟩⟩ rfl rfl hl.1 rfl (lv_room (Nat.le_of_ble_eq_true rfl)) dX1_takeRow_22 ⟨Nat.le_of_ble_eq_true rfl, Nat.le_of_ble_eq_true rfl⟩) (fun r9 hr9 => ?_)
    subst hr9
    refine lv_lconst (v := 0) hx hb dX1_takeRow_25 (by decide) ?_
    refine va_last hx hb hK hP hD hS 3 2 rfl rfl (kx_w4 hc) dX1_takeRow_26 (fun H locs hP hD hS => ?_)
    have hP : va_P (dC, dI) vwCl (dW h qT qC qS qA qF cT cC cS cA cF ad n kd ok cn (upd rc (mW4 cz).toNatClampNeg 0) (vp_updL rs (mW4 cz).toNatClampNeg 0) an fl t0 t1 t2 t3 t4 t5) H := hP
    have hD : va_D A (dW h qT qC qS qA qF cT cC cS cA cF ad n kd ok cn (upd rc (mW4 cz).toNatClampNeg 0) (vp_updL rs (mW4 cz).toNatClampNeg 0) an fl t0 t1 t2 t3 t4 t5) := hD
    have e1 : mTkC rc cz = upd rc (mW4 cz).toNatClampNeg 0 := if_pos h8_67
    have e2 : mTkS rs cz = vp_updL rs (mW4 cz).toNatClampNeg 0 := if_pos h8_67
    have hP : va_P (dC, dI) vwCl (dW h qT qC qS qA qF cT cC cS cA cF ad n kd ok cn (mTkC rc cz) (mTkS rs cz) an fl t0 t1 t2 t3 t4 t5) H := by rw [e1, e2]; exact hP
    have hD : va_D A (dW h qT qC qS qA qF cT cC cS cA cF ad n kd ok cn (mTkC rc cz) (mTkS rs cz) an fl t0 t1 t2 t3 t4 t5) := by rw [e1, e2]; exact hD
    exact W.vret hx hb hr (fun t ht hW => ⟨⟨(n, kd, ok, cn, mTkC rc cz, mTkS rs cz, an, fl, t0, t1, t2, t3, t4, t5), rfl, rfl, by rw [ht]; exact hP, hD⟩, hS.F ht⟩) hS.2.2 dX1_takeRow_27
  · refine lv_if_eq (tgt := 27) hx hb dX1_takeRow_4 (by decide) (fun _ => ?_) (fun h => absurd h (by decide))
    have e1 : mTkC rc cz = rc := if_neg h8_67
    have e2 : mTkS rs cz = rs := if_neg h8_67
    have hP : va_P (dC, dI) vwCl (dW h qT qC qS qA qF cT cC cS cA cF ad n kd ok cn (mTkC rc cz) (mTkS rs cz) an fl t0 t1 t2 t3 t4 t5) s.heap := by rw [e1, e2]; exact hP
    have hD : va_D A (dW h qT qC qS qA qF cT cC cS cA cF ad n kd ok cn (mTkC rc cz) (mTkS rs cz) an fl t0 t1 t2 t3 t4 t5) := by rw [e1, e2]; exact hD
    exact W.vret hx hb hr (fun t ht hW => ⟨⟨(n, kd, ok, cn, mTkC rc cz, mTkS rs cz, an, fl, t0, t1, t2, t3, t4, t5), rfl, rfl, by rw [ht]; exact hP, hD⟩, hS.F ht⟩) hS.2.2 dX1_takeRow_27
theorem iwX1_tell_1 : ∀ w ∈ wsX10, w ∈ wsX1_tell := fun _ h => List.mem_cons_of_mem _ (List.mem_append_right _ h)
set_option maxHeartbeats 1000000 in
set_option maxRecDepth 100000 in
/-- tell(c, x): what was told -/
theorem c_tell (l : Launch) (dC : Nat → ClassId) (dI : Nat → Nat → Nat) (h qT qC qS qA qF : Nat) (cT cC cS cA cF : ClassId) (ad : Nat → Nat) (n : Nat) (kd ok cn rc : Nat → Int32) (rs an : Nat → Int64) (fl : Nat → Int32) (t0 t1 t2 t3 t4 t5 : Int32) (sz : Nat) (cz x : Int32) (hc : 0 ≤ cz ∧ cz < 32) : Met l yX1_tell wsX1_tell ({ frames := 0, cells := 0, slots := 0, locals := 0 }) (va_Pc [.ref h, .int cz, .int x] (dQ dC dI [(cT, .object "MainframeDesk$Thing"), (cC, .int), (cS, .long), (cA, .long), (cF, .int)] (dW h qT qC qS qA qF cT cC cS cA cF ad n kd ok cn rc rs an fl t0 t1 t2 t3 t4 t5) sz)) (va_Qv (fun (u : dM) => u = (n, kd, ok, cn, rc, rs, an, fl, fl cz.toNatClampNeg, cz, x, t3 + 1, t4, t5)) (fun u t => dAt dC dI (dWm h qT qC qS qA qF cT cC cS cA cF ad u) (va_A (dW h qT qC qS qA qF cT cC cS cA cF ad n kd ok cn rc rs an fl t0 t1 t2 t3 t4 t5) sz) t) (va_A (dW h qT qC qS qA qF cT cC cS cA cF ad n kd ok cn rc rs an fl t0 t1 t2 t3 t4 t5) sz)) 0 0 (va_A (dW h qT qC qS qA qF cT cC cS cA cF ad n kd ok cn rc rs an fl t0 t1 t2 t3 t4 t5) sz) := by
  refine Met.ofW (cc := cX1_tell) (maxL := 3) (ret := none) (by decide) rfl ?_
  intro p e s m args below meth c s₁ B hml hv
  obtain ⟨rfl, hsz, hP, hK, hD0, hN⟩ := hv
  have hx := B.exec
  have hb := B.bytes
  have hr := B.returns
  have hts := atoms_spec (ws := wsX1_tell) B.pre
  have hown : s.vm.findClass RX1 = some m.cls := findClass_of_methodNamed B.named
  have hlocks := B.notSynchronized
  subst hsz
  have hD := hD0.self (sz := s.heap.size)
  generalize hAe : va_A (dW h qT qC qS qA qF cT cC cS cA cF ad n kd ok cn rc rs an fl t0 t1 t2 t3 t4 t5) s.heap.size = A at hD ⊢
  have hA : ∀ q : Nat, s.heap.size ≤ q → A q := fun q h => by rw [← hAe]; exact Or.inr h
  have hS : va_S A s.heap s.heap [] := va_S.rf
  have hl := lv_entry ([.ref h, .int cz, .int x]) (n := 3) (Nat.le_of_ble_eq_true rfl)
  rw [lg_entry_eq]
  generalize (lg_sl ([.ref h, .int cz, .int x]) ++ List.replicate (3 - (lg_sl ([.ref h, .int cz, .int x])).length) Slot.unset).toArray = ls at hl ⊢
  have hl : lv_has ls 3 [(0, .ref h), (1, .int cz), (2, .int x)] := hl
  refine lv_aload_n hx hb dX1_tell_0 rfl (lv_at hl 0 rfl) ?_
  refine lv_aload_n hx hb dX1_tell_1 rfl (lv_at hl 0 rfl) ?_
  refine va_get (D := (dC, dI)) (ci := 1) (v := .ref qF) (C := RX1) (T := TX1) (N := 12) hx hb hts iwX1_tell_1 hown hK hP 0 rfl rfl 5 (by decide) (hts (.fieldLink RX1 30 "MainframeDesk" "failures" "[I") (by decide +kernel)) (fun _ h9 => h9) rfl dX1_tell_2 ?_
  refine lv_iload_n hx hb dX1_tell_5 rfl (lv_at hl 1 rfl) ?_
  refine va_iald hx hb hK hP 5 4 rfl rfl (kx_in hc (by decide)) dX1_tell_6 ?_
  refine lv_topi (fun v_70 ev_70 => ?_)
  refine va_put (D := (dC, dI)) (ci := 1) (v := .int v_70) (ty := .int) (C := RX1) (T := TX1) (N := 12) hx hb hts iwX1_tell_1 tyX1 tyX1_ok nmX1 hown hK hP hD hS 0 rfl rfl 6 (by decide) (hts (.fieldLink RX1 33 "MainframeDesk" "latestFailure" "I") (by decide +kernel)) (fun _ h9 => h9) rfl (by decide +kernel) rfl rfl (Nat.le_of_ble_eq_true rfl) dX1_tell_7 (fun H locs hP hD hS => ?_)
  have hP : va_P (dC, dI) vwCl (dW h qT qC qS qA qF cT cC cS cA cF ad n kd ok cn rc rs an fl v_70 t1 t2 t3 t4 t5) H := hP
  have hD : va_D A (dW h qT qC qS qA qF cT cC cS cA cF ad n kd ok cn rc rs an fl v_70 t1 t2 t3 t4 t5) := hD
  refine lv_aload_n hx hb dX1_tell_10 rfl (lv_at hl 0 rfl) ?_
  refine lv_iload_n hx hb dX1_tell_11 rfl (lv_at hl 1 rfl) ?_
  refine va_put (D := (dC, dI)) (ci := 1) (v := .int cz) (ty := .int) (C := RX1) (T := TX1) (N := 12) hx hb hts iwX1_tell_1 tyX1 tyX1_ok nmX1 hown hK hP hD hS 0 rfl rfl 7 (by decide) (hts (.fieldLink RX1 36 "MainframeDesk" "latestFailedCall" "I") (by decide +kernel)) (fun _ h9 => h9) rfl (by decide +kernel) rfl rfl (Nat.le_of_ble_eq_true rfl) dX1_tell_12 (fun H locs hP hD hS => ?_)
  have hP : va_P (dC, dI) vwCl (dW h qT qC qS qA qF cT cC cS cA cF ad n kd ok cn rc rs an fl v_70 cz t2 t3 t4 t5) H := hP
  have hD : va_D A (dW h qT qC qS qA qF cT cC cS cA cF ad n kd ok cn rc rs an fl v_70 cz t2 t3 t4 t5) := hD
  refine lv_aload_n hx hb dX1_tell_15 rfl (lv_at hl 0 rfl) ?_
  refine lv_iload_n hx hb dX1_tell_16 rfl (lv_at hl 2 rfl) ?_
  refine va_put (D := (dC, dI)) (ci := 1) (v := .int x) (ty := .int) (C := RX1) (T := TX1) (N := 12) hx hb hts iwX1_tell_1 tyX1 tyX1_ok nmX1 hown hK hP hD hS 0 rfl rfl 8 (by decide) (hts (.fieldLink RX1 39 "MainframeDesk" "latestEndedThing" "I") (by decide +kernel)) (fun _ h9 => h9) rfl (by decide +kernel) rfl rfl (Nat.le_of_ble_eq_true rfl) dX1_tell_17 (fun H locs hP hD hS => ?_)
  have hP : va_P (dC, dI) vwCl (dW h qT qC qS qA qF cT cC cS cA cF ad n kd ok cn rc rs an fl v_70 cz x t3 t4 t5) H := hP
  have hD : va_D A (dW h qT qC qS qA qF cT cC cS cA cF ad n kd ok cn rc rs an fl v_70 cz x t3 t4 t5) := hD
  refine lv_aload_n hx hb dX1_tell_20 rfl (lv_at hl 0 rfl) ?_
  refine lv_dup hx hb dX1_tell_21 rfl ?_
  refine va_get (D := (dC, dI)) (ci := 1) (v := .int t3) (C := RX1) (T := TX1) (N := 12) hx hb hts iwX1_tell_1 hown hK hP 0 rfl rfl 9 (by decide) (hts (.fieldLink RX1 42 "MainframeDesk" "failureCount" "I") (by decide +kernel)) (fun _ h9 => h9) rfl dX1_tell_22 ?_
  refine lv_iconst (v := 1) hx hb dX1_tell_25 (by decide) ?_
  refine lv_iadd hx hb dX1_tell_26 ?_
  refine lv_topi (fun z_71 ez_71 => ?_)
  refine va_put (D := (dC, dI)) (ci := 1) (v := .int z_71) (ty := .int) (C := RX1) (T := TX1) (N := 12) hx hb hts iwX1_tell_1 tyX1 tyX1_ok nmX1 hown hK hP hD hS 0 rfl rfl 9 (by decide) (hts (.fieldLink RX1 42 "MainframeDesk" "failureCount" "I") (by decide +kernel)) (fun _ h9 => h9) rfl (by decide +kernel) rfl rfl (Nat.le_of_ble_eq_true rfl) dX1_tell_27 (fun H locs hP hD hS => ?_)
  have hP : va_P (dC, dI) vwCl (dW h qT qC qS qA qF cT cC cS cA cF ad n kd ok cn rc rs an fl v_70 cz x z_71 t4 t5) H := hP
  have hD : va_D A (dW h qT qC qS qA qF cT cC cS cA cF ad n kd ok cn rc rs an fl v_70 cz x z_71 t4 t5) := hD
  subst ev_70
  subst ez_71
  exact W.vret hx hb hr (fun t ht hW => ⟨⟨(n, kd, ok, cn, rc, rs, an, fl, fl cz.toNatClampNeg, cz, x, t3 + 1, t4, t5), rfl, rfl, by rw [ht]; exact hP, hD⟩, hS.F ht⟩) hS.2.2 dX1_tell_30
theorem iwX1_drop_0 : ∀ w ∈ wsX00, w ∈ wsX1_drop := fun _ h => List.mem_cons_of_mem _ (List.mem_append_left _ (List.mem_append_right _ h))
theorem iwX1_drop_1 : ∀ w ∈ wsX10, w ∈ wsX1_drop := fun _ h => List.mem_cons_of_mem _ (List.mem_append_right _ h)
set_option maxHeartbeats 1000000 in
set_option maxRecDepth 100000 in
/-- drop(x) -/
theorem c_drop (l : Launch) (dC : Nat → ClassId) (dI : Nat → Nat → Nat) (h qT qC qS qA qF : Nat) (cT cC cS cA cF : ClassId) (ad : Nat → Nat) (n : Nat) (kd ok cn rc : Nat → Int32) (rs an : Nat → Int64) (fl : Nat → Int32) (t0 t1 t2 t3 t4 t5 : Int32) (hn : n ≤ 200) (sz : Nat) (x : Int32) : Met l yX1_drop wsX1_drop ({ frames := 1, cells := 0, slots := 0, locals := 21 }) (va_Pc [.ref h, .int x] (dQ dC dI [(cT, .object "MainframeDesk$Thing"), (cC, .int), (cS, .long), (cA, .long), (cF, .int)] (dW h qT qC qS qA qF cT cC cS cA cF ad n kd ok cn rc rs an fl t0 t1 t2 t3 t4 t5) sz)) (va_Qi (fun (r : Int32) (u : dM) => (r, u) = mDrop (n, kd, ok, cn, rc, rs, an, fl, t0, t1, t2, t3, t4, t5) x) (fun u t => dAt dC dI (dWm h qT qC qS qA qF cT cC cS cA cF ad u) (va_A (dW h qT qC qS qA qF cT cC cS cA cF ad n kd ok cn rc rs an fl t0 t1 t2 t3 t4 t5) sz) t) (va_A (dW h qT qC qS qA qF cT cC cS cA cF ad n kd ok cn rc rs an fl t0 t1 t2 t3 t4 t5) sz)) 0 0 (va_A (dW h qT qC qS qA qF cT cC cS cA cF ad n kd ok cn rc rs an fl t0 t1 t2 t3 t4 t5) sz) := by
  refine Met.ofW (cc := cX1_drop) (maxL := 3) (ret := (some .boolean)) (by decide) rfl ?_
  intro p e s m args below meth c s₁ B hml hv
  obtain ⟨rfl, hsz, hP, hK, hD0, hN⟩ := hv
  have hx := B.exec
  have hb := B.bytes
  have hr := B.returns
  have hts := atoms_spec (ws := wsX1_drop) B.pre
  have hown : s.vm.findClass RX1 = some m.cls := findClass_of_methodNamed B.named
  have hlocks := B.notSynchronized
  subst hsz
  have hD := hD0.self (sz := s.heap.size)
  generalize hAe : va_A (dW h qT qC qS qA qF cT cC cS cA cF ad n kd ok cn rc rs an fl t0 t1 t2 t3 t4 t5) s.heap.size = A at hD ⊢
  have hA : ∀ q : Nat, s.heap.size ≤ q → A q := fun q h => by rw [← hAe]; exact Or.inr h
  have hS : va_S A s.heap s.heap [] := va_S.rf
  have hl := lv_entry ([.ref h, .int x]) (n := 3) (Nat.le_of_ble_eq_true rfl)
  rw [lg_entry_eq]
  generalize (lg_sl ([.ref h, .int x]) ++ List.replicate (3 - (lg_sl ([.ref h, .int x])).length) Slot.unset).toArray = ls at hl ⊢
  have hl : lv_has ls 3 [(0, .ref h), (1, .int x)] := hl
  refine lv_aload_n hx hb dX1_drop_0 rfl (lv_at hl 0 rfl) ?_
  refine lv_iload_n hx hb dX1_drop_1 rfl (lv_at hl 1 rfl) ?_
  refine va_csq (W.runV (As := [.int x]) (rest := []) ⟨hx, hb, hml, hown, hts⟩ (c_find l dC dI h qT qC qS qA qF cT cC cS cA cF ad n kd ok cn rc rs an fl t0 t1 t2 t3 t4 t5 hn x) (cwV 1 hts gX1_drop_X1_find rfl rfl rfl (by decide +kernel) ⟨Nat.le_of_ble_eq_true rfl, Nat.le_of_ble_eq_true rfl⟩) ⟨dP_bl, va_recv hK hP (ci := 1) (q0 := 0) rfl rfl, fun U hU hW => ⟨rfl, dP_at hU hW hP hK hN⟩⟩ rfl rfl hl.1 rfl (lv_room (Nat.le_of_ble_eq_true rfl)) dX1_drop_2 ⟨Nat.le_of_ble_eq_true rfl, Nat.le_of_ble_eq_true rfl⟩) (fun r9 hr9 => ?_)
  rcases hr9 with ⟨hf_72, rfl⟩ | ⟨hf_72, rfl⟩
  · refine W.eq (g2 := F0 m 5 ls [.ref (ad (mIx x))]) rfl ?_
    obtain ⟨hj_73, hj_731, hj_732⟩ := kx_ix hn hf_72
    refine lv_astore_n (lv' := [(2, .ref (ad (mIx x))), (0, .ref h), (1, .int x)]) hx hb dX1_drop_5 rfl hl (by decide) rfl (fun ls hl => ?_)
    refine lv_aload_n hx hb dX1_drop_6 rfl (lv_at hl 0 rfl) ?_
    refine lv_ifnull hx hb dX1_drop_7 ?_
    refine lv_aload_n hx hb dX1_drop_10 rfl (lv_at hl 0 rfl) ?_
    refine va_getN (D := (dC, dI)) (ci := 0) (v := .int (ok (mIx x))) (C := RX0) (T := TX0) (N := 3) hx hb hts iwX1_drop_0 hown hK hP (6 + (mIx x)) (dW_at hj_73) rfl 1 (by decide) (dNw_fthere hN) (fun _ h9 => h9) rfl dX1_drop_11 ?_
    refine lv_if_ne (tgt := 19) hx hb dX1_drop_14 (by decide) (fun c_74 => ?_) (fun c_74 => ?_)
    · refine lv_aload_n hx hb dX1_drop_19 rfl (lv_at hl 0 rfl) ?_
      refine lv_iconst (v := 0) hx hb dX1_drop_20 (by decide) ?_
      refine va_putN (D := (dC, dI)) (ci := 0) (v := .int 0) (ty := .boolean) (C := RX0) (T := TX0) (N := 3) hx hb hts iwX1_drop_0 tyX0 tyX0_ok nmX0 hown hK hP hD hS (6 + (mIx x)) (dW_at hj_73) rfl 1 (by decide) (dNw_fthere hN) (fun _ h9 => h9) rfl (by decide +kernel) (by rfl) (by rfl) (Nat.le_of_ble_eq_true rfl) dX1_drop_21 (fun H locs hP hD hS => ?_)
      have hP : va_P (dC, dI) vwCl (dW h qT qC qS qA qF cT cC cS cA cF ad n kd (upd ok (mIx x) 0) cn rc rs an fl t0 t1 t2 t3 t4 t5) H := by rw [← dW_set_ok hj_73]; exact hP
      have hD : va_D A (dW h qT qC qS qA qF cT cC cS cA cF ad n kd (upd ok (mIx x) 0) cn rc rs an fl t0 t1 t2 t3 t4 t5) := by rw [← dW_set_ok hj_73]; exact hD
      refine lv_iconst (v := 1) hx hb dX1_drop_24 (by decide) ?_
      exact W.zret (v := 1) hx hb hr rfl (fun t ht hW => ⟨⟨_, (n, kd, upd ok (mIx x) 0, cn, rc, rs, an, fl, t0, t1, t2, t3, t4, t5), rfl, (by exact (if_pos ⟨hf_72, c_74⟩).symm), by rw [ht]; exact hP, hD⟩, hS.F ht⟩) hS.2.2 dX1_drop_25
    · refine lv_iconst (v := 0) hx hb dX1_drop_17 (by decide) ?_
      exact W.zret (v := 0) hx hb hr rfl (fun t ht hW => ⟨⟨_, (n, kd, ok, cn, rc, rs, an, fl, t0, t1, t2, t3, t4, t5), rfl, (by exact (if_neg (fun q => q.2 c_74)).symm), by rw [ht]; exact hP, hD⟩, hS.F ht⟩) hS.2.2 dX1_drop_18
  · refine W.eq (g2 := F0 m 5 ls [.null]) rfl ?_
    refine lv_astore_nN (lv' := [(2, .null), (0, .ref h), (1, .int x)]) hx hb dX1_drop_5 rfl hl (by decide) rfl (fun ls hl => ?_)
    refine lv_aload_nN hx hb dX1_drop_6 rfl (lv_at hl 0 rfl) ?_
    refine lv_ifnullN (tgt := 17) hx hb dX1_drop_7 (by decide) ?_
    refine lv_iconst (v := 0) hx hb dX1_drop_17 (by decide) ?_
    exact W.zret (v := 0) hx hb hr rfl (fun t ht hW => ⟨⟨_, (n, kd, ok, cn, rc, rs, an, fl, t0, t1, t2, t3, t4, t5), rfl, (by exact (if_neg (fun q => hf_72 q.1)).symm), by rw [ht]; exact hP, hD⟩, hS.F ht⟩) hS.2.2 dX1_drop_18
