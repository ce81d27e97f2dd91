theorem kx_le50 {x : Int32} (h1 : x ≤ 50) (h2 : ¬ x = 50) : x < 50 := by
  rcases Int32.lt_or_eq_of_le h1 with h | h
  · exact h
  · exact absurd h h2
theorem kx_7 {k : Int32} : (0 ≤ k ∧ k < 7) ↔ (0 ≤ k ∧ k ≤ 6) := by
  have e7 : (7 : Int32).toInt = 7 := by decide
  have e6 : (6 : Int32).toInt = 6 := by decide
  constructor
  · intro h
    refine ⟨h.1, Int32.le_iff_toInt_le.mpr ?_⟩
    have := Int32.lt_iff_toInt_lt.mp h.2
    omega
  · intro h
    refine ⟨h.1, Int32.lt_iff_toInt_lt.mpr ?_⟩
    have := Int32.le_iff_toInt_le.mp h.2
    omega
theorem iwX2_collect : ∀ w ∈ wsX20, w ∈ wsX2_collect := fun _ h => List.mem_cons_of_mem _ (List.mem_append_right _ h)
set_option maxHeartbeats 1000000 in
set_option maxRecDepth 100000 in
/-- collect(x, v) -/
theorem r_collect (l : Launch) (dC : Nat → ClassId) (dI : Nat → Nat → Nat) (h qs qm qa qf qk qt qd : Nat) (cs cm ca cf ck ct cd : ClassId) (n : Nat) (kd ok cn rc : Nat → Int32) (rs an : Nat → Int64) (fl : Nat → Int32) (t0 t1 t2 t3 t4 t5 th wy : Int32) (hrc : ∀ i, rc i ≤ 50) (sz : Nat) (x : Int32) (v : Int64) : Met l yX2_collect wsX2_collect ({ frames := 1, cells := 0, slots := 0, locals := 21 }) (va_Pc [.ref h, .int x, .long v] (rQ dC dI [(cs, .long), (cm, .int), (ca, .long), (cf, .int), (ck, .int), (ct, .boolean), (cd, .long)] (rW h qs qm qa qf qk qt qd cs cm ca cf ck ct cd n kd ok cn rc rs an fl t0 t1 t2 t3 t4 t5 th wy) sz)) (va_Qi (fun (r : Int32) (u : dM × Int32 × Int32) => (r, u.1) = mCollect (n, kd, ok, cn, rc, rs, an, fl, t0, t1, t2, t3, t4, t5) x v) (fun u t => dAt dC dI (rWm h qs qm qa qf qk qt qd cs cm ca cf ck ct cd u) (va_A (rW h qs qm qa qf qk qt qd cs cm ca cf ck ct cd n kd ok cn rc rs an fl t0 t1 t2 t3 t4 t5 th wy) sz) t) (va_A (rW h qs qm qa qf qk qt qd cs cm ca cf ck ct cd n kd ok cn rc rs an fl t0 t1 t2 t3 t4 t5 th wy) sz)) 0 0 (va_A (rW h qs qm qa qf qk qt qd cs cm ca cf ck ct cd n kd ok cn rc rs an fl t0 t1 t2 t3 t4 t5 th wy) sz) := by
  refine Met.ofW (cc := cX2_collect) (maxL := 4) (ret := (some .int)) (by decide) rfl ?_
  intro p e s m args below meth c s₁ B hml hv
  obtain ⟨rfl, hsz, hP, hK, hD0⟩ := hv
  have hx := B.exec
  have hb := B.bytes
  have hr := B.returns
  have hts := atoms_spec (ws := wsX2_collect) B.pre
  have hown : s.vm.findClass RX2 = some m.cls := findClass_of_methodNamed B.named
  have hlocks := B.notSynchronized
  subst hsz
  have hD := hD0.self (sz := s.heap.size)
  generalize hAe : va_A (rW h qs qm qa qf qk qt qd cs cm ca cf ck ct cd n kd ok cn rc rs an fl t0 t1 t2 t3 t4 t5 th wy) s.heap.size = A at hD ⊢
  have hA : ∀ q : Nat, s.heap.size ≤ q → A q := fun q h => by rw [← hAe]; exact Or.inr h
  have hS : va_S A s.heap s.heap [] := va_S.rf
  have hl := lv_entry ([.ref h, .int x, .long v]) (n := 4) (Nat.le_of_ble_eq_true rfl)
  rw [lg_entry_eq]
  generalize (lg_sl ([.ref h, .int x, .long v]) ++ List.replicate (4 - (lg_sl ([.ref h, .int x, .long v])).length) Slot.unset).toArray = ls at hl ⊢
  have hl : lv_has ls 4 [(0, .ref h), (1, .int x), (2, .long v)] := hl
  refine lv_aload_n hx hb dX2_collect_0 rfl (lv_at hl 0 rfl) ?_
  refine lv_iconst (v := 0) hx hb dX2_collect_1 (by decide) ?_
  refine va_put (D := (dC, dI)) (ci := 2) (v := .int 0) (ty := .int) (C := RX2) (T := TX2) (N := 16) hx hb hts iwX2_collect tyX2 tyX2_ok nmX2 hown hK hP hD hS 0 rfl rfl 8 (by decide) (hts (.fieldLink RX2 33 "MainframeDeskModel" "thrown" "I") (by decide +kernel)) (fun _ h9 => h9) rfl (by decide +kernel) rfl rfl (Nat.le_of_ble_eq_true rfl) dX2_collect_2 (fun H locs hP hD hS => ?_)
  have hP : va_P (dC, dI) vwCl (rW h qs qm qa qf qk qt qd cs cm ca cf ck ct cd n kd ok cn rc rs an fl t0 t1 t2 t3 t4 t5 0 wy) H := hP
  have hD : va_D A (rW h qs qm qa qf qk qt qd cs cm ca cf ck ct cd n kd ok cn rc rs an fl t0 t1 t2 t3 t4 t5 0 wy) := hD
  refine lv_iload_n hx hb dX2_collect_5 rfl (lv_at hl 1 rfl) ?_
  refine lv_iconst (v := 4) hx hb dX2_collect_6 (by decide) ?_
  refine vp_callSi (W.runS (As := [.int x, .int 4]) (rest := []) ⟨hx, hb, hml, hown, hts⟩ (r_below l x 4) (va_cwS 2 hts gX2_collect_X2_below rfl rfl rfl (by decide +kernel) ⟨Nat.le_of_ble_eq_true rfl, Nat.le_of_ble_eq_true rfl⟩) ⟨fun _ _ _ _ q => q, fun _ _ _ => ⟨rfl, trivial⟩⟩ rfl rfl hl.1 rfl (lv_room (Nat.le_of_ble_eq_true rfl)) dX2_collect_7 ⟨Nat.le_of_ble_eq_true rfl, Nat.le_of_ble_eq_true rfl⟩) (fun r9 hr9 => ?_)
  rcases hr9 with ⟨hq_183, rfl⟩ | ⟨hq_183, rfl⟩
  · refine lv_if_eq (tgt := 24) hx hb dX2_collect_10 (by decide) (fun h => absurd h (by decide)) (fun _ => ?_)
    refine lv_aload_n hx hb dX2_collect_13 rfl (lv_at hl 0 rfl) ?_
    refine va_get (D := (dC, dI)) (ci := 2) (v := .ref qm) (C := RX2) (T := TX2) (N := 16) hx hb hts iwX2_collect hown hK hP 0 rfl rfl 1 (by decide) (hts (.fieldLink RX2 13 "MainframeDeskModel" "many" "[I") (by decide +kernel)) (fun _ h9 => h9) rfl dX2_collect_14 ?_
    refine lv_iload_n hx hb dX2_collect_17 rfl (lv_at hl 1 rfl) ?_
    refine va_iald hx hb hK hP 2 1 rfl rfl (kx_in hq_183 (by decide)) dX2_collect_18 ?_
    refine lv_topi (fun v_185 ev_185 => ?_)
    refine lv_bipush (v := 50) hx hb dX2_collect_19 (by decide) ?_
    refine lv_icmp_ne (tgt := 26) hx hb dX2_collect_21 (by decide) (fun c_186 => ?_) (fun c_186 => ?_)
    · refine lv_aload_n hx hb dX2_collect_26 rfl (lv_at hl 0 rfl) ?_
      refine va_get (D := (dC, dI)) (ci := 2) (v := .ref qs) (C := RX2) (T := TX2) (N := 16) hx hb hts iwX2_collect hown hK hP 0 rfl rfl 0 (by decide) (hts (.fieldLink RX2 7 "MainframeDeskModel" "sum" "[J") (by decide +kernel)) (fun _ h9 => h9) rfl dX2_collect_27 ?_
      refine lv_iload_n hx hb dX2_collect_30 rfl (lv_at hl 1 rfl) ?_
      refine lv_dup2_11 hx hb dX2_collect_31 rfl rfl ?_
      refine va_lald hx hb hK hP 1 0 rfl rfl (kx_in hq_183 (by decide)) dX2_collect_32 ?_
      refine lv_topl (fun v_187 ev_187 => ?_)
      refine lv_lload_n hx hb dX2_collect_33 rfl (lv_at hl 2 rfl) ?_
      refine lv_ladd hx hb dX2_collect_34 ?_
      refine lv_topl (fun z_188 ez_188 => ?_)
      refine va_last hx hb hK hP hD hS 1 0 rfl rfl (kx_in hq_183 (by decide)) dX2_collect_35 (fun H locs hP hD hS => ?_)
      have hP : va_P (dC, dI) vwCl (rW h qs qm qa qf qk qt qd cs cm ca cf ck ct cd n kd ok cn rc (vp_updL rs x.toNatClampNeg z_188) an fl t0 t1 t2 t3 t4 t5 0 wy) H := hP
      have hD : va_D A (rW h qs qm qa qf qk qt qd cs cm ca cf ck ct cd n kd ok cn rc (vp_updL rs x.toNatClampNeg z_188) an fl t0 t1 t2 t3 t4 t5 0 wy) := hD
      refine lv_aload_n hx hb dX2_collect_36 rfl (lv_at hl 0 rfl) ?_
      refine va_get (D := (dC, dI)) (ci := 2) (v := .ref qm) (C := RX2) (T := TX2) (N := 16) hx hb hts iwX2_collect hown hK hP 0 rfl rfl 1 (by decide) (hts (.fieldLink RX2 13 "MainframeDeskModel" "many" "[I") (by decide +kernel)) (fun _ h9 => h9) rfl dX2_collect_37 ?_
      refine lv_iload_n hx hb dX2_collect_40 rfl (lv_at hl 1 rfl) ?_
      refine lv_dup2_11 hx hb dX2_collect_41 rfl rfl ?_
      refine va_iald hx hb hK hP 2 1 rfl rfl (kx_in hq_183 (by decide)) dX2_collect_42 ?_
      refine lv_topi (fun v_189 ev_189 => ?_)
      refine lv_iconst (v := 1) hx hb dX2_collect_43 (by decide) ?_
      refine lv_iadd hx hb dX2_collect_44 ?_
      refine lv_topi (fun z_190 ez_190 => ?_)
      refine va_iast hx hb hK hP hD hS 2 1 rfl rfl (kx_in hq_183 (by decide)) dX2_collect_45 (fun H locs hP hD hS => ?_)
      have hP : va_P (dC, dI) vwCl (rW h qs qm qa qf qk qt qd cs cm ca cf ck ct cd n kd ok cn (upd rc x.toNatClampNeg z_190) (vp_updL rs x.toNatClampNeg z_188) an fl t0 t1 t2 t3 t4 t5 0 wy) H := hP
      have hD : va_D A (rW h qs qm qa qf qk qt qd cs cm ca cf ck ct cd n kd ok cn (upd rc x.toNatClampNeg z_190) (vp_updL rs x.toNatClampNeg z_188) an fl t0 t1 t2 t3 t4 t5 0 wy) := hD
      refine lv_aload_n hx hb dX2_collect_46 rfl (lv_at hl 0 rfl) ?_
      refine va_get (D := (dC, dI)) (ci := 2) (v := .ref qm) (C := RX2) (T := TX2) (N := 16) hx hb hts iwX2_collect hown hK hP 0 rfl rfl 1 (by decide) (hts (.fieldLink RX2 13 "MainframeDeskModel" "many" "[I") (by decide +kernel)) (fun _ h9 => h9) rfl dX2_collect_47 ?_
      refine lv_iload_n hx hb dX2_collect_50 rfl (lv_at hl 1 rfl) ?_
      refine va_iald hx hb hK hP 2 1 rfl rfl (kx_in hq_183 (by decide)) dX2_collect_51 ?_
      refine lv_topi (fun v_191 ev_191 => ?_)
      rw [pk_us] at ev_191
      exact W.iret (v := v_191) hx hb hr (fun t ht hW => ⟨⟨_, ((n, kd, ok, cn, upd rc x.toNatClampNeg z_190, vp_updL rs x.toNatClampNeg z_188, an, fl, t0, t1, t2, t3, t4, t5), 0, wy), rfl, (by subst ev_185; subst ev_187; subst ez_188; subst ev_189; subst ez_190; subst ev_191; exact (if_pos ⟨hq_183, kx_le50 (hrc _) c_186⟩).symm), by rw [ht]; exact hP, hD⟩, hS.F ht⟩) hS.2.2 dX2_collect_52
    · refine lv_iconst (v := (-1)) hx hb dX2_collect_24 (by decide) ?_
      exact W.iret (v := (-1)) hx hb hr (fun t ht hW => ⟨⟨_, ((n, kd, ok, cn, rc, rs, an, fl, t0, t1, t2, t3, t4, t5), 0, wy), rfl, (by subst ev_185; exact (if_neg (fun q => by have q2 := q.2; rw [c_186] at q2; exact absurd q2 (by decide))).symm), by rw [ht]; exact hP, hD⟩, hS.F ht⟩) hS.2.2 dX2_collect_25
  · refine lv_if_eq (tgt := 24) hx hb dX2_collect_10 (by decide) (fun _ => ?_) (fun h => absurd h (by decide))
    refine lv_iconst (v := (-1)) hx hb dX2_collect_24 (by decide) ?_
    exact W.iret (v := (-1)) hx hb hr (fun t ht hW => ⟨⟨_, ((n, kd, ok, cn, rc, rs, an, fl, t0, t1, t2, t3, t4, t5), 0, wy), rfl, (by exact (if_neg (fun q => hq_183 q.1)).symm), by rw [ht]; exact hP, hD⟩, hS.F ht⟩) hS.2.2 dX2_collect_25
theorem iwX2_answer : ∀ w ∈ wsX20, w ∈ wsX2_answer := fun _ h => List.mem_cons_of_mem _ (List.mem_append_right _ h)
set_option maxHeartbeats 1000000 in
set_option maxRecDepth 100000 in
/-- answer(x, v) -/
theorem r_answer (l : Launch) (dC : Nat → ClassId) (dI : Nat → Nat → Nat) (h qs qm qa qf qk qt qd : Nat) (cs cm ca cf ck ct cd : ClassId) (n : Nat) (kd ok cn rc : Nat → Int32) (rs an : Nat → Int64) (fl : Nat → Int32) (t0 t1 t2 t3 t4 t5 th wy : Int32) (sz : Nat) (x : Int32) (v : Int64) : Met l yX2_answer wsX2_answer ({ frames := 1, cells := 0, slots := 0, locals := 21 }) (va_Pc [.ref h, .int x, .long v] (rQ dC dI [(cs, .long), (cm, .int), (ca, .long), (cf, .int), (ck, .int), (ct, .boolean), (cd, .long)] (rW h qs qm qa qf qk qt qd cs cm ca cf ck ct cd n kd ok cn rc rs an fl t0 t1 t2 t3 t4 t5 th wy) sz)) (va_Qi (fun (r : Int32) (u : dM × Int32 × Int32) => (r, u.1) = mAnswer (n, kd, ok, cn, rc, rs, an, fl, t0, t1, t2, t3, t4, t5) x v) (fun u t => dAt dC dI (rWm h qs qm qa qf qk qt qd cs cm ca cf ck ct cd u) (va_A (rW h qs qm qa qf qk qt qd cs cm ca cf ck ct cd n kd ok cn rc rs an fl t0 t1 t2 t3 t4 t5 th wy) sz) t) (va_A (rW h qs qm qa qf qk qt qd cs cm ca cf ck ct cd n kd ok cn rc rs an fl t0 t1 t2 t3 t4 t5 th wy) sz)) 0 0 (va_A (rW h qs qm qa qf qk qt qd cs cm ca cf ck ct cd n kd ok cn rc rs an fl t0 t1 t2 t3 t4 t5 th wy) sz) := by
  refine Met.ofW (cc := cX2_answer) (maxL := 4) (ret := (some .int)) (by decide) rfl ?_
  intro p e s m args below meth c s₁ B hml hv
  obtain ⟨rfl, hsz, hP, hK, hD0⟩ := hv
  have hx := B.exec
  have hb := B.bytes
  have hr := B.returns
  have hts := atoms_spec (ws := wsX2_answer) B.pre
  have hown : s.vm.findClass RX2 = some m.cls := findClass_of_methodNamed B.named
  have hlocks := B.notSynchronized
  subst hsz
  have hD := hD0.self (sz := s.heap.size)
  generalize hAe : va_A (rW h qs qm qa qf qk qt qd cs cm ca cf ck ct cd n kd ok cn rc rs an fl t0 t1 t2 t3 t4 t5 th wy) s.heap.size = A at hD ⊢
  have hA : ∀ q : Nat, s.heap.size ≤ q → A q := fun q h => by rw [← hAe]; exact Or.inr h
  have hS : va_S A s.heap s.heap [] := va_S.rf
  have hl := lv_entry ([.ref h, .int x, .long v]) (n := 4) (Nat.le_of_ble_eq_true rfl)
  rw [lg_entry_eq]
  generalize (lg_sl ([.ref h, .int x, .long v]) ++ List.replicate (4 - (lg_sl ([.ref h, .int x, .long v])).length) Slot.unset).toArray = ls at hl ⊢
  have hl : lv_has ls 4 [(0, .ref h), (1, .int x), (2, .long v)] := hl
  refine lv_aload_n hx hb dX2_answer_0 rfl (lv_at hl 0 rfl) ?_
  refine lv_iconst (v := 0) hx hb dX2_answer_1 (by decide) ?_
  refine va_put (D := (dC, dI)) (ci := 2) (v := .int 0) (ty := .int) (C := RX2) (T := TX2) (N := 16) hx hb hts iwX2_answer tyX2 tyX2_ok nmX2 hown hK hP hD hS 0 rfl rfl 8 (by decide) (hts (.fieldLink RX2 33 "MainframeDeskModel" "thrown" "I") (by decide +kernel)) (fun _ h9 => h9) rfl (by decide +kernel) rfl rfl (Nat.le_of_ble_eq_true rfl) dX2_answer_2 (fun H locs hP hD hS => ?_)
  have hP : va_P (dC, dI) vwCl (rW h qs qm qa qf qk qt qd cs cm ca cf ck ct cd n kd ok cn rc rs an fl t0 t1 t2 t3 t4 t5 0 wy) H := hP
  have hD : va_D A (rW h qs qm qa qf qk qt qd cs cm ca cf ck ct cd n kd ok cn rc rs an fl t0 t1 t2 t3 t4 t5 0 wy) := hD
  refine lv_iload_n hx hb dX2_answer_5 rfl (lv_at hl 1 rfl) ?_
  refine lv_bipush (v := 32) hx hb dX2_answer_6 (by decide) ?_
  refine vp_callSi (W.runS (As := [.int x, .int 32]) (rest := []) ⟨hx, hb, hml, hown, hts⟩ (r_below l x 32) (va_cwS 2 hts gX2_answer_X2_below rfl rfl rfl (by decide +kernel) ⟨Nat.le_of_ble_eq_true rfl, Nat.le_of_ble_eq_true rfl⟩) ⟨fun _ _ _ _ q => q, fun _ _ _ => ⟨rfl, trivial⟩⟩ rfl rfl hl.1 rfl (lv_room (Nat.le_of_ble_eq_true rfl)) dX2_answer_8 ⟨Nat.le_of_ble_eq_true rfl, Nat.le_of_ble_eq_true rfl⟩) (fun r9 hr9 => ?_)
  rcases hr9 with ⟨hq_193, rfl⟩ | ⟨hq_193, rfl⟩
  · refine lv_if_ne (tgt := 16) hx hb dX2_answer_11 (by decide) (fun _ => ?_) (fun h => absurd h (by decide))
    refine lv_aload_n hx hb dX2_answer_16 rfl (lv_at hl 0 rfl) ?_
    refine va_get (D := (dC, dI)) (ci := 2) (v := .ref qa) (C := RX2) (T := TX2) (N := 16) hx hb hts iwX2_answer hown hK hP 0 rfl rfl 2 (by decide) (hts (.fieldLink RX2 17 "MainframeDeskModel" "answers" "[J") (by decide +kernel)) (fun _ h9 => h9) rfl dX2_answer_17 ?_
    refine lv_iload_n hx hb dX2_answer_20 rfl (lv_at hl 1 rfl) ?_
    refine lv_lload_n hx hb dX2_answer_21 rfl (lv_at hl 2 rfl) ?_
    refine va_last hx hb hK hP hD hS 3 2 rfl rfl (kx_in hq_193 (by decide)) dX2_answer_22 (fun H locs hP hD hS => ?_)
    have hP : va_P (dC, dI) vwCl (rW h qs qm qa qf qk qt qd cs cm ca cf ck ct cd n kd ok cn rc rs (vp_updL an x.toNatClampNeg v) fl t0 t1 t2 t3 t4 t5 0 wy) H := hP
    have hD : va_D A (rW h qs qm qa qf qk qt qd cs cm ca cf ck ct cd n kd ok cn rc rs (vp_updL an x.toNatClampNeg v) fl t0 t1 t2 t3 t4 t5 0 wy) := hD
    refine lv_iconst (v := 1) hx hb dX2_answer_23 (by decide) ?_
    exact W.iret (v := 1) hx hb hr (fun t ht hW => ⟨⟨_, ((n, kd, ok, cn, rc, rs, vp_updL an x.toNatClampNeg v, fl, t0, t1, t2, t3, t4, t5), 0, wy), rfl, (by exact (if_pos hq_193).symm), by rw [ht]; exact hP, hD⟩, hS.F ht⟩) hS.2.2 dX2_answer_24
  · refine lv_if_ne (tgt := 16) hx hb dX2_answer_11 (by decide) (fun h => absurd h (by decide)) (fun _ => ?_)
    refine lv_iconst (v := (-1)) hx hb dX2_answer_14 (by decide) ?_
    exact W.iret (v := (-1)) hx hb hr (fun t ht hW => ⟨⟨_, ((n, kd, ok, cn, rc, rs, an, fl, t0, t1, t2, t3, t4, t5), 0, wy), rfl, (by exact (if_neg hq_193).symm), by rw [ht]; exact hP, hD⟩, hS.F ht⟩) hS.2.2 dX2_answer_15
theorem iwX2_fails : ∀ w ∈ wsX20, w ∈ wsX2_fails := fun _ h => List.mem_cons_of_mem _ (List.mem_append_right _ h)
set_option maxHeartbeats 1000000 in
set_option maxRecDepth 100000 in
/-- fails(x, k) -/
theorem r_fails (l : Launch) (dC : Nat → ClassId) (dI : Nat → Nat → Nat) (h qs qm qa qf qk qt qd : Nat) (cs cm ca cf ck ct cd : ClassId) (n : Nat) (kd ok cn rc : Nat → Int32) (rs an : Nat → Int64) (fl : Nat → Int32) (t0 t1 t2 t3 t4 t5 th wy : Int32) (sz : Nat) (x k : Int32) : Met l yX2_fails wsX2_fails ({ frames := 1, cells := 0, slots := 0, locals := 21 }) (va_Pc [.ref h, .int x, .int k] (rQ dC dI [(cs, .long), (cm, .int), (ca, .long), (cf, .int), (ck, .int), (ct, .boolean), (cd, .long)] (rW h qs qm qa qf qk qt qd cs cm ca cf ck ct cd n kd ok cn rc rs an fl t0 t1 t2 t3 t4 t5 th wy) sz)) (va_Qi (fun (r : Int32) (u : dM × Int32 × Int32) => (r, u.1) = mFails (n, kd, ok, cn, rc, rs, an, fl, t0, t1, t2, t3, t4, t5) x k) (fun u t => dAt dC dI (rWm h qs qm qa qf qk qt qd cs cm ca cf ck ct cd u) (va_A (rW h qs qm qa qf qk qt qd cs cm ca cf ck ct cd n kd ok cn rc rs an fl t0 t1 t2 t3 t4 t5 th wy) sz) t) (va_A (rW h qs qm qa qf qk qt qd cs cm ca cf ck ct cd n kd ok cn rc rs an fl t0 t1 t2 t3 t4 t5 th wy) sz)) 0 0 (va_A (rW h qs qm qa qf qk qt qd cs cm ca cf ck ct cd n kd ok cn rc rs an fl t0 t1 t2 t3 t4 t5 th wy) sz) := by
  refine Met.ofW (cc := cX2_fails) (maxL := 4) (ret := (some .int)) (by decide) rfl ?_
  intro p e s m args below meth c s₁ B hml hv
  obtain ⟨rfl, hsz, hP, hK, hD0⟩ := hv
  have hx := B.exec
  have hb := B.bytes
  have hr := B.returns
  have hts := atoms_spec (ws := wsX2_fails) B.pre
  have hown : s.vm.findClass RX2 = some m.cls := findClass_of_methodNamed B.named
  have hlocks := B.notSynchronized
  subst hsz
  have hD := hD0.self (sz := s.heap.size)
  generalize hAe : va_A (rW h qs qm qa qf qk qt qd cs cm ca cf ck ct cd n kd ok cn rc rs an fl t0 t1 t2 t3 t4 t5 th wy) s.heap.size = A at hD ⊢
  have hA : ∀ q : Nat, s.heap.size ≤ q → A q := fun q h => by rw [← hAe]; exact Or.inr h
  have hS : va_S A s.heap s.heap [] := va_S.rf
  have hl := lv_entry ([.ref h, .int x, .int k]) (n := 4) (Nat.le_of_ble_eq_true rfl)
  rw [lg_entry_eq]
  generalize (lg_sl ([.ref h, .int x, .int k]) ++ List.replicate (4 - (lg_sl ([.ref h, .int x, .int k])).length) Slot.unset).toArray = ls at hl ⊢
  have hl : lv_has ls 4 [(0, .ref h), (1, .int x), (2, .int k)] := hl
  refine lv_aload_n hx hb dX2_fails_0 rfl (lv_at hl 0 rfl) ?_
  refine lv_iconst (v := 0) hx hb dX2_fails_1 (by decide) ?_
  refine va_put (D := (dC, dI)) (ci := 2) (v := .int 0) (ty := .int) (C := RX2) (T := TX2) (N := 16) hx hb hts iwX2_fails tyX2 tyX2_ok nmX2 hown hK hP hD hS 0 rfl rfl 8 (by decide) (hts (.fieldLink RX2 33 "MainframeDeskModel" "thrown" "I") (by decide +kernel)) (fun _ h9 => h9) rfl (by decide +kernel) rfl rfl (Nat.le_of_ble_eq_true rfl) dX2_fails_2 (fun H locs hP hD hS => ?_)
  have hP : va_P (dC, dI) vwCl (rW h qs qm qa qf qk qt qd cs cm ca cf ck ct cd n kd ok cn rc rs an fl t0 t1 t2 t3 t4 t5 0 wy) H := hP
  have hD : va_D A (rW h qs qm qa qf qk qt qd cs cm ca cf ck ct cd n kd ok cn rc rs an fl t0 t1 t2 t3 t4 t5 0 wy) := hD
  refine lv_iload_n hx hb dX2_fails_5 rfl (lv_at hl 1 rfl) ?_
  refine lv_bipush (v := 32) hx hb dX2_fails_6 (by decide) ?_
  refine vp_callSi (W.runS (As := [.int x, .int 32]) (rest := []) ⟨hx, hb, hml, hown, hts⟩ (r_below l x 32) (va_cwS 2 hts gX2_fails_X2_below rfl rfl rfl (by decide +kernel) ⟨Nat.le_of_ble_eq_true rfl, Nat.le_of_ble_eq_true rfl⟩) ⟨fun _ _ _ _ q => q, fun _ _ _ => ⟨rfl, trivial⟩⟩ rfl rfl hl.1 rfl (lv_room (Nat.le_of_ble_eq_true rfl)) dX2_fails_8 ⟨Nat.le_of_ble_eq_true rfl, Nat.le_of_ble_eq_true rfl⟩) (fun r9 hr9 => ?_)
  rcases hr9 with ⟨hq_196, rfl⟩ | ⟨hq_196, rfl⟩
  · refine lv_if_eq (tgt := 23) hx hb dX2_fails_11 (by decide) (fun h => absurd h (by decide)) (fun _ => ?_)
    refine lv_iload_n hx hb dX2_fails_14 rfl (lv_at hl 2 rfl) ?_
    refine lv_bipush (v := 7) hx hb dX2_fails_15 (by decide) ?_
    refine vp_callSi (W.runS (As := [.int k, .int 7]) (rest := []) ⟨hx, hb, hml, hown, hts⟩ (r_below l k 7) (va_cwS 2 hts gX2_fails_X2_below rfl rfl rfl (by decide +kernel) ⟨Nat.le_of_ble_eq_true rfl, Nat.le_of_ble_eq_true rfl⟩) ⟨fun _ _ _ _ q => q, fun _ _ _ => ⟨rfl, trivial⟩⟩ rfl rfl hl.1 rfl (lv_room (Nat.le_of_ble_eq_true rfl)) dX2_fails_17 ⟨Nat.le_of_ble_eq_true rfl, Nat.le_of_ble_eq_true rfl⟩) (fun r9 hr9 => ?_)
    rcases hr9 with ⟨hq_198, rfl⟩ | ⟨hq_198, rfl⟩
    · refine lv_if_ne (tgt := 25) hx hb dX2_fails_20 (by decide) (fun _ => ?_) (fun h => absurd h (by decide))
      refine lv_aload_n hx hb dX2_fails_25 rfl (lv_at hl 0 rfl) ?_
      refine va_get (D := (dC, dI)) (ci := 2) (v := .ref qf) (C := RX2) (T := TX2) (N := 16) hx hb hts iwX2_fails hown hK hP 0 rfl rfl 3 (by decide) (hts (.fieldLink RX2 20 "MainframeDeskModel" "failures" "[I") (by decide +kernel)) (fun _ h9 => h9) rfl dX2_fails_26 ?_
      refine lv_iload_n hx hb dX2_fails_29 rfl (lv_at hl 1 rfl) ?_
      refine va_iald hx hb hK hP 4 3 rfl rfl (kx_in hq_196 (by decide)) dX2_fails_30 ?_
      refine lv_topi (fun v_200 ev_200 => ?_)
      refine lv_istore_n (lv' := [(3, .int v_200), (0, .ref h), (1, .int x), (2, .int k)]) hx hb dX2_fails_31 rfl hl (by decide) rfl (fun ls hl => ?_)
      refine lv_aload_n hx hb dX2_fails_32 rfl (lv_at hl 1 rfl) ?_
      refine va_get (D := (dC, dI)) (ci := 2) (v := .ref qf) (C := RX2) (T := TX2) (N := 16) hx hb hts iwX2_fails hown hK hP 0 rfl rfl 3 (by decide) (hts (.fieldLink RX2 20 "MainframeDeskModel" "failures" "[I") (by decide +kernel)) (fun _ h9 => h9) rfl dX2_fails_33 ?_
      refine lv_iload_n hx hb dX2_fails_36 rfl (lv_at hl 2 rfl) ?_
      refine lv_iload_n hx hb dX2_fails_37 rfl (lv_at hl 3 rfl) ?_
      refine va_iast hx hb hK hP hD hS 4 3 rfl rfl (kx_in hq_196 (by decide)) dX2_fails_38 (fun H locs hP hD hS => ?_)
      have hP : va_P (dC, dI) vwCl (rW h qs qm qa qf qk qt qd cs cm ca cf ck ct cd n kd ok cn rc rs an (upd fl x.toNatClampNeg k) t0 t1 t2 t3 t4 t5 0 wy) H := hP
      have hD : va_D A (rW h qs qm qa qf qk qt qd cs cm ca cf ck ct cd n kd ok cn rc rs an (upd fl x.toNatClampNeg k) t0 t1 t2 t3 t4 t5 0 wy) := hD
      refine lv_iload_n hx hb dX2_fails_39 rfl (lv_at hl 0 rfl) ?_
      exact W.iret (v := v_200) hx hb hr (fun t ht hW => ⟨⟨_, ((n, kd, ok, cn, rc, rs, an, upd fl x.toNatClampNeg k, t0, t1, t2, t3, t4, t5), 0, wy), rfl, (by subst ev_200; exact (if_pos ⟨hq_196, kx_7.mp hq_198⟩).symm), by rw [ht]; exact hP, hD⟩, hS.F ht⟩) hS.2.2 dX2_fails_40
    · refine lv_if_ne (tgt := 25) hx hb dX2_fails_20 (by decide) (fun h => absurd h (by decide)) (fun _ => ?_)
      refine lv_iconst (v := (-1)) hx hb dX2_fails_23 (by decide) ?_
      exact W.iret (v := (-1)) hx hb hr (fun t ht hW => ⟨⟨_, ((n, kd, ok, cn, rc, rs, an, fl, t0, t1, t2, t3, t4, t5), 0, wy), rfl, (by exact (if_neg (fun q => hq_198 (kx_7.mpr q.2))).symm), by rw [ht]; exact hP, hD⟩, hS.F ht⟩) hS.2.2 dX2_fails_24
  · refine lv_if_eq (tgt := 23) hx hb dX2_fails_11 (by decide) (fun _ => ?_) (fun h => absurd h (by decide))
    refine lv_iconst (v := (-1)) hx hb dX2_fails_23 (by decide) ?_
    exact W.iret (v := (-1)) hx hb hr (fun t ht hW => ⟨⟨_, ((n, kd, ok, cn, rc, rs, an, fl, t0, t1, t2, t3, t4, t5), 0, wy), rfl, (by exact (if_neg (fun q => hq_196 q.1)).symm), by rw [ht]; exact hP, hD⟩, hS.F ht⟩) hS.2.2 dX2_fails_24
theorem iwX2_make : ∀ w ∈ wsX20, w ∈ wsX2_make := fun _ h => List.mem_cons_of_mem _ (List.mem_append_right _ h)
set_option maxHeartbeats 1000000 in
set_option maxRecDepth 100000 in
/-- make(k) -/
theorem r_make (l : Launch) (dC : Nat → ClassId) (dI : Nat → Nat → Nat) (h qs qm qa qf qk qt qd : Nat) (cs cm ca cf ck ct cd : ClassId) (n : Nat) (kd ok cn rc : Nat → Int32) (rs an : Nat → Int64) (fl : Nat → Int32) (t0 t1 t2 t3 t4 t5 th wy : Int32) (hn : n ≤ 200) (sz : Nat) (k : Int32) : Met l yX2_make wsX2_make ({ frames := 1, cells := 0, slots := 0, locals := 21 }) (va_Pc [.ref h, .int k] (rQ dC dI [(cs, .long), (cm, .int), (ca, .long), (cf, .int), (ck, .int), (ct, .boolean), (cd, .long)] (rW h qs qm qa qf qk qt qd cs cm ca cf ck ct cd n kd ok cn rc rs an fl t0 t1 t2 t3 t4 t5 th wy) sz)) (va_Qi (fun (r : Int32) (u : dM × Int32 × Int32) => (r, u.1) = mMake (n, kd, ok, cn, rc, rs, an, fl, t0, t1, t2, t3, t4, t5) k) (fun u t => dAt dC dI (rWm h qs qm qa qf qk qt qd cs cm ca cf ck ct cd u) (va_A (rW h qs qm qa qf qk qt qd cs cm ca cf ck ct cd n kd ok cn rc rs an fl t0 t1 t2 t3 t4 t5 th wy) sz) t) (va_A (rW h qs qm qa qf qk qt qd cs cm ca cf ck ct cd n kd ok cn rc rs an fl t0 t1 t2 t3 t4 t5 th wy) sz)) 0 0 (va_A (rW h qs qm qa qf qk qt qd cs cm ca cf ck ct cd n kd ok cn rc rs an fl t0 t1 t2 t3 t4 t5 th wy) sz) := by
  refine Met.ofW (cc := cX2_make) (maxL := 2) (ret := (some .int)) (by decide) rfl ?_
  intro p e s m args below meth c s₁ B hml hv
  obtain ⟨rfl, hsz, hP, hK, hD0⟩ := hv
  have hx := B.exec
  have hb := B.bytes
  have hr := B.returns
  have hts := atoms_spec (ws := wsX2_make) B.pre
  have hown : s.vm.findClass RX2 = some m.cls := findClass_of_methodNamed B.named
  have hlocks := B.notSynchronized
  subst hsz
  have hD := hD0.self (sz := s.heap.size)
  generalize hAe : va_A (rW h qs qm qa qf qk qt qd cs cm ca cf ck ct cd n kd ok cn rc rs an fl t0 t1 t2 t3 t4 t5 th wy) s.heap.size = A at hD ⊢
  have hA : ∀ q : Nat, s.heap.size ≤ q → A q := fun q h => by rw [← hAe]; exact Or.inr h
  have hS : va_S A s.heap s.heap [] := va_S.rf
  have hl := lv_entry ([.ref h, .int k]) (n := 2) (Nat.le_of_ble_eq_true rfl)
  rw [lg_entry_eq]
  generalize (lg_sl ([.ref h, .int k]) ++ List.replicate (2 - (lg_sl ([.ref h, .int k])).length) Slot.unset).toArray = ls at hl ⊢
  have hl : lv_has ls 2 [(0, .ref h), (1, .int k)] := hl
  refine lv_aload_n hx hb dX2_make_0 rfl (lv_at hl 0 rfl) ?_
  refine lv_iconst (v := 0) hx hb dX2_make_1 (by decide) ?_
  refine va_put (D := (dC, dI)) (ci := 2) (v := .int 0) (ty := .int) (C := RX2) (T := TX2) (N := 16) hx hb hts iwX2_make tyX2 tyX2_ok nmX2 hown hK hP hD hS 0 rfl rfl 8 (by decide) (hts (.fieldLink RX2 33 "MainframeDeskModel" "thrown" "I") (by decide +kernel)) (fun _ h9 => h9) rfl (by decide +kernel) rfl rfl (Nat.le_of_ble_eq_true rfl) dX2_make_2 (fun H locs hP hD hS => ?_)
  have hP : va_P (dC, dI) vwCl (rW h qs qm qa qf qk qt qd cs cm ca cf ck ct cd n kd ok cn rc rs an fl t0 t1 t2 t3 t4 t5 0 wy) H := hP
  have hD : va_D A (rW h qs qm qa qf qk qt qd cs cm ca cf ck ct cd n kd ok cn rc rs an fl t0 t1 t2 t3 t4 t5 0 wy) := hD
  refine lv_iload_n hx hb dX2_make_5 rfl (lv_at hl 1 rfl) ?_
  refine lv_bipush (v := 8) hx hb dX2_make_6 (by decide) ?_
  refine vp_callSi (W.runS (As := [.int k, .int 8]) (rest := []) ⟨hx, hb, hml, hown, hts⟩ (r_below l k 8) (va_cwS 2 hts gX2_make_X2_below rfl rfl rfl (by decide +kernel) ⟨Nat.le_of_ble_eq_true rfl, Nat.le_of_ble_eq_true rfl⟩) ⟨fun _ _ _ _ q => q, fun _ _ _ => ⟨rfl, trivial⟩⟩ rfl rfl hl.1 rfl (lv_room (Nat.le_of_ble_eq_true rfl)) dX2_make_8 ⟨Nat.le_of_ble_eq_true rfl, Nat.le_of_ble_eq_true rfl⟩) (fun r9 hr9 => ?_)
  rcases hr9 with ⟨hq_203, rfl⟩ | ⟨hq_203, rfl⟩
  · refine lv_if_eq (tgt := 24) hx hb dX2_make_11 (by decide) (fun h => absurd h (by decide)) (fun _ => ?_)
    refine lv_aload_n hx hb dX2_make_14 rfl (lv_at hl 0 rfl) ?_
    refine va_get (D := (dC, dI)) (ci := 2) (v := .int (nI n)) (C := RX2) (T := TX2) (N := 16) hx hb hts iwX2_make hown hK hP 0 rfl rfl 7 (by decide) (hts (.fieldLink RX2 41 "MainframeDeskModel" "made" "I") (by decide +kernel)) (fun _ h9 => h9) rfl dX2_make_15 ?_
    refine lv_sipush (v := 200) hx hb dX2_make_18 (by decide) ?_
    refine lv_icmp_ne (tgt := 26) hx hb dX2_make_21 (by decide) (fun c_205 => ?_) (fun c_205 => ?_)
    · have hn2 : n < 200 := by
        rcases Nat.lt_or_ge n 200 with q | q
        · exact q
        · exact absurd (show nI n = 200 by rw [show n = 200 by omega]; rfl) c_205
      have hz8 : (nI n).toNatClampNeg = n := nI_clamp (by omega)
      refine lv_aload_n hx hb dX2_make_26 rfl (lv_at hl 0 rfl) ?_
      refine va_get (D := (dC, dI)) (ci := 2) (v := .ref qk) (C := RX2) (T := TX2) (N := 16) hx hb hts iwX2_make hown hK hP 0 rfl rfl 4 (by decide) (hts (.fieldLink RX2 23 "MainframeDeskModel" "kind" "[I") (by decide +kernel)) (fun _ h9 => h9) rfl dX2_make_27 ?_
      refine lv_aload_n hx hb dX2_make_30 rfl (lv_at hl 0 rfl) ?_
      refine va_get (D := (dC, dI)) (ci := 2) (v := .int (nI n)) (C := RX2) (T := TX2) (N := 16) hx hb hts iwX2_make hown hK hP 0 rfl rfl 7 (by decide) (hts (.fieldLink RX2 41 "MainframeDeskModel" "made" "I") (by decide +kernel)) (fun _ h9 => h9) rfl dX2_make_31 ?_
      refine lv_iload_n hx hb dX2_make_34 rfl (lv_at hl 1 rfl) ?_
      refine va_iast hx hb hK hP hD hS 5 4 rfl rfl (vp_in_nI hn2 (by omega)) dX2_make_35 (fun H locs hP hD hS => ?_)
      rw [hz8] at hP hD
      have hP : va_P (dC, dI) vwCl (rW h qs qm qa qf qk qt qd cs cm ca cf ck ct cd n (upd kd n k) ok cn rc rs an fl t0 t1 t2 t3 t4 t5 0 wy) H := hP
      have hD : va_D A (rW h qs qm qa qf qk qt qd cs cm ca cf ck ct cd n (upd kd n k) ok cn rc rs an fl t0 t1 t2 t3 t4 t5 0 wy) := hD
      refine lv_aload_n hx hb dX2_make_36 rfl (lv_at hl 0 rfl) ?_
      refine va_get (D := (dC, dI)) (ci := 2) (v := .ref qt) (C := RX2) (T := TX2) (N := 16) hx hb hts iwX2_make hown hK hP 0 rfl rfl 5 (by decide) (hts (.fieldLink RX2 26 "MainframeDeskModel" "there" "[Z") (by decide +kernel)) (fun _ h9 => h9) rfl dX2_make_37 ?_
      refine lv_aload_n hx hb dX2_make_40 rfl (lv_at hl 0 rfl) ?_
      refine va_get (D := (dC, dI)) (ci := 2) (v := .int (nI n)) (C := RX2) (T := TX2) (N := 16) hx hb hts iwX2_make hown hK hP 0 rfl rfl 7 (by decide) (hts (.fieldLink RX2 41 "MainframeDeskModel" "made" "I") (by decide +kernel)) (fun _ h9 => h9) rfl dX2_make_41 ?_
      refine lv_iconst (v := 1) hx hb dX2_make_44 (by decide) ?_
      refine va_zast hx hb hK hP hD hS 6 5 rfl rfl (vp_in_nI hn2 (by omega)) dX2_make_45 (fun H locs hP hD hS => ?_)
      rw [hz8] at hP hD
      rw [kx_nb1] at hP hD
      have hP : va_P (dC, dI) vwCl (rW h qs qm qa qf qk qt qd cs cm ca cf ck ct cd n (upd kd n k) (upd ok n 1) cn rc rs an fl t0 t1 t2 t3 t4 t5 0 wy) H := hP
      have hD : va_D A (rW h qs qm qa qf qk qt qd cs cm ca cf ck ct cd n (upd kd n k) (upd ok n 1) cn rc rs an fl t0 t1 t2 t3 t4 t5 0 wy) := hD
      refine lv_aload_n hx hb dX2_make_46 rfl (lv_at hl 0 rfl) ?_
      refine va_get (D := (dC, dI)) (ci := 2) (v := .ref qd) (C := RX2) (T := TX2) (N := 16) hx hb hts iwX2_make hown hK hP 0 rfl rfl 6 (by decide) (hts (.fieldLink RX2 30 "MainframeDeskModel" "answered" "[J") (by decide +kernel)) (fun _ h9 => h9) rfl dX2_make_47 ?_
      refine lv_aload_n hx hb dX2_make_50 rfl (lv_at hl 0 rfl) ?_
      refine va_get (D := (dC, dI)) (ci := 2) (v := .int (nI n)) (C := RX2) (T := TX2) (N := 16) hx hb hts iwX2_make hown hK hP 0 rfl rfl 7 (by decide) (hts (.fieldLink RX2 41 "MainframeDeskModel" "made" "I") (by decide +kernel)) (fun _ h9 => h9) rfl dX2_make_51 ?_
      refine lv_lconst (v := 0) hx hb dX2_make_54 (by decide) ?_
      refine va_last hx hb hK hP hD hS 7 6 rfl rfl (vp_in_nI hn2 (by omega)) dX2_make_55 (fun H locs hP hD hS => ?_)
      rw [hz8] at hP hD
      rw [mL_0] at hP hD
      have hP : va_P (dC, dI) vwCl (rW h qs qm qa qf qk qt qd cs cm ca cf ck ct cd n (upd kd n k) (upd ok n 1) (upd cn n 0) rc rs an fl t0 t1 t2 t3 t4 t5 0 wy) H := hP
      have hD : va_D A (rW h qs qm qa qf qk qt qd cs cm ca cf ck ct cd n (upd kd n k) (upd ok n 1) (upd cn n 0) rc rs an fl t0 t1 t2 t3 t4 t5 0 wy) := hD
      refine lv_aload_n hx hb dX2_make_56 rfl (lv_at hl 0 rfl) ?_
      refine lv_dup hx hb dX2_make_57 rfl ?_
      refine va_get (D := (dC, dI)) (ci := 2) (v := .int (nI n)) (C := RX2) (T := TX2) (N := 16) hx hb hts iwX2_make hown hK hP 0 rfl rfl 7 (by decide) (hts (.fieldLink RX2 41 "MainframeDeskModel" "made" "I") (by decide +kernel)) (fun _ h9 => h9) rfl dX2_make_58 ?_
      refine lv_iconst (v := 1) hx hb dX2_make_61 (by decide) ?_
      refine lv_iadd hx hb dX2_make_62 ?_
      refine lv_topi (fun z_206 ez_206 => ?_)
      rw [ez_206, nI_1] 
      refine va_put (D := (dC, dI)) (ci := 2) (v := .int (nI (n + 1))) (ty := .int) (C := RX2) (T := TX2) (N := 16) hx hb hts iwX2_make tyX2 tyX2_ok nmX2 hown hK hP hD hS 0 rfl rfl 7 (by decide) (hts (.fieldLink RX2 41 "MainframeDeskModel" "made" "I") (by decide +kernel)) (fun _ h9 => h9) rfl (by decide +kernel) rfl rfl (Nat.le_of_ble_eq_true rfl) dX2_make_63 (fun H locs hP hD hS => ?_)
      have hP : va_P (dC, dI) vwCl (rW h qs qm qa qf qk qt qd cs cm ca cf ck ct cd (n + 1) (upd kd n k) (upd ok n 1) (upd cn n 0) rc rs an fl t0 t1 t2 t3 t4 t5 0 wy) H := hP
      have hD : va_D A (rW h qs qm qa qf qk qt qd cs cm ca cf ck ct cd (n + 1) (upd kd n k) (upd ok n 1) (upd cn n 0) rc rs an fl t0 t1 t2 t3 t4 t5 0 wy) := hD
      refine lv_aload_n hx hb dX2_make_66 rfl (lv_at hl 0 rfl) ?_
      refine va_get (D := (dC, dI)) (ci := 2) (v := .int (nI (n + 1))) (C := RX2) (T := TX2) (N := 16) hx hb hts iwX2_make hown hK hP 0 rfl rfl 7 (by decide) (hts (.fieldLink RX2 41 "MainframeDeskModel" "made" "I") (by decide +kernel)) (fun _ h9 => h9) rfl dX2_make_67 ?_
      exact W.iret (v := nI (n + 1)) hx hb hr (fun t ht hW => ⟨⟨_, ((n + 1, upd kd n k, upd ok n 1, upd cn n 0, rc, rs, an, fl, t0, t1, t2, t3, t4, t5), 0, wy), rfl, (if_pos ⟨hq_203, hn2⟩).symm, by rw [ht]; exact hP, hD⟩, hS.F ht⟩) hS.2.2 dX2_make_70
    · refine lv_iconst (v := (-1)) hx hb dX2_make_24 (by decide) ?_
      exact W.iret (v := (-1)) hx hb hr (fun t ht hW => ⟨⟨_, ((n, kd, ok, cn, rc, rs, an, fl, t0, t1, t2, t3, t4, t5), 0, wy), rfl, (if_neg (fun q => absurd ((nI_eq (a := n) (b := 200) (by omega) (by omega)).mp c_205) (by omega))).symm, by rw [ht]; exact hP, hD⟩, hS.F ht⟩) hS.2.2 dX2_make_25
  · refine lv_if_eq (tgt := 24) hx hb dX2_make_11 (by decide) (fun _ => ?_) (fun h => absurd h (by decide))
    refine lv_iconst (v := (-1)) hx hb dX2_make_24 (by decide) ?_
    exact W.iret (v := (-1)) hx hb hr (fun t ht hW => ⟨⟨_, ((n, kd, ok, cn, rc, rs, an, fl, t0, t1, t2, t3, t4, t5), 0, wy), rfl, (if_neg (fun q => hq_203 q.1)).symm, by rw [ht]; exact hP, hD⟩, hS.F ht⟩) hS.2.2 dX2_make_25
theorem iwX2_told : ∀ w ∈ wsX20, w ∈ wsX2_told := fun _ h => List.mem_cons_of_mem _ (List.mem_append_right _ h)
set_option maxHeartbeats 1000000 in
set_option maxRecDepth 100000 in
/-- told(x) -/
theorem r_told (l : Launch) (dC : Nat → ClassId) (dI : Nat → Nat → Nat) (h qs qm qa qf qk qt qd : Nat) (cs cm ca cf ck ct cd : ClassId) (n : Nat) (kd ok cn rc : Nat → Int32) (rs an : Nat → Int64) (fl : Nat → Int32) (t0 t1 t2 t3 t4 t5 th wy : Int32) (sz : Nat) (x : Int32) : Met l yX2_told wsX2_told ({ frames := 0, cells := 0, slots := 0, locals := 0 }) (va_Pc [.ref h, .int x] (rQ dC dI [(cs, .long), (cm, .int), (ca, .long), (cf, .int), (ck, .int), (ct, .boolean), (cd, .long)] (rW h qs qm qa qf qk qt qd cs cm ca cf ck ct cd n kd ok cn rc rs an fl t0 t1 t2 t3 t4 t5 th wy) sz)) (va_Qi (fun (r : Int32) (u : dM × Int32 × Int32) => r = mTold (n, kd, ok, cn, rc, rs, an, fl, t0, t1, t2, t3, t4, t5) x ∧ u.1 = (n, kd, ok, cn, rc, rs, an, fl, t0, t1, t2, t3, t4, t5)) (fun u t => dAt dC dI (rWm h qs qm qa qf qk qt qd cs cm ca cf ck ct cd u) (va_A (rW h qs qm qa qf qk qt qd cs cm ca cf ck ct cd n kd ok cn rc rs an fl t0 t1 t2 t3 t4 t5 th wy) sz) t) (va_A (rW h qs qm qa qf qk qt qd cs cm ca cf ck ct cd n kd ok cn rc rs an fl t0 t1 t2 t3 t4 t5 th wy) sz)) 0 0 (va_A (rW h qs qm qa qf qk qt qd cs cm ca cf ck ct cd n kd ok cn rc rs an fl t0 t1 t2 t3 t4 t5 th wy) sz) := by
  refine Met.ofW (cc := cX2_told) (maxL := 2) (ret := (some .int)) (by decide) rfl ?_
  intro p e s m args below meth c s₁ B hml hv
  obtain ⟨rfl, hsz, hP, hK, hD0⟩ := hv
  have hx := B.exec
  have hb := B.bytes
  have hr := B.returns
  have hts := atoms_spec (ws := wsX2_told) B.pre
  have hown : s.vm.findClass RX2 = some m.cls := findClass_of_methodNamed B.named
  have hlocks := B.notSynchronized
  subst hsz
  have hD := hD0.self (sz := s.heap.size)
  generalize hAe : va_A (rW h qs qm qa qf qk qt qd cs cm ca cf ck ct cd n kd ok cn rc rs an fl t0 t1 t2 t3 t4 t5 th wy) s.heap.size = A at hD ⊢
  have hA : ∀ q : Nat, s.heap.size ≤ q → A q := fun q h => by rw [← hAe]; exact Or.inr h
  have hS : va_S A s.heap s.heap [] := va_S.rf
  have hl := lv_entry ([.ref h, .int x]) (n := 2) (Nat.le_of_ble_eq_true rfl)
  rw [lg_entry_eq]
  generalize (lg_sl ([.ref h, .int x]) ++ List.replicate (2 - (lg_sl ([.ref h, .int x])).length) Slot.unset).toArray = ls at hl ⊢
  have hl : lv_has ls 2 [(0, .ref h), (1, .int x)] := hl
  refine lv_aload_n hx hb dX2_told_0 rfl (lv_at hl 0 rfl) ?_
  refine lv_iconst (v := 0) hx hb dX2_told_1 (by decide) ?_
  refine va_put (D := (dC, dI)) (ci := 2) (v := .int 0) (ty := .int) (C := RX2) (T := TX2) (N := 16) hx hb hts iwX2_told tyX2 tyX2_ok nmX2 hown hK hP hD hS 0 rfl rfl 8 (by decide) (hts (.fieldLink RX2 33 "MainframeDeskModel" "thrown" "I") (by decide +kernel)) (fun _ h9 => h9) rfl (by decide +kernel) rfl rfl (Nat.le_of_ble_eq_true rfl) dX2_told_2 (fun H locs hP hD hS => ?_)
  have hP : va_P (dC, dI) vwCl (rW h qs qm qa qf qk qt qd cs cm ca cf ck ct cd n kd ok cn rc rs an fl t0 t1 t2 t3 t4 t5 0 wy) H := hP
  have hD : va_D A (rW h qs qm qa qf qk qt qd cs cm ca cf ck ct cd n kd ok cn rc rs an fl t0 t1 t2 t3 t4 t5 0 wy) := hD
  refine lv_iload_n hx hb dX2_told_5 rfl (lv_at hl 1 rfl) ?_
  by_cases hs_208 : x = 0
  · refine lv_tableIn (off := 38) (tgt := 44) hx hb dX2_told_6 (by rw [hs_208]; decide) (by rw [hs_208]; decide) (by rw [hs_208]; rfl) (by decide) ?_
    refine lv_aload_n hx hb dX2_told_44 rfl (lv_at hl 0 rfl) ?_
    refine va_get (D := (dC, dI)) (ci := 2) (v := .int t0) (C := RX2) (T := TX2) (N := 16) hx hb hts iwX2_told hown hK hP 0 rfl rfl 9 (by decide) (hts (.fieldLink RX2 67 "MainframeDeskModel" "latest" "I") (by decide +kernel)) (fun _ h9 => h9) rfl dX2_told_45 ?_
    exact W.iret (v := t0) hx hb hr (fun t ht hW => ⟨⟨_, ((n, kd, ok, cn, rc, rs, an, fl, t0, t1, t2, t3, t4, t5), 0, wy), rfl, ⟨(by unfold mTold; dsimp only; rw [if_pos hs_208]), rfl⟩, by rw [ht]; exact hP, hD⟩, hS.F ht⟩) hS.2.2 dX2_told_48
  · by_cases hs_209 : x = 1
    · refine lv_tableIn (off := 43) (tgt := 49) hx hb dX2_told_6 (by rw [hs_209]; decide) (by rw [hs_209]; decide) (by rw [hs_209]; rfl) (by decide) ?_
      refine lv_aload_n hx hb dX2_told_49 rfl (lv_at hl 0 rfl) ?_
      refine va_get (D := (dC, dI)) (ci := 2) (v := .int t1) (C := RX2) (T := TX2) (N := 16) hx hb hts iwX2_told hown hK hP 0 rfl rfl 10 (by decide) (hts (.fieldLink RX2 70 "MainframeDeskModel" "latestCall" "I") (by decide +kernel)) (fun _ h9 => h9) rfl dX2_told_50 ?_
      exact W.iret (v := t1) hx hb hr (fun t ht hW => ⟨⟨_, ((n, kd, ok, cn, rc, rs, an, fl, t0, t1, t2, t3, t4, t5), 0, wy), rfl, ⟨(by unfold mTold; dsimp only; rw [if_neg hs_208, if_pos hs_209]), rfl⟩, by rw [ht]; exact hP, hD⟩, hS.F ht⟩) hS.2.2 dX2_told_53
    · by_cases hs_210 : x = 2
      · refine lv_tableIn (off := 48) (tgt := 54) hx hb dX2_told_6 (by rw [hs_210]; decide) (by rw [hs_210]; decide) (by rw [hs_210]; rfl) (by decide) ?_
        refine lv_aload_n hx hb dX2_told_54 rfl (lv_at hl 0 rfl) ?_
        refine va_get (D := (dC, dI)) (ci := 2) (v := .int t2) (C := RX2) (T := TX2) (N := 16) hx hb hts iwX2_told hown hK hP 0 rfl rfl 11 (by decide) (hts (.fieldLink RX2 73 "MainframeDeskModel" "latestThing" "I") (by decide +kernel)) (fun _ h9 => h9) rfl dX2_told_55 ?_
        exact W.iret (v := t2) hx hb hr (fun t ht hW => ⟨⟨_, ((n, kd, ok, cn, rc, rs, an, fl, t0, t1, t2, t3, t4, t5), 0, wy), rfl, ⟨(by unfold mTold; dsimp only; rw [if_neg hs_208, if_neg hs_209, if_pos hs_210]), rfl⟩, by rw [ht]; exact hP, hD⟩, hS.F ht⟩) hS.2.2 dX2_told_58
      · by_cases hs_211 : x = 3
        · refine lv_tableIn (off := 53) (tgt := 59) hx hb dX2_told_6 (by rw [hs_211]; decide) (by rw [hs_211]; decide) (by rw [hs_211]; rfl) (by decide) ?_
          refine lv_aload_n hx hb dX2_told_59 rfl (lv_at hl 0 rfl) ?_
          refine va_get (D := (dC, dI)) (ci := 2) (v := .int t3) (C := RX2) (T := TX2) (N := 16) hx hb hts iwX2_told hown hK hP 0 rfl rfl 12 (by decide) (hts (.fieldLink RX2 76 "MainframeDeskModel" "failed" "I") (by decide +kernel)) (fun _ h9 => h9) rfl dX2_told_60 ?_
          exact W.iret (v := t3) hx hb hr (fun t ht hW => ⟨⟨_, ((n, kd, ok, cn, rc, rs, an, fl, t0, t1, t2, t3, t4, t5), 0, wy), rfl, ⟨(by unfold mTold; dsimp only; rw [if_neg hs_208, if_neg hs_209, if_neg hs_210, if_pos hs_211]), rfl⟩, by rw [ht]; exact hP, hD⟩, hS.F ht⟩) hS.2.2 dX2_told_63
        · by_cases hs_212 : x = 4
          · refine lv_tableIn (off := 58) (tgt := 64) hx hb dX2_told_6 (by rw [hs_212]; decide) (by rw [hs_212]; decide) (by rw [hs_212]; rfl) (by decide) ?_
            refine lv_aload_n hx hb dX2_told_64 rfl (lv_at hl 0 rfl) ?_
            refine va_get (D := (dC, dI)) (ci := 2) (v := .int t4) (C := RX2) (T := TX2) (N := 16) hx hb hts iwX2_told hown hK hP 0 rfl rfl 13 (by decide) (hts (.fieldLink RX2 61 "MainframeDeskModel" "refused" "I") (by decide +kernel)) (fun _ h9 => h9) rfl dX2_told_65 ?_
            exact W.iret (v := t4) hx hb hr (fun t ht hW => ⟨⟨_, ((n, kd, ok, cn, rc, rs, an, fl, t0, t1, t2, t3, t4, t5), 0, wy), rfl, ⟨(by unfold mTold; dsimp only; rw [if_neg hs_208, if_neg hs_209, if_neg hs_210, if_neg hs_211, if_pos hs_212]), rfl⟩, by rw [ht]; exact hP, hD⟩, hS.F ht⟩) hS.2.2 dX2_told_68
          · by_cases hs_213 : x = 5
            · refine lv_tableIn (off := 63) (tgt := 69) hx hb dX2_told_6 (by rw [hs_213]; decide) (by rw [hs_213]; decide) (by rw [hs_213]; rfl) (by decide) ?_
              refine lv_aload_n hx hb dX2_told_69 rfl (lv_at hl 0 rfl) ?_
              refine va_get (D := (dC, dI)) (ci := 2) (v := .int t5) (C := RX2) (T := TX2) (N := 16) hx hb hts iwX2_told hown hK hP 0 rfl rfl 14 (by decide) (hts (.fieldLink RX2 64 "MainframeDeskModel" "done" "I") (by decide +kernel)) (fun _ h9 => h9) rfl dX2_told_70 ?_
              exact W.iret (v := t5) hx hb hr (fun t ht hW => ⟨⟨_, ((n, kd, ok, cn, rc, rs, an, fl, t0, t1, t2, t3, t4, t5), 0, wy), rfl, ⟨(by unfold mTold; dsimp only; rw [if_neg hs_208, if_neg hs_209, if_neg hs_210, if_neg hs_211, if_neg hs_212, if_pos hs_213]), rfl⟩, by rw [ht]; exact hP, hD⟩, hS.F ht⟩) hS.2.2 dX2_told_73
            · have q0 : ¬ x.toInt = 0 := lv_neT hs_208 (by decide)
              have q1 : ¬ x.toInt = 1 := lv_neT hs_209 (by decide)
              have q2 : ¬ x.toInt = 2 := lv_neT hs_210 (by decide)
              have q3 : ¬ x.toInt = 3 := lv_neT hs_211 (by decide)
              have q4 : ¬ x.toInt = 4 := lv_neT hs_212 (by decide)
              have q5 : ¬ x.toInt = 5 := lv_neT hs_213 (by decide)
              refine lv_tableOut (tgt := 74) hx hb dX2_told_6 (by omega) (by decide) ?_
              refine lv_iconst (v := (-1)) hx hb dX2_told_74 (by decide) ?_
              exact W.iret (v := (-1)) hx hb hr (fun t ht hW => ⟨⟨_, ((n, kd, ok, cn, rc, rs, an, fl, t0, t1, t2, t3, t4, t5), 0, wy), rfl, ⟨(by unfold mTold; dsimp only; rw [if_neg hs_208, if_neg hs_209, if_neg hs_210, if_neg hs_211, if_neg hs_212, if_neg hs_213]), rfl⟩, by rw [ht]; exact hP, hD⟩, hS.F ht⟩) hS.2.2 dX2_told_75
theorem iwX2_drop : ∀ w ∈ wsX20, w ∈ wsX2_drop := fun _ h => List.mem_cons_of_mem _ (List.mem_append_right _ h)
set_option maxHeartbeats 1000000 in
set_option maxRecDepth 100000 in
/-- drop(x) -/
theorem r_drop (l : Launch) (dC : Nat → ClassId) (dI : Nat → Nat → Nat) (h qs qm qa qf qk qt qd : Nat) (cs cm ca cf ck ct cd : ClassId) (n : Nat) (kd ok cn rc : Nat → Int32) (rs an : Nat → Int64) (fl : Nat → Int32) (t0 t1 t2 t3 t4 t5 th wy : Int32) (hn : n ≤ 200) (sz : Nat) (x : Int32) : Met l yX2_drop wsX2_drop ({ frames := 0, cells := 0, slots := 0, locals := 0 }) (va_Pc [.ref h, .int x] (rQ dC dI [(cs, .long), (cm, .int), (ca, .long), (cf, .int), (ck, .int), (ct, .boolean), (cd, .long)] (rW h qs qm qa qf qk qt qd cs cm ca cf ck ct cd n kd ok cn rc rs an fl t0 t1 t2 t3 t4 t5 th wy) sz)) (va_Qi (fun (r : Int32) (u : dM × Int32 × Int32) => (r, u.1) = mDrop (n, kd, ok, cn, rc, rs, an, fl, t0, t1, t2, t3, t4, t5) x) (fun u t => dAt dC dI (rWm h qs qm qa qf qk qt qd cs cm ca cf ck ct cd u) (va_A (rW h qs qm qa qf qk qt qd cs cm ca cf ck ct cd n kd ok cn rc rs an fl t0 t1 t2 t3 t4 t5 th wy) sz) t) (va_A (rW h qs qm qa qf qk qt qd cs cm ca cf ck ct cd n kd ok cn rc rs an fl t0 t1 t2 t3 t4 t5 th wy) sz)) 0 0 (va_A (rW h qs qm qa qf qk qt qd cs cm ca cf ck ct cd n kd ok cn rc rs an fl t0 t1 t2 t3 t4 t5 th wy) sz) := by
  refine Met.ofW (cc := cX2_drop) (maxL := 2) (ret := (some .boolean)) (by decide) rfl ?_
  intro p e s m args below meth c s₁ B hml hv
  obtain ⟨rfl, hsz, hP, hK, hD0⟩ := hv
  have hx := B.exec
  have hb := B.bytes
  have hr := B.returns
  have hts := atoms_spec (ws := wsX2_drop) B.pre
  have hown : s.vm.findClass RX2 = some m.cls := findClass_of_methodNamed B.named
  have hlocks := B.notSynchronized
  subst hsz
  have hD := hD0.self (sz := s.heap.size)
  generalize hAe : va_A (rW h qs qm qa qf qk qt qd cs cm ca cf ck ct cd n kd ok cn rc rs an fl t0 t1 t2 t3 t4 t5 th wy) s.heap.size = A at hD ⊢
  have hA : ∀ q : Nat, s.heap.size ≤ q → A q := fun q h => by rw [← hAe]; exact Or.inr h
  have hS : va_S A s.heap s.heap [] := va_S.rf
  have hl := lv_entry ([.ref h, .int x]) (n := 2) (Nat.le_of_ble_eq_true rfl)
  rw [lg_entry_eq]
  generalize (lg_sl ([.ref h, .int x]) ++ List.replicate (2 - (lg_sl ([.ref h, .int x])).length) Slot.unset).toArray = ls at hl ⊢
  have hl : lv_has ls 2 [(0, .ref h), (1, .int x)] := hl
  refine lv_aload_n hx hb dX2_drop_0 rfl (lv_at hl 0 rfl) ?_
  refine lv_iconst (v := 0) hx hb dX2_drop_1 (by decide) ?_
  refine va_put (D := (dC, dI)) (ci := 2) (v := .int 0) (ty := .int) (C := RX2) (T := TX2) (N := 16) hx hb hts iwX2_drop tyX2 tyX2_ok nmX2 hown hK hP hD hS 0 rfl rfl 8 (by decide) (hts (.fieldLink RX2 33 "MainframeDeskModel" "thrown" "I") (by decide +kernel)) (fun _ h9 => h9) rfl (by decide +kernel) rfl rfl (Nat.le_of_ble_eq_true rfl) dX2_drop_2 (fun H locs hP hD hS => ?_)
  have hP : va_P (dC, dI) vwCl (rW h qs qm qa qf qk qt qd cs cm ca cf ck ct cd n kd ok cn rc rs an fl t0 t1 t2 t3 t4 t5 0 wy) H := hP
  have hD : va_D A (rW h qs qm qa qf qk qt qd cs cm ca cf ck ct cd n kd ok cn rc rs an fl t0 t1 t2 t3 t4 t5 0 wy) := hD
  refine lv_iload_n hx hb dX2_drop_5 rfl (lv_at hl 1 rfl) ?_
  refine lv_iconst (v := 1) hx hb dX2_drop_6 (by decide) ?_
  refine lv_icmp_lt (tgt := 29) hx hb dX2_drop_7 (by decide) (fun c_214 => ?_) (fun c_214 => ?_)
  · refine lv_iconst (v := 0) hx hb dX2_drop_29 (by decide) ?_
    exact W.zret (v := 0) hx hb hr rfl (fun t ht hW => ⟨⟨_, ((n, kd, ok, cn, rc, rs, an, fl, t0, t1, t2, t3, t4, t5), 0, wy), rfl, (by exact (if_neg (fun q => Int32.not_le.mpr c_214 q.1.1)).symm), by rw [ht]; exact hP, hD⟩, hS.F ht⟩) hS.2.2 dX2_drop_30
  · refine lv_iload_n hx hb dX2_drop_10 rfl (lv_at hl 1 rfl) ?_
    refine lv_aload_n hx hb dX2_drop_11 rfl (lv_at hl 0 rfl) ?_
    refine va_get (D := (dC, dI)) (ci := 2) (v := .int (nI n)) (C := RX2) (T := TX2) (N := 16) hx hb hts iwX2_drop hown hK hP 0 rfl rfl 7 (by decide) (hts (.fieldLink RX2 41 "MainframeDeskModel" "made" "I") (by decide +kernel)) (fun _ h9 => h9) rfl dX2_drop_12 ?_
    refine lv_icmp_gt (tgt := 29) hx hb dX2_drop_15 (by decide) (fun c_215 => ?_) (fun c_215 => ?_)
    · refine lv_iconst (v := 0) hx hb dX2_drop_29 (by decide) ?_
      exact W.zret (v := 0) hx hb hr rfl (fun t ht hW => ⟨⟨_, ((n, kd, ok, cn, rc, rs, an, fl, t0, t1, t2, t3, t4, t5), 0, wy), rfl, (by exact (if_neg (fun q => Int32.not_le.mpr c_215 q.1.2)).symm), by rw [ht]; exact hP, hD⟩, hS.F ht⟩) hS.2.2 dX2_drop_30
    · have hxx : 1 ≤ x ∧ x ≤ nI n := ⟨Int32.not_lt.mp c_214, Int32.not_lt.mp c_215⟩
      refine lv_aload_n hx hb dX2_drop_18 rfl (lv_at hl 0 rfl) ?_
      refine va_get (D := (dC, dI)) (ci := 2) (v := .ref qt) (C := RX2) (T := TX2) (N := 16) hx hb hts iwX2_drop hown hK hP 0 rfl rfl 5 (by decide) (hts (.fieldLink RX2 26 "MainframeDeskModel" "there" "[Z") (by decide +kernel)) (fun _ h9 => h9) rfl dX2_drop_19 ?_
      refine lv_iload_n hx hb dX2_drop_22 rfl (lv_at hl 1 rfl) ?_
      refine lv_iconst (v := 1) hx hb dX2_drop_23 (by decide) ?_
      refine lv_isub hx hb dX2_drop_24 ?_
      refine va_zald hx hb hK hP 6 5 rfl rfl (kx_ix2 hn hxx) dX2_drop_25 ?_
      refine lv_topi (fun v_216 ev_216 => ?_)
      replace ev_216 : v_216 = ok (mIx x) := ev_216
      refine lv_if_ne (tgt := 31) hx hb dX2_drop_26 (by decide) (fun c_217 => ?_) (fun c_217 => ?_)
      · refine lv_aload_n hx hb dX2_drop_31 rfl (lv_at hl 0 rfl) ?_
        refine va_get (D := (dC, dI)) (ci := 2) (v := .ref qt) (C := RX2) (T := TX2) (N := 16) hx hb hts iwX2_drop hown hK hP 0 rfl rfl 5 (by decide) (hts (.fieldLink RX2 26 "MainframeDeskModel" "there" "[Z") (by decide +kernel)) (fun _ h9 => h9) rfl dX2_drop_32 ?_
        refine lv_iload_n hx hb dX2_drop_35 rfl (lv_at hl 1 rfl) ?_
        refine lv_iconst (v := 1) hx hb dX2_drop_36 (by decide) ?_
        refine lv_isub hx hb dX2_drop_37 ?_
        refine lv_iconst (v := 0) hx hb dX2_drop_38 (by decide) ?_
        refine va_zast hx hb hK hP hD hS 6 5 rfl rfl (kx_ix2 hn hxx) dX2_drop_39 (fun H locs hP hD hS => ?_)
        rw [kx_nb0] at hP hD
        have hP : va_P (dC, dI) vwCl (rW h qs qm qa qf qk qt qd cs cm ca cf ck ct cd n kd (upd ok (mIx x) 0) cn rc rs an fl t0 t1 t2 t3 t4 t5 0 wy) H := hP
        have hD : va_D A (rW h qs qm qa qf qk qt qd cs cm ca cf ck ct cd n kd (upd ok (mIx x) 0) cn rc rs an fl t0 t1 t2 t3 t4 t5 0 wy) := hD
        refine lv_iconst (v := 1) hx hb dX2_drop_40 (by decide) ?_
        exact W.zret (v := 1) hx hb hr rfl (fun t ht hW => ⟨⟨_, ((n, kd, upd ok (mIx x) 0, cn, rc, rs, an, fl, t0, t1, t2, t3, t4, t5), 0, wy), rfl, (by subst ev_216; exact (if_pos ⟨hxx, c_217⟩).symm), by rw [ht]; exact hP, hD⟩, hS.F ht⟩) hS.2.2 dX2_drop_41
      · refine lv_iconst (v := 0) hx hb dX2_drop_29 (by decide) ?_
        exact W.zret (v := 0) hx hb hr rfl (fun t ht hW => ⟨⟨_, ((n, kd, ok, cn, rc, rs, an, fl, t0, t1, t2, t3, t4, t5), 0, wy), rfl, (by subst ev_216; exact (if_neg (fun q => q.2 c_217)).symm), by rw [ht]; exact hP, hD⟩, hS.F ht⟩) hS.2.2 dX2_drop_30
