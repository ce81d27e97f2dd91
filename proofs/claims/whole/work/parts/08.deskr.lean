theorem kx_refc {rc : Nat → Int32} {k o c : Int32} {a : Int64} (h : mRef rc k o c a = 0) : 0 ≤ c ∧ c < 32 := by
  by_cases hc : (0 ≤ c ∧ c < 32) ∧ k = mW8 c
  · exact hc.1
  · unfold mRef at h
    rw [if_neg hc] at h
    exact absurd h (by decide)
set_option maxHeartbeats 1000000 in
set_option maxRecDepth 100000 in
/-- isWithin(i, k): whether 0 ≤ i < k -/
theorem c_isWithin (l : Launch) (i k : Int32) : Met l yX1_isWithin wsX1_isWithin ({ frames := 0, cells := 0, slots := 0, locals := 0 }) (va_Pc [.int i, .int k] (fun _ => True)) (vp_Si (fun r => ((0 ≤ i ∧ i < k) ∧ r = 1) ∨ (¬ (0 ≤ i ∧ i < k) ∧ r = 0))) 0 0 (fun _ => False) := by
  refine Met.ofW (cc := cX1_isWithin) (maxL := 2) (ret := (some .boolean)) (by decide) rfl ?_
  intro p e s m args below meth c s₁ B hml hv
  obtain ⟨rfl, -⟩ := hv
  have hx := B.exec
  have hb := B.bytes
  have hr := B.returns
  have hts := atoms_spec (ws := wsX1_isWithin) B.pre
  have hown : s.vm.findClass RX1 = some m.cls := findClass_of_methodNamed B.named
  have hlocks := B.notSynchronized
  have hl := lv_entry ([.int i, .int k]) (n := 2) (Nat.le_of_ble_eq_true rfl)
  rw [lg_entry_eq]
  generalize (lg_sl ([.int i, .int k]) ++ List.replicate (2 - (lg_sl ([.int i, .int k])).length) Slot.unset).toArray = ls at hl ⊢
  have hl : lv_has ls 2 [(0, .int i), (1, .int k)] := hl
  refine lv_iload_n hx hb dX1_isWithin_0 rfl (lv_at hl 0 rfl) ?_
  refine lv_if_lt (tgt := 13) hx hb dX1_isWithin_1 (by decide) (fun c_1 => ?_) (fun c_1 => ?_)
  · refine lv_iconst (v := 0) hx hb dX1_isWithin_13 (by decide) ?_
    exact W.zret (v := 0) hx hb hr rfl (fun t ht hW => ⟨_, rfl, Or.inr ⟨fun q => Int32.not_le.mpr c_1 q.1, rfl⟩, ht⟩) (fun _ h => absurd h List.not_mem_nil) dX1_isWithin_14
  · refine lv_iload_n hx hb dX1_isWithin_4 rfl (lv_at hl 0 rfl) ?_
    refine lv_iload_n hx hb dX1_isWithin_5 rfl (lv_at hl 1 rfl) ?_
    refine lv_icmp_ge (tgt := 13) hx hb dX1_isWithin_6 (by decide) (fun c_2 => ?_) (fun c_2 => ?_)
    · refine lv_iconst (v := 0) hx hb dX1_isWithin_13 (by decide) ?_
      exact W.zret (v := 0) hx hb hr rfl (fun t ht hW => ⟨_, rfl, Or.inr ⟨fun q => Int32.not_lt.mpr c_2 q.2, rfl⟩, ht⟩) (fun _ h => absurd h List.not_mem_nil) dX1_isWithin_14
    · refine lv_iconst (v := 1) hx hb dX1_isWithin_9 (by decide) ?_
      refine lv_goto (tgt := 14) hx hb dX1_isWithin_10 (by decide) ?_
      exact W.zret (v := 1) hx hb hr rfl (fun t ht hW => ⟨_, rfl, Or.inl ⟨⟨Int32.not_lt.mp c_1, Int32.not_le.mp c_2⟩, rfl⟩, ht⟩) (fun _ h => absurd h List.not_mem_nil) dX1_isWithin_14
set_option maxHeartbeats 1000000 in
set_option maxRecDepth 100000 in
/-- hasRow(c): whether 8 ≤ c -/
theorem c_hasRow (l : Launch) (cz : Int32) : Met l yX1_hasRow wsX1_hasRow ({ frames := 0, cells := 0, slots := 0, locals := 0 }) (va_Pc [.int cz] (fun _ => True)) (vp_Si (fun r => (8 ≤ cz ∧ r = 1) ∨ (¬ 8 ≤ cz ∧ r = 0))) 0 0 (fun _ => False) := by
  refine Met.ofW (cc := cX1_hasRow) (maxL := 1) (ret := (some .boolean)) (by decide) rfl ?_
  intro p e s m args below meth c s₁ B hml hv
  obtain ⟨rfl, -⟩ := hv
  have hx := B.exec
  have hb := B.bytes
  have hr := B.returns
  have hts := atoms_spec (ws := wsX1_hasRow) B.pre
  have hown : s.vm.findClass RX1 = some m.cls := findClass_of_methodNamed B.named
  have hlocks := B.notSynchronized
  have hl := lv_entry ([.int cz]) (n := 1) (Nat.le_of_ble_eq_true rfl)
  rw [lg_entry_eq]
  generalize (lg_sl ([.int cz]) ++ List.replicate (1 - (lg_sl ([.int cz])).length) Slot.unset).toArray = ls at hl ⊢
  have hl : lv_has ls 1 [(0, .int cz)] := hl
  refine lv_iload_n hx hb dX1_hasRow_0 rfl (lv_at hl 0 rfl) ?_
  refine lv_bipush (v := 8) hx hb dX1_hasRow_1 (by decide) ?_
  refine lv_icmp_lt (tgt := 10) hx hb dX1_hasRow_3 (by decide) (fun c_3 => ?_) (fun c_3 => ?_)
  · refine lv_iconst (v := 0) hx hb dX1_hasRow_10 (by decide) ?_
    exact W.zret (v := 0) hx hb hr rfl (fun t ht hW => ⟨_, rfl, Or.inr ⟨Int32.not_le.mpr c_3, rfl⟩, ht⟩) (fun _ h => absurd h List.not_mem_nil) dX1_hasRow_11
  · refine lv_iconst (v := 1) hx hb dX1_hasRow_6 (by decide) ?_
    refine lv_goto (tgt := 11) hx hb dX1_hasRow_7 (by decide) ?_
    exact W.zret (v := 1) hx hb hr rfl (fun t ht hW => ⟨_, rfl, Or.inl ⟨Int32.not_lt.mp c_3, rfl⟩, ht⟩) (fun _ h => absurd h List.not_mem_nil) dX1_hasRow_11
set_option maxHeartbeats 1000000 in
set_option maxRecDepth 100000 in
/-- rowOf(c): c modulo 4 -/
theorem c_rowOf (l : Launch) (cz : Int32) : Met l yX1_rowOf wsX1_rowOf ({ frames := 0, cells := 0, slots := 0, locals := 0 }) (va_Pc [.int cz] (fun _ => True)) (vp_Si (fun r => r = mW4 cz)) 0 0 (fun _ => False) := by
  refine Met.ofW (cc := cX1_rowOf) (maxL := 1) (ret := (some .int)) (by decide) rfl ?_
  intro p e s m args below meth c s₁ B hml hv
  obtain ⟨rfl, -⟩ := hv
  have hx := B.exec
  have hb := B.bytes
  have hr := B.returns
  have hts := atoms_spec (ws := wsX1_rowOf) B.pre
  have hown : s.vm.findClass RX1 = some m.cls := findClass_of_methodNamed B.named
  have hlocks := B.notSynchronized
  have hl := lv_entry ([.int cz]) (n := 1) (Nat.le_of_ble_eq_true rfl)
  rw [lg_entry_eq]
  generalize (lg_sl ([.int cz]) ++ List.replicate (1 - (lg_sl ([.int cz])).length) Slot.unset).toArray = ls at hl ⊢
  have hl : lv_has ls 1 [(0, .int cz)] := hl
  refine lv_iload_n hx hb dX1_rowOf_0 rfl (lv_at hl 0 rfl) ?_
  refine lv_iconst (v := 4) hx hb dX1_rowOf_1 (by decide) ?_
  refine lv_irem hx hb dX1_rowOf_2 (by decide) ?_
  refine lv_topi (fun z_4 ez_4 => ?_)
  exact W.iret (v := z_4) hx hb hr (fun t ht hW => ⟨_, rfl, ez_4, ht⟩) (fun _ h => absurd h List.not_mem_nil) dX1_rowOf_3
theorem iwX1_find_1 : ∀ w ∈ wsX10, w ∈ wsX1_find := fun _ h => List.mem_cons_of_mem _ (List.mem_append_right _ h)
set_option maxHeartbeats 1000000 in
set_option maxRecDepth 100000 in
/-- find(x): the thing with the number x, or null -/
theorem c_find (l : Launch) (dC : Nat → ClassId) (dI : Nat → Nat → Nat) (h qT qC qS qA qF : Nat) (cT cC cS cA cF : ClassId) (ad : Nat → Nat) (n : Nat) (kd ok cn rc : Nat → Int32) (rs an : Nat → Int64) (fl : Nat → Int32) (t0 t1 t2 t3 t4 t5 : Int32) (hn : n ≤ 200) (x : Int32) : Met l yX1_find wsX1_find ({ frames := 0, cells := 0, slots := 0, locals := 0 }) (va_Pc [.ref h, .int x] (dP dC dI [(cT, .object "MainframeDesk$Thing"), (cC, .int), (cS, .long), (cA, .long), (cF, .int)] (dW h qT qC qS qA qF cT cC cS cA cF ad n kd ok cn rc rs an fl t0 t1 t2 t3 t4 t5))) (va_Sq (fun r => ((1 ≤ x ∧ x ≤ nI n) ∧ r = some (ad (mIx x))) ∨ (¬ (1 ≤ x ∧ x ≤ nI n) ∧ r = none))) 0 0 (fun _ => False) := by
  refine Met.ofW (cc := cX1_find) (maxL := 2) (ret := (some (.object "MainframeDesk$Thing"))) (by decide) rfl ?_
  intro p e s m args below meth c s₁ B hml hv
  obtain ⟨rfl, hP, hK, hN⟩ := hv
  have hx := B.exec
  have hb := B.bytes
  have hr := B.returns
  have hts := atoms_spec (ws := wsX1_find) B.pre
  have hown : s.vm.findClass RX1 = some m.cls := findClass_of_methodNamed B.named
  have hlocks := B.notSynchronized
  have hl := lv_entry ([.ref h, .int x]) (n := 2) (Nat.le_of_ble_eq_true rfl)
  rw [lg_entry_eq]
  generalize (lg_sl ([.ref h, .int x]) ++ List.replicate (2 - (lg_sl ([.ref h, .int x])).length) Slot.unset).toArray = ls at hl ⊢
  have hl : lv_has ls 2 [(0, .ref h), (1, .int x)] := hl
  refine lv_iload_n hx hb dX1_find_0 rfl (lv_at hl 1 rfl) ?_
  refine lv_iconst (v := 1) hx hb dX1_find_1 (by decide) ?_
  refine lv_icmp_lt (tgt := 24) hx hb dX1_find_2 (by decide) (fun c_5 => ?_) (fun c_5 => ?_)
  · refine lv_null hx hb dX1_find_24 ?_
    exact W.aret (v := .null) hx hb hr (Or.inl ⟨_, rfl⟩) (Or.inl rfl) (fun t ht hW => ⟨none, rfl, Or.inr ⟨fun q => Int32.not_le.mpr c_5 q.1, rfl⟩, ht⟩) (fun _ h => absurd h List.not_mem_nil) dX1_find_25
  · refine lv_iload_n hx hb dX1_find_5 rfl (lv_at hl 1 rfl) ?_
    refine lv_aload_n hx hb dX1_find_6 rfl (lv_at hl 0 rfl) ?_
    refine va_get (D := (dC, dI)) (ci := 1) (v := .int (nI n)) (C := RX1) (T := TX1) (N := 12) hx hb hts iwX1_find_1 hown hK hP 0 rfl rfl 1 (by decide) (hts (.fieldLink RX1 15 "MainframeDesk" "made" "I") (by decide +kernel)) (fun _ h9 => h9) rfl dX1_find_7 ?_
    refine lv_icmp_gt (tgt := 24) hx hb dX1_find_10 (by decide) (fun c_6 => ?_) (fun c_6 => ?_)
    · refine lv_null hx hb dX1_find_24 ?_
      exact W.aret (v := .null) hx hb hr (Or.inl ⟨_, rfl⟩) (Or.inl rfl) (fun t ht hW => ⟨none, rfl, Or.inr ⟨fun q => Int32.not_le.mpr c_6 q.2, rfl⟩, ht⟩) (fun _ h => absurd h List.not_mem_nil) dX1_find_25
    · refine lv_aload_n hx hb dX1_find_13 rfl (lv_at hl 0 rfl) ?_
      refine va_get (D := (dC, dI)) (ci := 1) (v := .ref qT) (C := RX1) (T := TX1) (N := 12) hx hb hts iwX1_find_1 hown hK hP 0 rfl rfl 0 (by decide) (hts (.fieldLink RX1 11 "MainframeDesk" "things" "[LMainframeDesk$Thing;") (by decide +kernel)) (fun _ h9 => h9) rfl dX1_find_14 ?_
      refine lv_iload_n hx hb dX1_find_17 rfl (lv_at hl 1 rfl) ?_
      refine lv_iconst (v := 1) hx hb dX1_find_18 (by decide) ?_
      refine lv_isub hx hb dX1_find_19 ?_
      refine lv_topi (fun z_7 ez_7 => ?_)
      have hxx : 1 ≤ x ∧ x ≤ nI n := ⟨Int32.not_lt.mp c_5, Int32.not_lt.mp c_6⟩
      obtain ⟨hj, hj1, -⟩ := kx_ix hn hxx
      have hz9 : vp_in z_7 200 := by rw [ez_7, hj1]; exact vp_in_nI (by omega) (by omega)
      have hr9 : dTh n ad z_7.toNatClampNeg = some (ad (mIx x)) := by rw [ez_7, hj1, nI_clamp (by omega)]; exact if_pos hj
      refine va_aldq hx hb hK hP 1 0 rfl rfl hz9 dX1_find_20 ?_
      refine lv_goto (tgt := 25) hx hb dX1_find_21 (by decide) ?_
      exact W.aret (v := va_rf (dTh n ad z_7.toNatClampNeg)) hx hb hr (Or.inl ⟨_, rfl⟩) (va_rf_or _) (fun t ht hW => ⟨_, rfl, Or.inl ⟨hxx, hr9⟩, ht⟩) (fun _ h => absurd h List.not_mem_nil) dX1_find_25
theorem iwX1_refusalOf_0 : ∀ w ∈ wsX00, w ∈ wsX1_refusalOf := fun _ h => List.mem_cons_of_mem _ (List.mem_append_left _ (List.mem_append_right _ h))
theorem iwX1_refusalOf_1 : ∀ w ∈ wsX10, w ∈ wsX1_refusalOf := fun _ h => List.mem_cons_of_mem _ (List.mem_append_right _ h)
set_option maxHeartbeats 1000000 in
set_option maxRecDepth 100000 in
/-- refusalOf of no thing: -2 -/
theorem c_refusalN (l : Launch) (dC : Nat → ClassId) (dI : Nat → Nat → Nat) (h qT qC qS qA qF : Nat) (cT cC cS cA cF : ClassId) (ad : Nat → Nat) (n : Nat) (kd ok cn rc : Nat → Int32) (rs an : Nat → Int64) (fl : Nat → Int32) (t0 t1 t2 t3 t4 t5 : Int32) (cz : Int32) (a : Int64) : Met l yX1_refusalOf wsX1_refusalOf ({ frames := 1, cells := 0, slots := 0, locals := 21 }) (va_Pc [.ref h, .int cz, .null, .long a] (dP dC dI [(cT, .object "MainframeDesk$Thing"), (cC, .int), (cS, .long), (cA, .long), (cF, .int)] (dW h qT qC qS qA qF cT cC cS cA cF ad n kd ok cn rc rs an fl t0 t1 t2 t3 t4 t5))) (vp_Si (fun r => r = -2)) 0 0 (fun _ => False) := by
  refine Met.ofW (cc := cX1_refusalOf) (maxL := 6) (ret := (some .int)) (by decide) rfl ?_
  intro p e s m args below meth c s₁ B hml hv
  obtain ⟨rfl, hP, hK, hN⟩ := hv
  have hx := B.exec
  have hb := B.bytes
  have hr := B.returns
  have hts := atoms_spec (ws := wsX1_refusalOf) B.pre
  have hown : s.vm.findClass RX1 = some m.cls := findClass_of_methodNamed B.named
  have hlocks := B.notSynchronized
  have hl := lv_entry ([.ref h, .int cz, .null, .long a]) (n := 6) (Nat.le_of_ble_eq_true rfl)
  rw [lg_entry_eq]
  generalize (lg_sl ([.ref h, .int cz, .null, .long a]) ++ List.replicate (6 - (lg_sl ([.ref h, .int cz, .null, .long a])).length) Slot.unset).toArray = ls at hl ⊢
  have hl : lv_has ls 6 [(0, .ref h), (1, .int cz), (2, .null), (3, .long a)] := hl
  refine lv_iload_n hx hb dX1_refusalOf_0 rfl (lv_at hl 1 rfl) ?_
  refine lv_bipush (v := 32) hx hb dX1_refusalOf_1 (by decide) ?_
  refine vp_callSi (W.runS (As := [.int cz, .int 32]) (rest := []) ⟨hx, hb, hml, hown, hts⟩ (c_isWithin l cz 32) (va_cwS 2 hts gX1_refusalOf_X1_isWithin rfl rfl rfl (by decide +kernel) ⟨Nat.le_of_ble_eq_true rfl, Nat.le_of_ble_eq_true rfl⟩) ⟨fun _ _ _ _ q => q, fun _ _ _ => ⟨rfl, trivial⟩⟩ rfl rfl hl.1 rfl (lv_room (Nat.le_of_ble_eq_true rfl)) dX1_refusalOf_3 ⟨Nat.le_of_ble_eq_true rfl, Nat.le_of_ble_eq_true rfl⟩) (fun r9 hr9 => ?_)
  rcases hr9 with ⟨hq_8, rfl⟩ | ⟨hq_8, rfl⟩
  · refine lv_if_eq (tgt := 24) hx hb dX1_refusalOf_6 (by decide) (fun h => absurd h (by decide)) (fun _ => ?_)
    refine lv_aload_nN hx hb dX1_refusalOf_9 rfl (lv_at hl 2 rfl) ?_
    refine lv_ifnullN (tgt := 24) hx hb dX1_refusalOf_10 (by decide) ?_
    refine lv_bipush (v := (-2)) hx hb dX1_refusalOf_24 (by decide) ?_
    exact W.iret (v := (-2)) hx hb hr (fun t ht hW => ⟨_, rfl, rfl, ht⟩) (fun _ h => absurd h List.not_mem_nil) dX1_refusalOf_26
  · refine lv_if_eq (tgt := 24) hx hb dX1_refusalOf_6 (by decide) (fun _ => ?_) (fun h => absurd h (by decide))
    refine lv_bipush (v := (-2)) hx hb dX1_refusalOf_24 (by decide) ?_
    exact W.iret (v := (-2)) hx hb hr (fun t ht hW => ⟨_, rfl, rfl, ht⟩) (fun _ h => absurd h List.not_mem_nil) dX1_refusalOf_26
set_option maxHeartbeats 1000000 in
set_option maxRecDepth 100000 in
/-- refusalOf of the thing j -/
theorem c_refusalOf (l : Launch) (dC : Nat → ClassId) (dI : Nat → Nat → Nat) (h qT qC qS qA qF : Nat) (cT cC cS cA cF : ClassId) (ad : Nat → Nat) (n : Nat) (kd ok cn rc : Nat → Int32) (rs an : Nat → Int64) (fl : Nat → Int32) (t0 t1 t2 t3 t4 t5 : Int32) (j : Nat) (hj : j < n) (cz : Int32) (a : Int64) : Met l yX1_refusalOf wsX1_refusalOf ({ frames := 1, cells := 0, slots := 0, locals := 21 }) (va_Pc [.ref h, .int cz, .ref (ad j), .long a] (dP dC dI [(cT, .object "MainframeDesk$Thing"), (cC, .int), (cS, .long), (cA, .long), (cF, .int)] (dW h qT qC qS qA qF cT cC cS cA cF ad n kd ok cn rc rs an fl t0 t1 t2 t3 t4 t5))) (vp_Si (fun r => r = mRef rc (kd j) (ok j) cz a)) 0 0 (fun _ => False) := by
  refine Met.ofW (cc := cX1_refusalOf) (maxL := 6) (ret := (some .int)) (by decide) rfl ?_
  intro p e s m args below meth c s₁ B hml hv
  obtain ⟨rfl, hP, hK, hN⟩ := hv
  have hx := B.exec
  have hb := B.bytes
  have hr := B.returns
  have hts := atoms_spec (ws := wsX1_refusalOf) B.pre
  have hown : s.vm.findClass RX1 = some m.cls := findClass_of_methodNamed B.named
  have hlocks := B.notSynchronized
  have hl := lv_entry ([.ref h, .int cz, .ref (ad j), .long a]) (n := 6) (Nat.le_of_ble_eq_true rfl)
  rw [lg_entry_eq]
  generalize (lg_sl ([.ref h, .int cz, .ref (ad j), .long a]) ++ List.replicate (6 - (lg_sl ([.ref h, .int cz, .ref (ad j), .long a])).length) Slot.unset).toArray = ls at hl ⊢
  have hl : lv_has ls 6 [(0, .ref h), (1, .int cz), (2, .ref (ad j)), (3, .long a)] := hl
  refine lv_iload_n hx hb dX1_refusalOf_0 rfl (lv_at hl 1 rfl) ?_
  refine lv_bipush (v := 32) hx hb dX1_refusalOf_1 (by decide) ?_
  refine vp_callSi (W.runS (As := [.int cz, .int 32]) (rest := []) ⟨hx, hb, hml, hown, hts⟩ (c_isWithin l cz 32) (va_cwS 2 hts gX1_refusalOf_X1_isWithin rfl rfl rfl (by decide +kernel) ⟨Nat.le_of_ble_eq_true rfl, Nat.le_of_ble_eq_true rfl⟩) ⟨fun _ _ _ _ q => q, fun _ _ _ => ⟨rfl, trivial⟩⟩ rfl rfl hl.1 rfl (lv_room (Nat.le_of_ble_eq_true rfl)) dX1_refusalOf_3 ⟨Nat.le_of_ble_eq_true rfl, Nat.le_of_ble_eq_true rfl⟩) (fun r9 hr9 => ?_)
  rcases hr9 with ⟨hq_11, rfl⟩ | ⟨hq_11, rfl⟩
  · refine lv_if_eq (tgt := 24) hx hb dX1_refusalOf_6 (by decide) (fun h => absurd h (by decide)) (fun _ => ?_)
    refine lv_aload_n hx hb dX1_refusalOf_9 rfl (lv_at hl 2 rfl) ?_
    refine lv_ifnull hx hb dX1_refusalOf_10 ?_
    refine lv_aload_n hx hb dX1_refusalOf_13 rfl (lv_at hl 2 rfl) ?_
    refine va_getN (D := (dC, dI)) (ci := 0) (v := .int (kd j)) (C := RX0) (T := TX0) (N := 3) hx hb hts iwX1_refusalOf_0 hown hK hP (6 + j) (dW_at hj) rfl 0 (by decide) (dNw_fkind hN) (fun _ h9 => h9) rfl dX1_refusalOf_14 ?_
    refine lv_iload_n hx hb dX1_refusalOf_17 rfl (lv_at hl 1 rfl) ?_
    refine lv_bipush (v := 8) hx hb dX1_refusalOf_18 (by decide) ?_
    refine lv_irem hx hb dX1_refusalOf_20 (by decide) ?_
    refine lv_topi (fun z_13 ez_13 => ?_)
    refine lv_icmp_eq (tgt := 27) hx hb dX1_refusalOf_21 (by decide) (fun c_14 => ?_) (fun c_14 => ?_)
    · refine lv_lload_n hx hb dX1_refusalOf_27 rfl (lv_at hl 3 rfl) ?_
      refine lv_lconst (v := 0) hx hb dX1_refusalOf_28 (by decide) ?_
      refine W.lcmp hx hb dX1_refusalOf_29 ?_
      refine lv_if_lt (tgt := 41) hx hb dX1_refusalOf_30 (by decide) (fun c_15 => ?_) (fun c_15 => ?_)
      · refine lv_bipush (v := (-4)) hx hb dX1_refusalOf_41 (by decide) ?_
        subst ez_13
        exact W.iret (v := (-4)) hx hb hr (fun t ht hW => ⟨_, rfl, (by unfold mRef; rw [if_pos ⟨hq_11, c_14⟩, if_neg (fun q => Int64.not_le.mpr ((lg_cmp_lt _ _).mp c_15) q.1)]), ht⟩) (fun _ h => absurd h List.not_mem_nil) dX1_refusalOf_43
      · refine lv_lload_n hx hb dX1_refusalOf_33 rfl (lv_at hl 3 rfl) ?_
        refine lv_ldc2 (v := 1000000) hx hb hown (hts (.constantLong RX1 87 1000000) (by decide +kernel)) dX1_refusalOf_34 ?_
        refine W.lcmp hx hb dX1_refusalOf_37 ?_
        refine lv_if_le (tgt := 44) hx hb dX1_refusalOf_38 (by decide) (fun c_16 => ?_) (fun c_16 => ?_)
        · refine lv_iload_n hx hb dX1_refusalOf_44 rfl (lv_at hl 1 rfl) ?_
          refine lv_bipush (v := 24) hx hb dX1_refusalOf_45 (by decide) ?_
          refine lv_icmp_lt (tgt := 66) hx hb dX1_refusalOf_47 (by decide) (fun c_17 => ?_) (fun c_17 => ?_)
          · refine lv_iconst (v := 0) hx hb dX1_refusalOf_66 (by decide) ?_
            refine lv_istore (lv' := [(5, .int 0), (0, .ref h), (1, .int cz), (2, .ref (ad j)), (3, .long a)]) hx hb dX1_refusalOf_67 hl (by decide) rfl (fun ls hl => ?_)
            refine lv_aload_n hx hb dX1_refusalOf_69 rfl (lv_at hl 3 rfl) ?_
            refine va_getN (D := (dC, dI)) (ci := 0) (v := .int (ok j)) (C := RX0) (T := TX0) (N := 3) hx hb hts iwX1_refusalOf_0 hown hK hP (6 + j) (dW_at hj) rfl 1 (by decide) (dNw_fthere hN) (fun _ h9 => h9) rfl dX1_refusalOf_70 ?_
            refine lv_if_eq (tgt := 81) hx hb dX1_refusalOf_73 (by decide) (fun c_18 => ?_) (fun c_18 => ?_)
            · refine lv_bipush (v := (-5)) hx hb dX1_refusalOf_81 (by decide) ?_
              refine lv_goto (tgt := 87) hx hb dX1_refusalOf_83 (by decide) ?_
              subst ez_13
              exact W.iret (v := (-5)) hx hb hr (fun t ht hW => ⟨_, rfl, (by unfold mRef; rw [if_pos ⟨hq_11, c_14⟩, if_pos ⟨Int64.not_lt.mp (fun q => c_15 ((lg_cmp_lt _ _).mpr q)), (lg_cmp_le _ _).mp c_16⟩, if_pos (Or.inl c_18)]), ht⟩) (fun _ h => absurd h List.not_mem_nil) dX1_refusalOf_87
            · refine lv_iload hx hb dX1_refusalOf_76 (lv_at hl 0 rfl) ?_
              refine lv_if_eq (tgt := 86) hx hb dX1_refusalOf_78 (by decide) (fun _ => ?_) (fun h => absurd h (by decide))
              refine lv_iconst (v := 0) hx hb dX1_refusalOf_86 (by decide) ?_
              subst ez_13
              exact W.iret (v := 0) hx hb hr (fun t ht hW => ⟨_, rfl, (by unfold mRef; rw [if_pos ⟨hq_11, c_14⟩, if_pos ⟨Int64.not_lt.mp (fun q => c_15 ((lg_cmp_lt _ _).mpr q)), (lg_cmp_le _ _).mp c_16⟩, if_neg (fun q => q.elim c_18 (fun w9 => Int32.not_le.mpr c_17 w9.1))]), ht⟩) (fun _ h => absurd h List.not_mem_nil) dX1_refusalOf_87
          · refine lv_aload_n hx hb dX1_refusalOf_50 rfl (lv_at hl 0 rfl) ?_
            refine va_get (D := (dC, dI)) (ci := 1) (v := .ref qC) (C := RX1) (T := TX1) (N := 12) hx hb hts iwX1_refusalOf_1 hown hK hP 0 rfl rfl 2 (by decide) (hts (.fieldLink RX1 19 "MainframeDesk" "rowCounts" "[I") (by decide +kernel)) (fun _ h9 => h9) rfl dX1_refusalOf_51 ?_
            refine lv_iload_n hx hb dX1_refusalOf_54 rfl (lv_at hl 1 rfl) ?_
            refine vp_callSi (W.runS (As := [.int cz]) (rest := [.ref qC]) ⟨hx, hb, hml, hown, hts⟩ (c_rowOf l cz) (va_cwS 1 hts gX1_refusalOf_X1_rowOf rfl rfl rfl (by decide +kernel) ⟨Nat.le_of_ble_eq_true rfl, Nat.le_of_ble_eq_true rfl⟩) ⟨fun _ _ _ _ q => q, fun _ _ _ => ⟨rfl, trivial⟩⟩ rfl rfl hl.1 rfl (lv_room (Nat.le_of_ble_eq_true rfl)) dX1_refusalOf_55 ⟨Nat.le_of_ble_eq_true rfl, Nat.le_of_ble_eq_true rfl⟩) (fun r9 hr9 => ?_)
            subst hr9
            refine va_iald hx hb hK hP 2 1 rfl rfl (kx_w4 hq_11) dX1_refusalOf_58 ?_
            refine lv_topi (fun v_20 ev_20 => ?_)
            refine lv_if_ne (tgt := 66) hx hb dX1_refusalOf_59 (by decide) (fun c_21 => ?_) (fun c_21 => ?_)
            · refine lv_iconst (v := 0) hx hb dX1_refusalOf_66 (by decide) ?_
              refine lv_istore (lv' := [(5, .int 0), (0, .ref h), (1, .int cz), (2, .ref (ad j)), (3, .long a)]) hx hb dX1_refusalOf_67 hl (by decide) rfl (fun ls hl => ?_)
              refine lv_aload_n hx hb dX1_refusalOf_69 rfl (lv_at hl 3 rfl) ?_
              refine va_getN (D := (dC, dI)) (ci := 0) (v := .int (ok j)) (C := RX0) (T := TX0) (N := 3) hx hb hts iwX1_refusalOf_0 hown hK hP (6 + j) (dW_at hj) rfl 1 (by decide) (dNw_fthere hN) (fun _ h9 => h9) rfl dX1_refusalOf_70 ?_
              refine lv_if_eq (tgt := 81) hx hb dX1_refusalOf_73 (by decide) (fun c_22 => ?_) (fun c_22 => ?_)
              · refine lv_bipush (v := (-5)) hx hb dX1_refusalOf_81 (by decide) ?_
                refine lv_goto (tgt := 87) hx hb dX1_refusalOf_83 (by decide) ?_
                subst ez_13
                subst ev_20
                exact W.iret (v := (-5)) hx hb hr (fun t ht hW => ⟨_, rfl, (by unfold mRef; rw [if_pos ⟨hq_11, c_14⟩, if_pos ⟨Int64.not_lt.mp (fun q => c_15 ((lg_cmp_lt _ _).mpr q)), (lg_cmp_le _ _).mp c_16⟩, if_pos (Or.inl c_22)]), ht⟩) (fun _ h => absurd h List.not_mem_nil) dX1_refusalOf_87
              · refine lv_iload hx hb dX1_refusalOf_76 (lv_at hl 0 rfl) ?_
                refine lv_if_eq (tgt := 86) hx hb dX1_refusalOf_78 (by decide) (fun _ => ?_) (fun h => absurd h (by decide))
                refine lv_iconst (v := 0) hx hb dX1_refusalOf_86 (by decide) ?_
                subst ez_13
                subst ev_20
                exact W.iret (v := 0) hx hb hr (fun t ht hW => ⟨_, rfl, (by unfold mRef; rw [if_pos ⟨hq_11, c_14⟩, if_pos ⟨Int64.not_lt.mp (fun q => c_15 ((lg_cmp_lt _ _).mpr q)), (lg_cmp_le _ _).mp c_16⟩, if_neg (fun q => q.elim c_22 (fun w9 => c_21 w9.2))]), ht⟩) (fun _ h => absurd h List.not_mem_nil) dX1_refusalOf_87
            · refine lv_iconst (v := 1) hx hb dX1_refusalOf_62 (by decide) ?_
              refine lv_goto (tgt := 67) hx hb dX1_refusalOf_63 (by decide) ?_
              refine lv_istore (lv' := [(5, .int 1), (0, .ref h), (1, .int cz), (2, .ref (ad j)), (3, .long a)]) hx hb dX1_refusalOf_67 hl (by decide) rfl (fun ls hl => ?_)
              refine lv_aload_n hx hb dX1_refusalOf_69 rfl (lv_at hl 3 rfl) ?_
              refine va_getN (D := (dC, dI)) (ci := 0) (v := .int (ok j)) (C := RX0) (T := TX0) (N := 3) hx hb hts iwX1_refusalOf_0 hown hK hP (6 + j) (dW_at hj) rfl 1 (by decide) (dNw_fthere hN) (fun _ h9 => h9) rfl dX1_refusalOf_70 ?_
              refine lv_if_eq (tgt := 81) hx hb dX1_refusalOf_73 (by decide) (fun c_24 => ?_) (fun c_24 => ?_)
              · refine lv_bipush (v := (-5)) hx hb dX1_refusalOf_81 (by decide) ?_
                refine lv_goto (tgt := 87) hx hb dX1_refusalOf_83 (by decide) ?_
                subst ez_13
                subst ev_20
                exact W.iret (v := (-5)) hx hb hr (fun t ht hW => ⟨_, rfl, (by unfold mRef; rw [if_pos ⟨hq_11, c_14⟩, if_pos ⟨Int64.not_lt.mp (fun q => c_15 ((lg_cmp_lt _ _).mpr q)), (lg_cmp_le _ _).mp c_16⟩, if_pos (Or.inl c_24)]), ht⟩) (fun _ h => absurd h List.not_mem_nil) dX1_refusalOf_87
              · refine lv_iload hx hb dX1_refusalOf_76 (lv_at hl 0 rfl) ?_
                refine lv_if_eq (tgt := 86) hx hb dX1_refusalOf_78 (by decide) (fun h => absurd h (by decide)) (fun _ => ?_)
                refine lv_bipush (v := (-5)) hx hb dX1_refusalOf_81 (by decide) ?_
                refine lv_goto (tgt := 87) hx hb dX1_refusalOf_83 (by decide) ?_
                subst ez_13
                subst ev_20
                exact W.iret (v := (-5)) hx hb hr (fun t ht hW => ⟨_, rfl, (by unfold mRef; rw [if_pos ⟨hq_11, c_14⟩, if_pos ⟨Int64.not_lt.mp (fun q => c_15 ((lg_cmp_lt _ _).mpr q)), (lg_cmp_le _ _).mp c_16⟩, if_pos (Or.inr ⟨Int32.not_lt.mp c_17, c_21⟩)]), ht⟩) (fun _ h => absurd h List.not_mem_nil) dX1_refusalOf_87
        · refine lv_bipush (v := (-4)) hx hb dX1_refusalOf_41 (by decide) ?_
          subst ez_13
          exact W.iret (v := (-4)) hx hb hr (fun t ht hW => ⟨_, rfl, (by unfold mRef; rw [if_pos ⟨hq_11, c_14⟩, if_neg (fun q => c_16 ((lg_cmp_le _ _).mpr q.2))]), ht⟩) (fun _ h => absurd h List.not_mem_nil) dX1_refusalOf_43
    · refine lv_bipush (v := (-2)) hx hb dX1_refusalOf_24 (by decide) ?_
      subst ez_13
      exact W.iret (v := (-2)) hx hb hr (fun t ht hW => ⟨_, rfl, (by unfold mRef; rw [if_neg (fun q => c_14 q.2)]), ht⟩) (fun _ h => absurd h List.not_mem_nil) dX1_refusalOf_26
  · refine lv_if_eq (tgt := 24) hx hb dX1_refusalOf_6 (by decide) (fun _ => ?_) (fun h => absurd h (by decide))
    refine lv_bipush (v := (-2)) hx hb dX1_refusalOf_24 (by decide) ?_
    exact W.iret (v := (-2)) hx hb hr (fun t ht hW => ⟨_, rfl, (by unfold mRef; rw [if_neg (fun q => hq_11 q.1)]), ht⟩) (fun _ h => absurd h List.not_mem_nil) dX1_refusalOf_26
theorem iwX1_outcomeOf_1 : ∀ w ∈ wsX10, w ∈ wsX1_outcomeOf := fun _ h => List.mem_cons_of_mem _ (List.mem_append_left _ (List.mem_append_right _ h))
theorem iwX1_outcomeOf_0 : ∀ w ∈ wsX00, w ∈ wsX1_outcomeOf := fun _ h => List.mem_cons_of_mem _ (List.mem_append_right _ h)
set_option maxHeartbeats 1000000 in
set_option maxRecDepth 100000 in
/-- outcomeOf of the thing j -/
theorem c_outcomeOf (l : Launch) (dC : Nat → ClassId) (dI : Nat → Nat → Nat) (h qT qC qS qA qF : Nat) (cT cC cS cA cF : ClassId) (ad : Nat → Nat) (n : Nat) (kd ok cn rc : Nat → Int32) (rs an : Nat → Int64) (fl : Nat → Int32) (t0 t1 t2 t3 t4 t5 : Int32) (j : Nat) (hj : j < n) (cz : Int32) (a : Int64) (hc : 0 ≤ cz ∧ cz < 32) : Met l yX1_outcomeOf wsX1_outcomeOf ({ frames := 1, cells := 0, slots := 0, locals := 20 }) (va_Pc [.ref h, .int cz, .ref (ad j), .long a] (dP dC dI [(cT, .object "MainframeDesk$Thing"), (cC, .int), (cS, .long), (cA, .long), (cF, .int)] (dW h qT qC qS qA qF cT cC cS cA cF ad n kd ok cn rc rs an fl t0 t1 t2 t3 t4 t5))) (vp_Sl (fun r => r = mOut rs an fl (kd j) (cn j) cz a)) 0 0 (fun _ => False) := by
  refine Met.ofW (cc := cX1_outcomeOf) (maxL := 7) (ret := (some .long)) (by decide) rfl ?_
  intro p e s m args below meth c s₁ B hml hv
  obtain ⟨rfl, hP, hK, hN⟩ := hv
  have hx := B.exec
  have hb := B.bytes
  have hr := B.returns
  have hts := atoms_spec (ws := wsX1_outcomeOf) B.pre
  have hown : s.vm.findClass RX1 = some m.cls := findClass_of_methodNamed B.named
  have hlocks := B.notSynchronized
  have hl := lv_entry ([.ref h, .int cz, .ref (ad j), .long a]) (n := 7) (Nat.le_of_ble_eq_true rfl)
  rw [lg_entry_eq]
  generalize (lg_sl ([.ref h, .int cz, .ref (ad j), .long a]) ++ List.replicate (7 - (lg_sl ([.ref h, .int cz, .ref (ad j), .long a])).length) Slot.unset).toArray = ls at hl ⊢
  have hl : lv_has ls 7 [(0, .ref h), (1, .int cz), (2, .ref (ad j)), (3, .long a)] := hl
  refine lv_aload_n hx hb dX1_outcomeOf_0 rfl (lv_at hl 0 rfl) ?_
  refine va_get (D := (dC, dI)) (ci := 1) (v := .ref qF) (C := RX1) (T := TX1) (N := 12) hx hb hts iwX1_outcomeOf_1 hown hK hP 0 rfl rfl 5 (by decide) (hts (.fieldLink RX1 30 "MainframeDesk" "failures" "[I") (by decide +kernel)) (fun _ h9 => h9) rfl dX1_outcomeOf_1 ?_
  refine lv_iload_n hx hb dX1_outcomeOf_4 rfl (lv_at hl 1 rfl) ?_
  refine va_iald hx hb hK hP 5 4 rfl rfl (kx_in hc (by decide)) dX1_outcomeOf_5 ?_
  refine lv_topi (fun v_27 ev_27 => ?_)
  refine lv_if_eq (tgt := 20) hx hb dX1_outcomeOf_6 (by decide) (fun c_28 => ?_) (fun c_28 => ?_)
  · refine lv_aload_n hx hb dX1_outcomeOf_20 rfl (lv_at hl 0 rfl) ?_
    refine va_get (D := (dC, dI)) (ci := 1) (v := .ref qA) (C := RX1) (T := TX1) (N := 12) hx hb hts iwX1_outcomeOf_1 hown hK hP 0 rfl rfl 4 (by decide) (hts (.fieldLink RX1 27 "MainframeDesk" "answers" "[J") (by decide +kernel)) (fun _ h9 => h9) rfl dX1_outcomeOf_21 ?_
    refine lv_iload_n hx hb dX1_outcomeOf_24 rfl (lv_at hl 1 rfl) ?_
    refine va_lald hx hb hK hP 4 3 rfl rfl (kx_in hc (by decide)) dX1_outcomeOf_25 ?_
    refine lv_topl (fun v_29 ev_29 => ?_)
    refine lv_lload_n hx hb dX1_outcomeOf_26 rfl (lv_at hl 3 rfl) ?_
    refine lv_ladd hx hb dX1_outcomeOf_27 ?_
    refine lv_topl (fun z_30 ez_30 => ?_)
    refine lv_lstore (lv' := [(5, .long z_30), (0, .ref h), (1, .int cz), (2, .ref (ad j)), (3, .long a)]) hx hb dX1_outcomeOf_28 hl (by decide) rfl (fun ls hl => ?_)
    refine lv_iload_n hx hb dX1_outcomeOf_30 rfl (lv_at hl 2 rfl) ?_
    refine vp_callSi (W.runS (As := [.int cz]) (rest := []) ⟨hx, hb, hml, hown, hts⟩ (c_hasRow l cz) (va_cwS 1 hts gX1_outcomeOf_X1_hasRow rfl rfl rfl (by decide +kernel) ⟨Nat.le_of_ble_eq_true rfl, Nat.le_of_ble_eq_true rfl⟩) ⟨fun _ _ _ _ q => q, fun _ _ _ => ⟨rfl, trivial⟩⟩ rfl rfl hl.1 rfl (lv_room (Nat.le_of_ble_eq_true rfl)) dX1_outcomeOf_31 ⟨Nat.le_of_ble_eq_true rfl, Nat.le_of_ble_eq_true rfl⟩) (fun r9 hr9 => ?_)
    rcases hr9 with ⟨h8_31, rfl⟩ | ⟨h8_31, rfl⟩
    · refine lv_if_eq (tgt := 51) hx hb dX1_outcomeOf_34 (by decide) (fun h => absurd h (by decide)) (fun _ => ?_)
      refine lv_lload hx hb dX1_outcomeOf_37 (lv_at hl 0 rfl) ?_
      refine lv_aload_n hx hb dX1_outcomeOf_39 rfl (lv_at hl 1 rfl) ?_
      refine va_get (D := (dC, dI)) (ci := 1) (v := .ref qS) (C := RX1) (T := TX1) (N := 12) hx hb hts iwX1_outcomeOf_1 hown hK hP 0 rfl rfl 3 (by decide) (hts (.fieldLink RX1 23 "MainframeDesk" "rowSums" "[J") (by decide +kernel)) (fun _ h9 => h9) rfl dX1_outcomeOf_40 ?_
      refine lv_iload_n hx hb dX1_outcomeOf_43 rfl (lv_at hl 2 rfl) ?_
      refine vp_callSi (W.runS (As := [.int cz]) (rest := [.ref qS, .long z_30]) ⟨hx, hb, hml, hown, hts⟩ (c_rowOf l cz) (va_cwS 1 hts gX1_outcomeOf_X1_rowOf rfl rfl rfl (by decide +kernel) ⟨Nat.le_of_ble_eq_true rfl, Nat.le_of_ble_eq_true rfl⟩) ⟨fun _ _ _ _ q => q, fun _ _ _ => ⟨rfl, trivial⟩⟩ rfl rfl hl.1 rfl (lv_room (Nat.le_of_ble_eq_true rfl)) dX1_outcomeOf_44 ⟨Nat.le_of_ble_eq_true rfl, Nat.le_of_ble_eq_true rfl⟩) (fun r9 hr9 => ?_)
      subst hr9
      refine va_lald hx hb hK hP 3 2 rfl rfl (kx_w4 hc) dX1_outcomeOf_47 ?_
      refine lv_topl (fun v_33 ev_33 => ?_)
      refine lv_ladd hx hb dX1_outcomeOf_48 ?_
      refine lv_topl (fun z_34 ez_34 => ?_)
      refine lv_lstore (lv' := [(5, .long z_34), (0, .ref h), (1, .int cz), (2, .ref (ad j)), (3, .long a)]) hx hb dX1_outcomeOf_49 hl (by decide) rfl (fun ls hl => ?_)
      refine lv_aload_n hx hb dX1_outcomeOf_51 rfl (lv_at hl 3 rfl) ?_
      refine va_getN (D := (dC, dI)) (ci := 0) (v := .int (kd j)) (C := RX0) (T := TX0) (N := 3) hx hb hts iwX1_outcomeOf_0 hown hK hP (6 + j) (dW_at hj) rfl 0 (by decide) (dNw_fkind hN) (fun _ h9 => h9) rfl dX1_outcomeOf_52 ?_
      refine lv_iconst (v := 3) hx hb dX1_outcomeOf_55 (by decide) ?_
      refine lv_icmp_ne (tgt := 69) hx hb dX1_outcomeOf_56 (by decide) (fun c_35 => ?_) (fun c_35 => ?_)
      · refine lv_lload hx hb dX1_outcomeOf_69 (lv_at hl 0 rfl) ?_
        subst ev_27
        subst ev_29
        subst ez_30
        subst ev_33
        subst ez_34
        exact W.lret (v := _) hx hb hr (fun t ht hW => ⟨_, rfl, (by unfold mOut; rw [if_pos c_28, if_neg c_35, if_pos h8_31]), ht⟩) (fun _ h => absurd h List.not_mem_nil) dX1_outcomeOf_71
      · refine lv_lload hx hb dX1_outcomeOf_59 (lv_at hl 0 rfl) ?_
        refine lv_aload_n hx hb dX1_outcomeOf_61 rfl (lv_at hl 3 rfl) ?_
        refine va_getN (D := (dC, dI)) (ci := 0) (v := .int (cn j)) (C := RX0) (T := TX0) (N := 3) hx hb hts iwX1_outcomeOf_0 hown hK hP (6 + j) (dW_at hj) rfl 2 (by decide) (dNw_fanswered hN) (fun _ h9 => h9) rfl dX1_outcomeOf_62 ?_
        refine lv_i2l (v := (cn j).toInt64) hx hb dX1_outcomeOf_65 rfl ?_
        refine lv_ladd hx hb dX1_outcomeOf_66 ?_
        refine lv_topl (fun z_36 ez_36 => ?_)
        refine lv_lstore (lv' := [(5, .long z_36), (0, .ref h), (1, .int cz), (2, .ref (ad j)), (3, .long a)]) hx hb dX1_outcomeOf_67 hl (by decide) rfl (fun ls hl => ?_)
        refine lv_lload hx hb dX1_outcomeOf_69 (lv_at hl 0 rfl) ?_
        subst ev_27
        subst ev_29
        subst ez_30
        subst ev_33
        subst ez_34
        subst ez_36
        exact W.lret (v := _) hx hb hr (fun t ht hW => ⟨_, rfl, (by unfold mOut; rw [if_pos c_28, if_pos c_35, if_pos h8_31]), ht⟩) (fun _ h => absurd h List.not_mem_nil) dX1_outcomeOf_71
    · refine lv_if_eq (tgt := 51) hx hb dX1_outcomeOf_34 (by decide) (fun _ => ?_) (fun h => absurd h (by decide))
      refine lv_aload_n hx hb dX1_outcomeOf_51 rfl (lv_at hl 3 rfl) ?_
      refine va_getN (D := (dC, dI)) (ci := 0) (v := .int (kd j)) (C := RX0) (T := TX0) (N := 3) hx hb hts iwX1_outcomeOf_0 hown hK hP (6 + j) (dW_at hj) rfl 0 (by decide) (dNw_fkind hN) (fun _ h9 => h9) rfl dX1_outcomeOf_52 ?_
      refine lv_iconst (v := 3) hx hb dX1_outcomeOf_55 (by decide) ?_
      refine lv_icmp_ne (tgt := 69) hx hb dX1_outcomeOf_56 (by decide) (fun c_38 => ?_) (fun c_38 => ?_)
      · refine lv_lload hx hb dX1_outcomeOf_69 (lv_at hl 0 rfl) ?_
        subst ev_27
        subst ev_29
        subst ez_30
        exact W.lret (v := _) hx hb hr (fun t ht hW => ⟨_, rfl, (by unfold mOut; rw [if_pos c_28, if_neg c_38, if_neg h8_31]), ht⟩) (fun _ h => absurd h List.not_mem_nil) dX1_outcomeOf_71
      · refine lv_lload hx hb dX1_outcomeOf_59 (lv_at hl 0 rfl) ?_
        refine lv_aload_n hx hb dX1_outcomeOf_61 rfl (lv_at hl 3 rfl) ?_
        refine va_getN (D := (dC, dI)) (ci := 0) (v := .int (cn j)) (C := RX0) (T := TX0) (N := 3) hx hb hts iwX1_outcomeOf_0 hown hK hP (6 + j) (dW_at hj) rfl 2 (by decide) (dNw_fanswered hN) (fun _ h9 => h9) rfl dX1_outcomeOf_62 ?_
        refine lv_i2l (v := (cn j).toInt64) hx hb dX1_outcomeOf_65 rfl ?_
        refine lv_ladd hx hb dX1_outcomeOf_66 ?_
        refine lv_topl (fun z_39 ez_39 => ?_)
        refine lv_lstore (lv' := [(5, .long z_39), (0, .ref h), (1, .int cz), (2, .ref (ad j)), (3, .long a)]) hx hb dX1_outcomeOf_67 hl (by decide) rfl (fun ls hl => ?_)
        refine lv_lload hx hb dX1_outcomeOf_69 (lv_at hl 0 rfl) ?_
        subst ev_27
        subst ev_29
        subst ez_30
        subst ez_39
        exact W.lret (v := _) hx hb hr (fun t ht hW => ⟨_, rfl, (by unfold mOut; rw [if_pos c_28, if_pos c_38, if_neg h8_31]), ht⟩) (fun _ h => absurd h List.not_mem_nil) dX1_outcomeOf_71
  · refine lv_bipush (v := (-10)) hx hb dX1_outcomeOf_9 (by decide) ?_
    refine lv_aload_n hx hb dX1_outcomeOf_11 rfl (lv_at hl 0 rfl) ?_
    refine va_get (D := (dC, dI)) (ci := 1) (v := .ref qF) (C := RX1) (T := TX1) (N := 12) hx hb hts iwX1_outcomeOf_1 hown hK hP 0 rfl rfl 5 (by decide) (hts (.fieldLink RX1 30 "MainframeDesk" "failures" "[I") (by decide +kernel)) (fun _ h9 => h9) rfl dX1_outcomeOf_12 ?_
    refine lv_iload_n hx hb dX1_outcomeOf_15 rfl (lv_at hl 1 rfl) ?_
    refine va_iald hx hb hK hP 5 4 rfl rfl (kx_in hc (by decide)) dX1_outcomeOf_16 ?_
    refine lv_topi (fun v_40 ev_40 => ?_)
    refine lv_isub hx hb dX1_outcomeOf_17 ?_
    refine lv_topi (fun z_41 ez_41 => ?_)
    refine lv_i2l (v := z_41.toInt64) hx hb dX1_outcomeOf_18 rfl ?_
    subst ev_27
    subst ev_40
    subst ez_41
    exact W.lret (v := _) hx hb hr (fun t ht hW => ⟨_, rfl, (by unfold mOut; rw [if_neg c_28]), ht⟩) (fun _ h => absurd h List.not_mem_nil) dX1_outcomeOf_19
