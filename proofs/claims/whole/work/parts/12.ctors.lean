theorem iwX0_init : ∀ w ∈ wsX00, w ∈ wsX0_init := fun _ h => List.mem_cons_of_mem _ (List.mem_append_right _ h)
set_option maxHeartbeats 1000000 in
set_option maxRecDepth 100000 in
/-- Thing(k) -/
theorem c_thing (l : Launch) (dC : Nat → ClassId) (dI : Nat → Nat → Nat) (h sz : Nat) (k : Int32) : Met l yX0_init wsX0_init ({ frames := 1, cells := 0, slots := 0, locals := 12 }) (va_Pc [.ref h, .int k] (fun U => U.heap.size = sz ∧ va_P (dC, dI) vwCl [(h, .inr (0, [.int 0, .int 0, .int 0]))] U.heap ∧ va_K (dC, dI) vwCl [] U ∧ va_D (fun _ => True) [(h, .inr (0, [.int 0, .int 0, .int 0]))])) (va_Qv (fun (_ : Unit) => True) (fun _ t => va_P (dC, dI) vwCl [(h, .inr (0, [.int k, .int 1, .int 0]))] t.heap ∧ va_D (va_A [(h, .inr (0, [.int 0, .int 0, .int 0]))] sz) [(h, .inr (0, [.int k, .int 1, .int 0]))]) (va_A [(h, .inr (0, [.int 0, .int 0, .int 0]))] sz)) 0 0 (va_A [(h, .inr (0, [.int 0, .int 0, .int 0]))] sz) := by
  refine Met.ofW (cc := cX0_init) (maxL := 2) (ret := none) (by decide) rfl ?_
  intro p e s m args below meth c s₁ B hml hv
  obtain ⟨rfl, hsz, hP, hK, hD0⟩ := hv
  have hx := B.exec
  have hb := B.bytes
  have hr := B.returns
  have hts := atoms_spec (ws := wsX0_init) B.pre
  have hown : s.vm.findClass RX0 = some m.cls := findClass_of_methodNamed B.named
  have hlocks := B.notSynchronized
  have hin : meth.name = "<init>" := (name_of_methodNamed B.named B.method).1
  subst hsz
  have hD := hD0.self (sz := s.heap.size)
  generalize hAe : va_A ([(h, .inr (0, [.int 0, .int 0, .int 0]))]) s.heap.size = A at hD ⊢
  have hA : ∀ q : Nat, s.heap.size ≤ q → A q := fun q h => by rw [← hAe]; exact Or.inr h
  have hS : va_S A s.heap s.heap [] := va_S.rf
  have hl := lv_entry ([.ref h, .int k]) (n := 2) (Nat.le_of_ble_eq_true rfl)
  rw [lg_entry_eq]
  generalize (lg_sl ([.ref h, .int k]) ++ List.replicate (2 - (lg_sl ([.ref h, .int k])).length) Slot.unset).toArray = ls at hl ⊢
  have hl : lv_has ls 2 [(0, .ref h), (1, .int k)] := hl
  refine lv_aload_n hx hb dX0_init_0 rfl (lv_at hl 0 rfl) ?_
  refine W.objInit hx hb hown (hts (.methodLink RX0 1 objectInit) (by decide +kernel)) (hts (.instanceMethod objectInit) (by decide +kernel)) (hts _ (List.mem_cons_of_mem _ (List.mem_append_left _ (List.mem_of_getElem? (i := 2) rfl)))) rfl (by rw [hml]; exact hl.1) rfl dX0_init_1 (Nat.le_of_ble_eq_true rfl) (Nat.le_of_ble_eq_true rfl) ?_
  refine W.eq (g2 := F0 m 4 ls []) rfl ?_
  refine lv_aload_n hx hb dX0_init_4 rfl (lv_at hl 0 rfl) ?_
  refine lv_iconst (v := 1) hx hb dX0_init_5 (by decide) ?_
  refine va_put (D := (dC, dI)) (ci := 0) (v := .int 1) (ty := .boolean) (C := RX0) (T := TX0) (N := 3) hx hb hts iwX0_init tyX0 tyX0_ok nmX0 hown hK hP hD hS 0 rfl rfl 1 (by decide) (hts (.fieldLink RX0 7 "MainframeDesk$Thing" "there" "Z") (by decide +kernel)) (fun _ h9 => h9) rfl (by decide +kernel) rfl rfl (Nat.le_of_ble_eq_true rfl) dX0_init_6 (fun H locs hP hD hS => ?_)
  have hP : va_P (dC, dI) vwCl [(h, .inr (0, [.int 0, .int 1, .int 0]))] H := hP
  have hD : va_D A [(h, .inr (0, [.int 0, .int 1, .int 0]))] := hD
  refine lv_aload_n hx hb dX0_init_9 rfl (lv_at hl 0 rfl) ?_
  refine lv_iconst (v := 0) hx hb dX0_init_10 (by decide) ?_
  refine va_put (D := (dC, dI)) (ci := 0) (v := .int 0) (ty := .int) (C := RX0) (T := TX0) (N := 3) hx hb hts iwX0_init tyX0 tyX0_ok nmX0 hown hK hP hD hS 0 rfl rfl 2 (by decide) (hts (.fieldLink RX0 13 "MainframeDesk$Thing" "answered" "I") (by decide +kernel)) (fun _ h9 => h9) rfl (by decide +kernel) rfl rfl (Nat.le_of_ble_eq_true rfl) dX0_init_11 (fun H locs hP hD hS => ?_)
  have hP : va_P (dC, dI) vwCl [(h, .inr (0, [.int 0, .int 1, .int 0]))] H := hP
  have hD : va_D A [(h, .inr (0, [.int 0, .int 1, .int 0]))] := hD
  refine lv_aload_n hx hb dX0_init_14 rfl (lv_at hl 0 rfl) ?_
  refine lv_iload_n hx hb dX0_init_15 rfl (lv_at hl 1 rfl) ?_
  refine va_putF (D := (dC, dI)) (ci := 0) (v := .int k) (ty := .int) (C := RX0) (T := TX0) (N := 3) hx hb hts iwX0_init tyX0 tyX0_ok nmX0 hown hK hP hD hS 0 rfl rfl 0 (by decide) (hts (.fieldLink RX0 17 "MainframeDesk$Thing" "kind" "I") (by decide +kernel)) (fun _ h9 => h9) rfl hin rfl (by decide +kernel) rfl rfl (Nat.le_of_ble_eq_true rfl) dX0_init_16 (fun H locs hP hD hS => ?_)
  have hP : va_P (dC, dI) vwCl [(h, .inr (0, [.int k, .int 1, .int 0]))] H := hP
  have hD : va_D A [(h, .inr (0, [.int k, .int 1, .int 0]))] := hD
  exact W.vret hx hb hr (fun t ht hW => ⟨⟨(), rfl, trivial, by rw [ht]; exact hP, hD⟩, hS.F ht⟩) hS.2.2 dX0_init_19
theorem dTh_0 (ad : Nat → Nat) : dTh 0 ad = fun _ => none := by
  funext i
  exact if_neg (Nat.not_lt_zero i)
theorem iwX1_init : ∀ w ∈ wsX10, w ∈ wsX1_init := fun _ h => List.mem_cons_of_mem _ (List.mem_append_right _ h)
set_option maxHeartbeats 1000000 in
set_option maxRecDepth 100000 in
/-- MainframeDesk() -/
theorem c_deskInit (l : Launch) (dC : Nat → ClassId) (dI : Nat → Nat → Nat) (h sz : Nat) : Met l yX1_init wsX1_init ({ frames := 1, cells := 5, slots := 272, locals := 12 }) (va_Pc [.ref h] (fun U => U.heap.size = sz ∧ va_P (dC, dI) vwCl [(h, .inr (1, [.null, .int 0, .null, .null, .null, .null, .int 0, .int 0, .int 0, .int 0, .int 0, .int 0]))] U.heap ∧ va_K (dC, dI) vwCl [] U ∧ va_D (fun _ => True) [(h, .inr (1, [.null, .int 0, .null, .null, .null, .null, .int 0, .int 0, .int 0, .int 0, .int 0, .int 0]))] ∧ va_AO "MainframeDesk$Thing" U)) (va_Qv (fun (_ : Unit) => True) (fun _ t => ∃ (qT qC qS qA qF : Nat) (cT cC cS cA cF : ClassId), va_P (dC, dI) vwCl (dW h qT qC qS qA qF cT cC cS cA cF (fun _ => 0) 0 (fun _ => 0) (fun _ => 0) (fun _ => 0) (fun _ => 0) (fun _ => 0) (fun _ => 0) (fun _ => 0) 0 0 0 0 0 0) t.heap ∧ va_K (dC, dI) vwCl [(cT, .object "MainframeDesk$Thing"), (cC, .int), (cS, .long), (cA, .long), (cF, .int)] t ∧ va_D (va_A [(h, .inr (1, [.null, .int 0, .null, .null, .null, .null, .int 0, .int 0, .int 0, .int 0, .int 0, .int 0]))] sz) (dW h qT qC qS qA qF cT cC cS cA cF (fun _ => 0) 0 (fun _ => 0) (fun _ => 0) (fun _ => 0) (fun _ => 0) (fun _ => 0) (fun _ => 0) (fun _ => 0) 0 0 0 0 0 0)) (va_A [(h, .inr (1, [.null, .int 0, .null, .null, .null, .null, .int 0, .int 0, .int 0, .int 0, .int 0, .int 0]))] sz)) 5 272 (va_A [(h, .inr (1, [.null, .int 0, .null, .null, .null, .null, .int 0, .int 0, .int 0, .int 0, .int 0, .int 0]))] sz) := by
  refine Met.ofW (cc := cX1_init) (maxL := 1) (ret := none) (by decide) rfl ?_
  intro p e s m args below meth c s₁ B hml hv
  obtain ⟨rfl, hsz, hP, hK, hD0, hAO⟩ := hv
  have hx := B.exec
  have hb := B.bytes
  have hr := B.returns
  have hts := atoms_spec (ws := wsX1_init) B.pre
  have hown : s.vm.findClass RX1 = some m.cls := findClass_of_methodNamed B.named
  have hlocks := B.notSynchronized
  have hin : meth.name = "<init>" := (name_of_methodNamed B.named B.method).1
  subst hsz
  have hD := hD0.self (sz := s.heap.size)
  generalize hAe : va_A ([(h, .inr (1, [.null, .int 0, .null, .null, .null, .null, .int 0, .int 0, .int 0, .int 0, .int 0, .int 0]))]) s.heap.size = A at hD ⊢
  have hA : ∀ q : Nat, s.heap.size ≤ q → A q := fun q h => by rw [← hAe]; exact Or.inr h
  have hS : va_S A s.heap s.heap [] := va_S.rf
  have hl := lv_entry ([.ref h]) (n := 1) (Nat.le_of_ble_eq_true rfl)
  rw [lg_entry_eq]
  generalize (lg_sl ([.ref h]) ++ List.replicate (1 - (lg_sl ([.ref h])).length) Slot.unset).toArray = ls at hl ⊢
  have hl : lv_has ls 1 [(0, .ref h)] := hl
  refine lv_aload_n hx hb dX1_init_0 rfl (lv_at hl 0 rfl) ?_
  refine W.objInit hx hb hown (hts (.methodLink RX1 1 objectInit) (by decide +kernel)) (hts (.instanceMethod objectInit) (by decide +kernel)) (hts _ (List.mem_cons_of_mem _ (List.mem_append_left _ (List.mem_of_getElem? (i := 2) rfl)))) rfl (by rw [hml]; exact hl.1) rfl dX1_init_1 (Nat.le_of_ble_eq_true rfl) (Nat.le_of_ble_eq_true rfl) ?_
  refine W.eq (g2 := F0 m 4 ls []) rfl ?_
  refine lv_aload_n hx hb dX1_init_4 rfl (lv_at hl 0 rfl) ?_
  refine lv_sipush (v := 200) hx hb dX1_init_5 (by decide) ?_
  refine va_newq (n := 200) (N' := 200) hx hb hown (hts (.classLink RX1 9 RX0) (by decide +kernel)) hAO hK hP hD hS hA (by decide) (by decide) (by decide) (Nat.le_of_ble_eq_true rfl) (Nat.le_of_ble_eq_true rfl) dX1_init_8 (fun qT cT H hK hP hD hS => ?_)
  have hP : va_P (dC, dI) vwCl [(h, .inr (1, [.null, .int 0, .null, .null, .null, .null, .int 0, .int 0, .int 0, .int 0, .int 0, .int 0])), (qT, .inl (cT, 200, .inr (.inr (.inr (.inr (fun _ => none))))))] H := hP
  have hD : va_D A [(h, .inr (1, [.null, .int 0, .null, .null, .null, .null, .int 0, .int 0, .int 0, .int 0, .int 0, .int 0])), (qT, .inl (cT, 200, .inr (.inr (.inr (.inr (fun _ => none))))))] := hD
  have hK : va_K (dC, dI) vwCl [(cT, .object "MainframeDesk$Thing")] s := hK
  refine va_putF (D := (dC, dI)) (ci := 1) (v := .ref qT) (ty := .array (.object "MainframeDesk$Thing")) (C := RX1) (T := TX1) (N := 12) hx hb hts iwX1_init tyX1 tyX1_ok nmX1 hown hK hP hD hS 0 rfl rfl 0 (by decide) (hts (.fieldLink RX1 11 "MainframeDesk" "things" "[LMainframeDesk$Thing;") (by decide +kernel)) (fun _ h9 => h9) rfl hin rfl (by decide +kernel) rfl rfl (Nat.le_of_ble_eq_true rfl) dX1_init_11 (fun H locs hP hD hS => ?_)
  have hP : va_P (dC, dI) vwCl [(h, .inr (1, [.ref qT, .int 0, .null, .null, .null, .null, .int 0, .int 0, .int 0, .int 0, .int 0, .int 0])), (qT, .inl (cT, 200, .inr (.inr (.inr (.inr (fun _ => none))))))] H := hP
  have hD : va_D A [(h, .inr (1, [.ref qT, .int 0, .null, .null, .null, .null, .int 0, .int 0, .int 0, .int 0, .int 0, .int 0])), (qT, .inl (cT, 200, .inr (.inr (.inr (.inr (fun _ => none))))))] := hD
  refine lv_aload_n hx hb dX1_init_14 rfl (lv_at hl 0 rfl) ?_
  refine lv_iconst (v := 0) hx hb dX1_init_15 (by decide) ?_
  refine va_put (D := (dC, dI)) (ci := 1) (v := .int 0) (ty := .int) (C := RX1) (T := TX1) (N := 12) hx hb hts iwX1_init tyX1 tyX1_ok nmX1 hown hK hP hD hS 0 rfl rfl 1 (by decide) (hts (.fieldLink RX1 15 "MainframeDesk" "made" "I") (by decide +kernel)) (fun _ h9 => h9) rfl (by decide +kernel) rfl rfl (Nat.le_of_ble_eq_true rfl) dX1_init_16 (fun H locs hP hD hS => ?_)
  have hP : va_P (dC, dI) vwCl [(h, .inr (1, [.ref qT, .int 0, .null, .null, .null, .null, .int 0, .int 0, .int 0, .int 0, .int 0, .int 0])), (qT, .inl (cT, 200, .inr (.inr (.inr (.inr (fun _ => none))))))] H := hP
  have hD : va_D A [(h, .inr (1, [.ref qT, .int 0, .null, .null, .null, .null, .int 0, .int 0, .int 0, .int 0, .int 0, .int 0])), (qT, .inl (cT, 200, .inr (.inr (.inr (.inr (fun _ => none))))))] := hD
  refine lv_aload_n hx hb dX1_init_19 rfl (lv_at hl 0 rfl) ?_
  refine lv_iconst (v := 4) hx hb dX1_init_20 (by decide) ?_
  refine va_newa (atype := .int) (ty := .int) (a0 := (4, .inl (fun _ => 0))) (n := 4) (N' := 4) hx hb (hts (.arrayClass .int) (by decide +kernel)) rfl hK hP hD hS hA (fun _ => rfl) (by decide) (by decide) (by decide) (Nat.le_of_ble_eq_true rfl) (Nat.le_of_ble_eq_true rfl) dX1_init_21 (fun qC cC H hK hP hD hS => ?_)
  have hP : va_P (dC, dI) vwCl [(h, .inr (1, [.ref qT, .int 0, .null, .null, .null, .null, .int 0, .int 0, .int 0, .int 0, .int 0, .int 0])), (qT, .inl (cT, 200, .inr (.inr (.inr (.inr (fun _ => none)))))), (qC, .inl (cC, (4, .inl (fun _ => 0))))] H := hP
  have hD : va_D A [(h, .inr (1, [.ref qT, .int 0, .null, .null, .null, .null, .int 0, .int 0, .int 0, .int 0, .int 0, .int 0])), (qT, .inl (cT, 200, .inr (.inr (.inr (.inr (fun _ => none)))))), (qC, .inl (cC, (4, .inl (fun _ => 0))))] := hD
  have hK : va_K (dC, dI) vwCl [(cT, .object "MainframeDesk$Thing"), (cC, .int)] s := hK
  refine va_putF (D := (dC, dI)) (ci := 1) (v := .ref qC) (ty := .array .int) (C := RX1) (T := TX1) (N := 12) hx hb hts iwX1_init tyX1 tyX1_ok nmX1 hown hK hP hD hS 0 rfl rfl 2 (by decide) (hts (.fieldLink RX1 19 "MainframeDesk" "rowCounts" "[I") (by decide +kernel)) (fun _ h9 => h9) rfl hin rfl (by decide +kernel) rfl rfl (Nat.le_of_ble_eq_true rfl) dX1_init_23 (fun H locs hP hD hS => ?_)
  have hP : va_P (dC, dI) vwCl [(h, .inr (1, [.ref qT, .int 0, .ref qC, .null, .null, .null, .int 0, .int 0, .int 0, .int 0, .int 0, .int 0])), (qT, .inl (cT, 200, .inr (.inr (.inr (.inr (fun _ => none)))))), (qC, .inl (cC, (4, .inl (fun _ => 0))))] H := hP
  have hD : va_D A [(h, .inr (1, [.ref qT, .int 0, .ref qC, .null, .null, .null, .int 0, .int 0, .int 0, .int 0, .int 0, .int 0])), (qT, .inl (cT, 200, .inr (.inr (.inr (.inr (fun _ => none)))))), (qC, .inl (cC, (4, .inl (fun _ => 0))))] := hD
  refine lv_aload_n hx hb dX1_init_26 rfl (lv_at hl 0 rfl) ?_
  refine lv_iconst (v := 4) hx hb dX1_init_27 (by decide) ?_
  refine va_newa (atype := .long) (ty := .long) (a0 := (4, .inr (.inl (fun _ => 0)))) (n := 4) (N' := 4) hx hb (hts (.arrayClass .long) (by decide +kernel)) rfl hK hP hD hS hA (fun _ => rfl) (by decide) (by decide) (by decide) (Nat.le_of_ble_eq_true rfl) (Nat.le_of_ble_eq_true rfl) dX1_init_28 (fun qS cS H hK hP hD hS => ?_)
  have hP : va_P (dC, dI) vwCl [(h, .inr (1, [.ref qT, .int 0, .ref qC, .null, .null, .null, .int 0, .int 0, .int 0, .int 0, .int 0, .int 0])), (qT, .inl (cT, 200, .inr (.inr (.inr (.inr (fun _ => none)))))), (qC, .inl (cC, (4, .inl (fun _ => 0)))), (qS, .inl (cS, (4, .inr (.inl (fun _ => 0)))))] H := hP
  have hD : va_D A [(h, .inr (1, [.ref qT, .int 0, .ref qC, .null, .null, .null, .int 0, .int 0, .int 0, .int 0, .int 0, .int 0])), (qT, .inl (cT, 200, .inr (.inr (.inr (.inr (fun _ => none)))))), (qC, .inl (cC, (4, .inl (fun _ => 0)))), (qS, .inl (cS, (4, .inr (.inl (fun _ => 0)))))] := hD
  have hK : va_K (dC, dI) vwCl [(cT, .object "MainframeDesk$Thing"), (cC, .int), (cS, .long)] s := hK
  refine va_putF (D := (dC, dI)) (ci := 1) (v := .ref qS) (ty := .array .long) (C := RX1) (T := TX1) (N := 12) hx hb hts iwX1_init tyX1 tyX1_ok nmX1 hown hK hP hD hS 0 rfl rfl 3 (by decide) (hts (.fieldLink RX1 23 "MainframeDesk" "rowSums" "[J") (by decide +kernel)) (fun _ h9 => h9) rfl hin rfl (by decide +kernel) rfl rfl (Nat.le_of_ble_eq_true rfl) dX1_init_30 (fun H locs hP hD hS => ?_)
  have hP : va_P (dC, dI) vwCl [(h, .inr (1, [.ref qT, .int 0, .ref qC, .ref qS, .null, .null, .int 0, .int 0, .int 0, .int 0, .int 0, .int 0])), (qT, .inl (cT, 200, .inr (.inr (.inr (.inr (fun _ => none)))))), (qC, .inl (cC, (4, .inl (fun _ => 0)))), (qS, .inl (cS, (4, .inr (.inl (fun _ => 0)))))] H := hP
  have hD : va_D A [(h, .inr (1, [.ref qT, .int 0, .ref qC, .ref qS, .null, .null, .int 0, .int 0, .int 0, .int 0, .int 0, .int 0])), (qT, .inl (cT, 200, .inr (.inr (.inr (.inr (fun _ => none)))))), (qC, .inl (cC, (4, .inl (fun _ => 0)))), (qS, .inl (cS, (4, .inr (.inl (fun _ => 0)))))] := hD
  refine lv_aload_n hx hb dX1_init_33 rfl (lv_at hl 0 rfl) ?_
  refine lv_bipush (v := 32) hx hb dX1_init_34 (by decide) ?_
  refine va_newa (atype := .long) (ty := .long) (a0 := (32, .inr (.inl (fun _ => 0)))) (n := 32) (N' := 32) hx hb (hts (.arrayClass .long) (by decide +kernel)) rfl hK hP hD hS hA (fun _ => rfl) (by decide) (by decide) (by decide) (Nat.le_of_ble_eq_true rfl) (Nat.le_of_ble_eq_true rfl) dX1_init_36 (fun qA cA H hK hP hD hS => ?_)
  have hP : va_P (dC, dI) vwCl [(h, .inr (1, [.ref qT, .int 0, .ref qC, .ref qS, .null, .null, .int 0, .int 0, .int 0, .int 0, .int 0, .int 0])), (qT, .inl (cT, 200, .inr (.inr (.inr (.inr (fun _ => none)))))), (qC, .inl (cC, (4, .inl (fun _ => 0)))), (qS, .inl (cS, (4, .inr (.inl (fun _ => 0))))), (qA, .inl (cA, (32, .inr (.inl (fun _ => 0)))))] H := hP
  have hD : va_D A [(h, .inr (1, [.ref qT, .int 0, .ref qC, .ref qS, .null, .null, .int 0, .int 0, .int 0, .int 0, .int 0, .int 0])), (qT, .inl (cT, 200, .inr (.inr (.inr (.inr (fun _ => none)))))), (qC, .inl (cC, (4, .inl (fun _ => 0)))), (qS, .inl (cS, (4, .inr (.inl (fun _ => 0))))), (qA, .inl (cA, (32, .inr (.inl (fun _ => 0)))))] := hD
  have hK : va_K (dC, dI) vwCl [(cT, .object "MainframeDesk$Thing"), (cC, .int), (cS, .long), (cA, .long)] s := hK
  refine va_putF (D := (dC, dI)) (ci := 1) (v := .ref qA) (ty := .array .long) (C := RX1) (T := TX1) (N := 12) hx hb hts iwX1_init tyX1 tyX1_ok nmX1 hown hK hP hD hS 0 rfl rfl 4 (by decide) (hts (.fieldLink RX1 27 "MainframeDesk" "answers" "[J") (by decide +kernel)) (fun _ h9 => h9) rfl hin rfl (by decide +kernel) rfl rfl (Nat.le_of_ble_eq_true rfl) dX1_init_38 (fun H locs hP hD hS => ?_)
  have hP : va_P (dC, dI) vwCl [(h, .inr (1, [.ref qT, .int 0, .ref qC, .ref qS, .ref qA, .null, .int 0, .int 0, .int 0, .int 0, .int 0, .int 0])), (qT, .inl (cT, 200, .inr (.inr (.inr (.inr (fun _ => none)))))), (qC, .inl (cC, (4, .inl (fun _ => 0)))), (qS, .inl (cS, (4, .inr (.inl (fun _ => 0))))), (qA, .inl (cA, (32, .inr (.inl (fun _ => 0)))))] H := hP
  have hD : va_D A [(h, .inr (1, [.ref qT, .int 0, .ref qC, .ref qS, .ref qA, .null, .int 0, .int 0, .int 0, .int 0, .int 0, .int 0])), (qT, .inl (cT, 200, .inr (.inr (.inr (.inr (fun _ => none)))))), (qC, .inl (cC, (4, .inl (fun _ => 0)))), (qS, .inl (cS, (4, .inr (.inl (fun _ => 0))))), (qA, .inl (cA, (32, .inr (.inl (fun _ => 0)))))] := hD
  refine lv_aload_n hx hb dX1_init_41 rfl (lv_at hl 0 rfl) ?_
  refine lv_bipush (v := 32) hx hb dX1_init_42 (by decide) ?_
  refine va_newa (atype := .int) (ty := .int) (a0 := (32, .inl (fun _ => 0))) (n := 32) (N' := 32) hx hb (hts (.arrayClass .int) (by decide +kernel)) rfl hK hP hD hS hA (fun _ => rfl) (by decide) (by decide) (by decide) (Nat.le_of_ble_eq_true rfl) (Nat.le_of_ble_eq_true rfl) dX1_init_44 (fun qF cF H hK hP hD hS => ?_)
  have hP : va_P (dC, dI) vwCl [(h, .inr (1, [.ref qT, .int 0, .ref qC, .ref qS, .ref qA, .null, .int 0, .int 0, .int 0, .int 0, .int 0, .int 0])), (qT, .inl (cT, 200, .inr (.inr (.inr (.inr (fun _ => none)))))), (qC, .inl (cC, (4, .inl (fun _ => 0)))), (qS, .inl (cS, (4, .inr (.inl (fun _ => 0))))), (qA, .inl (cA, (32, .inr (.inl (fun _ => 0))))), (qF, .inl (cF, (32, .inl (fun _ => 0))))] H := hP
  have hD : va_D A [(h, .inr (1, [.ref qT, .int 0, .ref qC, .ref qS, .ref qA, .null, .int 0, .int 0, .int 0, .int 0, .int 0, .int 0])), (qT, .inl (cT, 200, .inr (.inr (.inr (.inr (fun _ => none)))))), (qC, .inl (cC, (4, .inl (fun _ => 0)))), (qS, .inl (cS, (4, .inr (.inl (fun _ => 0))))), (qA, .inl (cA, (32, .inr (.inl (fun _ => 0))))), (qF, .inl (cF, (32, .inl (fun _ => 0))))] := hD
  have hK : va_K (dC, dI) vwCl [(cT, .object "MainframeDesk$Thing"), (cC, .int), (cS, .long), (cA, .long), (cF, .int)] s := hK
  refine va_putF (D := (dC, dI)) (ci := 1) (v := .ref qF) (ty := .array .int) (C := RX1) (T := TX1) (N := 12) hx hb hts iwX1_init tyX1 tyX1_ok nmX1 hown hK hP hD hS 0 rfl rfl 5 (by decide) (hts (.fieldLink RX1 30 "MainframeDesk" "failures" "[I") (by decide +kernel)) (fun _ h9 => h9) rfl hin rfl (by decide +kernel) rfl rfl (Nat.le_of_ble_eq_true rfl) dX1_init_46 (fun H locs hP hD hS => ?_)
  have hP : va_P (dC, dI) vwCl [(h, .inr (1, [.ref qT, .int 0, .ref qC, .ref qS, .ref qA, .ref qF, .int 0, .int 0, .int 0, .int 0, .int 0, .int 0])), (qT, .inl (cT, 200, .inr (.inr (.inr (.inr (fun _ => none)))))), (qC, .inl (cC, (4, .inl (fun _ => 0)))), (qS, .inl (cS, (4, .inr (.inl (fun _ => 0))))), (qA, .inl (cA, (32, .inr (.inl (fun _ => 0))))), (qF, .inl (cF, (32, .inl (fun _ => 0))))] H := hP
  have hD : va_D A [(h, .inr (1, [.ref qT, .int 0, .ref qC, .ref qS, .ref qA, .ref qF, .int 0, .int 0, .int 0, .int 0, .int 0, .int 0])), (qT, .inl (cT, 200, .inr (.inr (.inr (.inr (fun _ => none)))))), (qC, .inl (cC, (4, .inl (fun _ => 0)))), (qS, .inl (cS, (4, .inr (.inl (fun _ => 0))))), (qA, .inl (cA, (32, .inr (.inl (fun _ => 0))))), (qF, .inl (cF, (32, .inl (fun _ => 0))))] := hD
  refine lv_aload_n hx hb dX1_init_49 rfl (lv_at hl 0 rfl) ?_
  refine lv_iconst (v := 0) hx hb dX1_init_50 (by decide) ?_
  refine va_put (D := (dC, dI)) (ci := 1) (v := .int 0) (ty := .int) (C := RX1) (T := TX1) (N := 12) hx hb hts iwX1_init tyX1 tyX1_ok nmX1 hown hK hP hD hS 0 rfl rfl 6 (by decide) (hts (.fieldLink RX1 33 "MainframeDesk" "latestFailure" "I") (by decide +kernel)) (fun _ h9 => h9) rfl (by decide +kernel) rfl rfl (Nat.le_of_ble_eq_true rfl) dX1_init_51 (fun H locs hP hD hS => ?_)
  have hP : va_P (dC, dI) vwCl [(h, .inr (1, [.ref qT, .int 0, .ref qC, .ref qS, .ref qA, .ref qF, .int 0, .int 0, .int 0, .int 0, .int 0, .int 0])), (qT, .inl (cT, 200, .inr (.inr (.inr (.inr (fun _ => none)))))), (qC, .inl (cC, (4, .inl (fun _ => 0)))), (qS, .inl (cS, (4, .inr (.inl (fun _ => 0))))), (qA, .inl (cA, (32, .inr (.inl (fun _ => 0))))), (qF, .inl (cF, (32, .inl (fun _ => 0))))] H := hP
  have hD : va_D A [(h, .inr (1, [.ref qT, .int 0, .ref qC, .ref qS, .ref qA, .ref qF, .int 0, .int 0, .int 0, .int 0, .int 0, .int 0])), (qT, .inl (cT, 200, .inr (.inr (.inr (.inr (fun _ => none)))))), (qC, .inl (cC, (4, .inl (fun _ => 0)))), (qS, .inl (cS, (4, .inr (.inl (fun _ => 0))))), (qA, .inl (cA, (32, .inr (.inl (fun _ => 0))))), (qF, .inl (cF, (32, .inl (fun _ => 0))))] := hD
  refine lv_aload_n hx hb dX1_init_54 rfl (lv_at hl 0 rfl) ?_
  refine lv_iconst (v := 0) hx hb dX1_init_55 (by decide) ?_
  refine va_put (D := (dC, dI)) (ci := 1) (v := .int 0) (ty := .int) (C := RX1) (T := TX1) (N := 12) hx hb hts iwX1_init tyX1 tyX1_ok nmX1 hown hK hP hD hS 0 rfl rfl 7 (by decide) (hts (.fieldLink RX1 36 "MainframeDesk" "latestFailedCall" "I") (by decide +kernel)) (fun _ h9 => h9) rfl (by decide +kernel) rfl rfl (Nat.le_of_ble_eq_true rfl) dX1_init_56 (fun H locs hP hD hS => ?_)
  have hP : va_P (dC, dI) vwCl [(h, .inr (1, [.ref qT, .int 0, .ref qC, .ref qS, .ref qA, .ref qF, .int 0, .int 0, .int 0, .int 0, .int 0, .int 0])), (qT, .inl (cT, 200, .inr (.inr (.inr (.inr (fun _ => none)))))), (qC, .inl (cC, (4, .inl (fun _ => 0)))), (qS, .inl (cS, (4, .inr (.inl (fun _ => 0))))), (qA, .inl (cA, (32, .inr (.inl (fun _ => 0))))), (qF, .inl (cF, (32, .inl (fun _ => 0))))] H := hP
  have hD : va_D A [(h, .inr (1, [.ref qT, .int 0, .ref qC, .ref qS, .ref qA, .ref qF, .int 0, .int 0, .int 0, .int 0, .int 0, .int 0])), (qT, .inl (cT, 200, .inr (.inr (.inr (.inr (fun _ => none)))))), (qC, .inl (cC, (4, .inl (fun _ => 0)))), (qS, .inl (cS, (4, .inr (.inl (fun _ => 0))))), (qA, .inl (cA, (32, .inr (.inl (fun _ => 0))))), (qF, .inl (cF, (32, .inl (fun _ => 0))))] := hD
  refine lv_aload_n hx hb dX1_init_59 rfl (lv_at hl 0 rfl) ?_
  refine lv_iconst (v := 0) hx hb dX1_init_60 (by decide) ?_
  refine va_put (D := (dC, dI)) (ci := 1) (v := .int 0) (ty := .int) (C := RX1) (T := TX1) (N := 12) hx hb hts iwX1_init tyX1 tyX1_ok nmX1 hown hK hP hD hS 0 rfl rfl 8 (by decide) (hts (.fieldLink RX1 39 "MainframeDesk" "latestEndedThing" "I") (by decide +kernel)) (fun _ h9 => h9) rfl (by decide +kernel) rfl rfl (Nat.le_of_ble_eq_true rfl) dX1_init_61 (fun H locs hP hD hS => ?_)
  have hP : va_P (dC, dI) vwCl [(h, .inr (1, [.ref qT, .int 0, .ref qC, .ref qS, .ref qA, .ref qF, .int 0, .int 0, .int 0, .int 0, .int 0, .int 0])), (qT, .inl (cT, 200, .inr (.inr (.inr (.inr (fun _ => none)))))), (qC, .inl (cC, (4, .inl (fun _ => 0)))), (qS, .inl (cS, (4, .inr (.inl (fun _ => 0))))), (qA, .inl (cA, (32, .inr (.inl (fun _ => 0))))), (qF, .inl (cF, (32, .inl (fun _ => 0))))] H := hP
  have hD : va_D A [(h, .inr (1, [.ref qT, .int 0, .ref qC, .ref qS, .ref qA, .ref qF, .int 0, .int 0, .int 0, .int 0, .int 0, .int 0])), (qT, .inl (cT, 200, .inr (.inr (.inr (.inr (fun _ => none)))))), (qC, .inl (cC, (4, .inl (fun _ => 0)))), (qS, .inl (cS, (4, .inr (.inl (fun _ => 0))))), (qA, .inl (cA, (32, .inr (.inl (fun _ => 0))))), (qF, .inl (cF, (32, .inl (fun _ => 0))))] := hD
  refine lv_aload_n hx hb dX1_init_64 rfl (lv_at hl 0 rfl) ?_
  refine lv_iconst (v := 0) hx hb dX1_init_65 (by decide) ?_
  refine va_put (D := (dC, dI)) (ci := 1) (v := .int 0) (ty := .int) (C := RX1) (T := TX1) (N := 12) hx hb hts iwX1_init tyX1 tyX1_ok nmX1 hown hK hP hD hS 0 rfl rfl 9 (by decide) (hts (.fieldLink RX1 42 "MainframeDesk" "failureCount" "I") (by decide +kernel)) (fun _ h9 => h9) rfl (by decide +kernel) rfl rfl (Nat.le_of_ble_eq_true rfl) dX1_init_66 (fun H locs hP hD hS => ?_)
  have hP : va_P (dC, dI) vwCl [(h, .inr (1, [.ref qT, .int 0, .ref qC, .ref qS, .ref qA, .ref qF, .int 0, .int 0, .int 0, .int 0, .int 0, .int 0])), (qT, .inl (cT, 200, .inr (.inr (.inr (.inr (fun _ => none)))))), (qC, .inl (cC, (4, .inl (fun _ => 0)))), (qS, .inl (cS, (4, .inr (.inl (fun _ => 0))))), (qA, .inl (cA, (32, .inr (.inl (fun _ => 0))))), (qF, .inl (cF, (32, .inl (fun _ => 0))))] H := hP
  have hD : va_D A [(h, .inr (1, [.ref qT, .int 0, .ref qC, .ref qS, .ref qA, .ref qF, .int 0, .int 0, .int 0, .int 0, .int 0, .int 0])), (qT, .inl (cT, 200, .inr (.inr (.inr (.inr (fun _ => none)))))), (qC, .inl (cC, (4, .inl (fun _ => 0)))), (qS, .inl (cS, (4, .inr (.inl (fun _ => 0))))), (qA, .inl (cA, (32, .inr (.inl (fun _ => 0))))), (qF, .inl (cF, (32, .inl (fun _ => 0))))] := hD
  refine lv_aload_n hx hb dX1_init_69 rfl (lv_at hl 0 rfl) ?_
  refine lv_iconst (v := 0) hx hb dX1_init_70 (by decide) ?_
  refine va_put (D := (dC, dI)) (ci := 1) (v := .int 0) (ty := .int) (C := RX1) (T := TX1) (N := 12) hx hb hts iwX1_init tyX1 tyX1_ok nmX1 hown hK hP hD hS 0 rfl rfl 10 (by decide) (hts (.fieldLink RX1 45 "MainframeDesk" "refusalCount" "I") (by decide +kernel)) (fun _ h9 => h9) rfl (by decide +kernel) rfl rfl (Nat.le_of_ble_eq_true rfl) dX1_init_71 (fun H locs hP hD hS => ?_)
  have hP : va_P (dC, dI) vwCl [(h, .inr (1, [.ref qT, .int 0, .ref qC, .ref qS, .ref qA, .ref qF, .int 0, .int 0, .int 0, .int 0, .int 0, .int 0])), (qT, .inl (cT, 200, .inr (.inr (.inr (.inr (fun _ => none)))))), (qC, .inl (cC, (4, .inl (fun _ => 0)))), (qS, .inl (cS, (4, .inr (.inl (fun _ => 0))))), (qA, .inl (cA, (32, .inr (.inl (fun _ => 0))))), (qF, .inl (cF, (32, .inl (fun _ => 0))))] H := hP
  have hD : va_D A [(h, .inr (1, [.ref qT, .int 0, .ref qC, .ref qS, .ref qA, .ref qF, .int 0, .int 0, .int 0, .int 0, .int 0, .int 0])), (qT, .inl (cT, 200, .inr (.inr (.inr (.inr (fun _ => none)))))), (qC, .inl (cC, (4, .inl (fun _ => 0)))), (qS, .inl (cS, (4, .inr (.inl (fun _ => 0))))), (qA, .inl (cA, (32, .inr (.inl (fun _ => 0))))), (qF, .inl (cF, (32, .inl (fun _ => 0))))] := hD
  refine lv_aload_n hx hb dX1_init_74 rfl (lv_at hl 0 rfl) ?_
  refine lv_iconst (v := 0) hx hb dX1_init_75 (by decide) ?_
  refine va_put (D := (dC, dI)) (ci := 1) (v := .int 0) (ty := .int) (C := RX1) (T := TX1) (N := 12) hx hb hts iwX1_init tyX1 tyX1_ok nmX1 hown hK hP hD hS 0 rfl rfl 11 (by decide) (hts (.fieldLink RX1 48 "MainframeDesk" "answerCount" "I") (by decide +kernel)) (fun _ h9 => h9) rfl (by decide +kernel) rfl rfl (Nat.le_of_ble_eq_true rfl) dX1_init_76 (fun H locs hP hD hS => ?_)
  have hP : va_P (dC, dI) vwCl [(h, .inr (1, [.ref qT, .int 0, .ref qC, .ref qS, .ref qA, .ref qF, .int 0, .int 0, .int 0, .int 0, .int 0, .int 0])), (qT, .inl (cT, 200, .inr (.inr (.inr (.inr (fun _ => none)))))), (qC, .inl (cC, (4, .inl (fun _ => 0)))), (qS, .inl (cS, (4, .inr (.inl (fun _ => 0))))), (qA, .inl (cA, (32, .inr (.inl (fun _ => 0))))), (qF, .inl (cF, (32, .inl (fun _ => 0))))] H := hP
  have hD : va_D A [(h, .inr (1, [.ref qT, .int 0, .ref qC, .ref qS, .ref qA, .ref qF, .int 0, .int 0, .int 0, .int 0, .int 0, .int 0])), (qT, .inl (cT, 200, .inr (.inr (.inr (.inr (fun _ => none)))))), (qC, .inl (cC, (4, .inl (fun _ => 0)))), (qS, .inl (cS, (4, .inr (.inl (fun _ => 0))))), (qA, .inl (cA, (32, .inr (.inl (fun _ => 0))))), (qF, .inl (cF, (32, .inl (fun _ => 0))))] := hD
  refine W.widen (k := 5) (n := 272) (Nat.le_of_ble_eq_true rfl) (Nat.le_of_ble_eq_true rfl) ?_
  have e0 : dW h qT qC qS qA qF cT cC cS cA cF (fun _ => 0) 0 (fun _ => 0) (fun _ => 0) (fun _ => 0) (fun _ => 0) (fun _ => 0) (fun _ => 0) (fun _ => 0) 0 0 0 0 0 0 = [(h, .inr (1, [.ref qT, .int 0, .ref qC, .ref qS, .ref qA, .ref qF, .int 0, .int 0, .int 0, .int 0, .int 0, .int 0])), (qT, .inl (cT, 200, .inr (.inr (.inr (.inr (fun _ => none)))))), (qC, .inl (cC, (4, .inl (fun _ => 0)))), (qS, .inl (cS, (4, .inr (.inl (fun _ => 0))))), (qA, .inl (cA, (32, .inr (.inl (fun _ => 0))))), (qF, .inl (cF, (32, .inl (fun _ => 0))))] := by unfold dW dX; rw [dTh_0]; rfl
  exact W.vret hx hb hr (fun t ht hW => ⟨⟨(), rfl, trivial, qT, qC, qS, qA, qF, cT, cC, cS, cA, cF, by rw [ht, e0]; exact hP, va_K.moved hW.alike hK, by rw [e0]; exact hD⟩, hS.F ht⟩) hS.2.2 dX1_init_79
