theorem iwX2_numbers : ∀ w ∈ wsX20, w ∈ wsX2_numbers := fun _ h => List.mem_cons_of_mem _ (List.mem_append_right _ h)
set_option maxHeartbeats 1000000 in
set_option maxRecDepth 100000 in
/-- numbers(k) -/
theorem r_numbers (l : Launch) (dC : Nat → ClassId) (dI : Nat → Nat → Nat) (h qs qm qa qf qk qt qd : Nat) (cs cm ca cf ck ct cd : ClassId) (n : Nat) (kd ok cn rc : Nat → Int32) (rs an : Nat → Int64) (fl : Nat → Int32) (t0 t1 t2 t3 t4 t5 th wy : Int32) (hn : n ≤ 200) (sz : Nat) (k : Int32) : Met l yX2_numbers wsX2_numbers ({ frames := 1, cells := 0, slots := 0, locals := 21 }) (va_Pc [.ref h, .int k] (rQ dC dI [(cs, .long), (cm, .int), (ca, .long), (cf, .int), (ck, .int), (ct, .boolean), (cd, .long)] (rW h qs qm qa qf qk qt qd cs cm ca cf ck ct cd n kd ok cn rc rs an fl t0 t1 t2 t3 t4 t5 th wy) sz)) (va_Qi (fun (r : Int32) (u : dM × Int32 × Int32) => r = mNumbers (n, kd, ok, cn, rc, rs, an, fl, t0, t1, t2, t3, t4, t5) k ∧ u.1 = (n, kd, ok, cn, rc, rs, an, fl, t0, t1, t2, t3, t4, t5)) (fun u t => dAt dC dI (rWm h qs qm qa qf qk qt qd cs cm ca cf ck ct cd u) (va_A (rW h qs qm qa qf qk qt qd cs cm ca cf ck ct cd n kd ok cn rc rs an fl t0 t1 t2 t3 t4 t5 th wy) sz) t) (va_A (rW h qs qm qa qf qk qt qd cs cm ca cf ck ct cd n kd ok cn rc rs an fl t0 t1 t2 t3 t4 t5 th wy) sz)) 0 0 (va_A (rW h qs qm qa qf qk qt qd cs cm ca cf ck ct cd n kd ok cn rc rs an fl t0 t1 t2 t3 t4 t5 th wy) sz) := by
  refine Met.ofW (cc := cX2_numbers) (maxL := 4) (ret := (some .int)) (by decide) rfl ?_
  intro p e s m args below meth c s₁ B hml hv
  obtain ⟨rfl, hsz, hP, hK, hD0⟩ := hv
  have hx := B.exec
  have hb := B.bytes
  have hr := B.returns
  have hts := atoms_spec (ws := wsX2_numbers) B.pre
  have hown : s.vm.findClass RX2 = some m.cls := findClass_of_methodNamed B.named
  have hlocks := B.notSynchronized
  subst hsz
  have hD := hD0.self (sz := s.heap.size)
  generalize hAe : va_A (rW h qs qm qa qf qk qt qd cs cm ca cf ck ct cd n kd ok cn rc rs an fl t0 t1 t2 t3 t4 t5 th wy) s.heap.size = A at hD ⊢
  have hA : ∀ q : Nat, s.heap.size ≤ q → A q := fun q h => by rw [← hAe]; exact Or.inr h
  have hS : va_S A s.heap s.heap [] := va_S.rf
  have hl := lv_entry ([.ref h, .int k]) (n := 4) (Nat.le_of_ble_eq_true rfl)
  rw [lg_entry_eq]
  generalize (lg_sl ([.ref h, .int k]) ++ List.replicate (4 - (lg_sl ([.ref h, .int k])).length) Slot.unset).toArray = ls at hl ⊢
  have hl : lv_has ls 4 [(0, .ref h), (1, .int k)] := hl
  refine lv_aload_n hx hb dX2_numbers_0 rfl (lv_at hl 0 rfl) ?_
  refine lv_iconst (v := 0) hx hb dX2_numbers_1 (by decide) ?_
  refine va_put (D := (dC, dI)) (ci := 2) (v := .int 0) (ty := .int) (C := RX2) (T := TX2) (N := 16) hx hb hts iwX2_numbers tyX2 tyX2_ok nmX2 hown hK hP hD hS 0 rfl rfl 8 (by decide) (hts (.fieldLink RX2 33 "MainframeDeskModel" "thrown" "I") (by decide +kernel)) (fun _ h9 => h9) rfl (by decide +kernel) rfl rfl (Nat.le_of_ble_eq_true rfl) dX2_numbers_2 (fun H locs hP hD hS => ?_)
  have hP : va_P (dC, dI) vwCl (rW h qs qm qa qf qk qt qd cs cm ca cf ck ct cd n kd ok cn rc rs an fl t0 t1 t2 t3 t4 t5 0 wy) H := hP
  have hD : va_D A (rW h qs qm qa qf qk qt qd cs cm ca cf ck ct cd n kd ok cn rc rs an fl t0 t1 t2 t3 t4 t5 0 wy) := hD
  refine lv_iload_n hx hb dX2_numbers_5 rfl (lv_at hl 1 rfl) ?_
  refine lv_bipush (v := 8) hx hb dX2_numbers_6 (by decide) ?_
  refine vp_callSi (W.runS (As := [.int k, .int 8]) (rest := []) ⟨hx, hb, hml, hown, hts⟩ (r_below l k 8) (va_cwS 2 hts gX2_numbers_X2_below rfl rfl rfl (by decide +kernel) ⟨Nat.le_of_ble_eq_true rfl, Nat.le_of_ble_eq_true rfl⟩) ⟨fun _ _ _ _ q => q, fun _ _ _ => ⟨rfl, trivial⟩⟩ rfl rfl hl.1 rfl (lv_room (Nat.le_of_ble_eq_true rfl)) dX2_numbers_8 ⟨Nat.le_of_ble_eq_true rfl, Nat.le_of_ble_eq_true rfl⟩) (fun r9 hr9 => ?_)
  rcases hr9 with ⟨hq_218, rfl⟩ | ⟨hq_218, rfl⟩
  · refine lv_if_ne (tgt := 16) hx hb dX2_numbers_11 (by decide) (fun _ => ?_) (fun h => absurd h (by decide))
    refine lv_iconst (v := 0) hx hb dX2_numbers_16 (by decide) ?_
    refine lv_istore_n (lv' := [(2, .int 0), (0, .ref h), (1, .int k)]) hx hb dX2_numbers_17 rfl hl (by decide) rfl (fun ls hl => ?_)
    refine lv_iconst (v := 0) hx hb dX2_numbers_18 (by decide) ?_
    refine lv_istore_n (lv' := [(3, .int 0), (2, .int 0), (0, .ref h), (1, .int k)]) hx hb dX2_numbers_19 rfl hl (by decide) rfl (fun ls hl => ?_)
    obtain ⟨x3, ex3⟩ : ∃ y : Int32, y = 0 := ⟨_, rfl⟩
    obtain ⟨x2, ex2⟩ : ∃ y : Int32, y = 0 := ⟨_, rfl⟩
    replace hl : lv_has ls 4 [(3, .int x3), (2, .int x2), (1, .int k), (0, .ref h)] := by rw [ex3, ex2]; exact lv_sub hl [0, 1, 3, 2] rfl
    obtain ⟨j, ej⟩ : ∃ j : Nat, j = 0 := ⟨_, rfl⟩
    have hx3 : x3 = nI j := by rw [ej, ex3]; rfl
    have hx2 : x2 = mCnt kd ok k j := by rw [ej, ex2]; rfl
    have hjn : j ≤ n := by omega
    obtain ⟨f, hf⟩ : ∃ f : Nat, n - j = f := ⟨_, rfl⟩
    clear ex3 ex2 ej
    induction f generalizing j x3 x2 ls with
    | zero =>
      refine lv_iload_n hx hb dX2_numbers_20 rfl (lv_at hl 0 rfl) ?_
      refine lv_aload_n hx hb dX2_numbers_21 rfl (lv_at hl 3 rfl) ?_
      refine va_get (D := (dC, dI)) (ci := 2) (v := .int (nI n)) (C := RX2) (T := TX2) (N := 16) hx hb hts iwX2_numbers hown hK hP 0 rfl rfl 7 (by decide) (hts (.fieldLink RX2 41 "MainframeDeskModel" "made" "I") (by decide +kernel)) (fun _ h9 => h9) rfl dX2_numbers_22 ?_
      refine lv_icmp_ge (tgt := 56) hx hb dX2_numbers_25 (by decide) (fun c_220 => ?_) (fun c_220 => ?_)
      · refine lv_iload_n hx hb dX2_numbers_56 rfl (lv_at hl 1 rfl) ?_
        exact W.iret (v := x2) hx hb hr (fun t ht hW => ⟨⟨_, ((n, kd, ok, cn, rc, rs, an, fl, t0, t1, t2, t3, t4, t5), 0, wy), rfl, ⟨(by unfold mNumbers; dsimp only; rw [if_pos hq_218, hx2, show j = n by omega]), rfl⟩, by rw [ht]; exact hP, hD⟩, hS.F ht⟩) hS.2.2 dX2_numbers_57
      · exact absurd (by rw [hx3]; exact nI_le (by omega) (by omega)) c_220
    | succ f ih =>
      have hz9 : vp_in x3 200 := by rw [hx3]; exact vp_in_nI (by omega) (by omega)
      have hz8 : x3.toNatClampNeg = j := by rw [hx3]; exact nI_clamp (by omega)
      refine lv_iload_n hx hb dX2_numbers_20 rfl (lv_at hl 0 rfl) ?_
      refine lv_aload_n hx hb dX2_numbers_21 rfl (lv_at hl 3 rfl) ?_
      refine va_get (D := (dC, dI)) (ci := 2) (v := .int (nI n)) (C := RX2) (T := TX2) (N := 16) hx hb hts iwX2_numbers hown hK hP 0 rfl rfl 7 (by decide) (hts (.fieldLink RX2 41 "MainframeDeskModel" "made" "I") (by decide +kernel)) (fun _ h9 => h9) rfl dX2_numbers_22 ?_
      refine lv_icmp_ge (tgt := 56) hx hb dX2_numbers_25 (by decide) (fun c_221 => ?_) (fun c_221 => ?_)
      · exact absurd c_221 (by rw [hx3]; exact nI_ge (by omega) (by omega))
      · refine lv_aload_n hx hb dX2_numbers_28 rfl (lv_at hl 3 rfl) ?_
        refine va_get (D := (dC, dI)) (ci := 2) (v := .ref qt) (C := RX2) (T := TX2) (N := 16) hx hb hts iwX2_numbers hown hK hP 0 rfl rfl 5 (by decide) (hts (.fieldLink RX2 26 "MainframeDeskModel" "there" "[Z") (by decide +kernel)) (fun _ h9 => h9) rfl dX2_numbers_29 ?_
        refine lv_iload_n hx hb dX2_numbers_32 rfl (lv_at hl 0 rfl) ?_
        refine va_zald hx hb hK hP 6 5 rfl rfl hz9 dX2_numbers_33 ?_
        refine lv_topi (fun v_222 ev_222 => ?_)
        refine lv_if_eq (tgt := 50) hx hb dX2_numbers_34 (by decide) (fun c_223 => ?_) (fun c_223 => ?_)
        · rw [hz8] at ev_222
          subst ev_222
          obtain ⟨i_224, ei_224⟩ : ∃ y : Int32, y = x3 + 1 := ⟨_, rfl⟩
          refine lv_iinc (v := i_224) (lv' := [(3, .int i_224), (2, .int x2), (1, .int k), (0, .ref h)]) hx hb dX2_numbers_50 hl (k := 0) rfl (by rw [ei_224]; rfl) (by decide) rfl (fun ls hl => ?_)
          refine lv_goto (tgt := 20) hx hb dX2_numbers_53 (by decide) ?_
          exact ih (j := j + 1) (x3 := i_224) (x2 := x2) (ls := ls) (hl := lv_sub hl [0, 1, 2, 3] rfl) (hx3 := by rw [ei_224, hx3]; exact nI_1 j) (hx2 := by unfold mCnt; rw [if_neg (fun q => q.1 c_223)]; exact hx2) (hjn := by omega) (hf := by omega)
        · refine lv_aload_n hx hb dX2_numbers_37 rfl (lv_at hl 3 rfl) ?_
          refine va_get (D := (dC, dI)) (ci := 2) (v := .ref qk) (C := RX2) (T := TX2) (N := 16) hx hb hts iwX2_numbers hown hK hP 0 rfl rfl 4 (by decide) (hts (.fieldLink RX2 23 "MainframeDeskModel" "kind" "[I") (by decide +kernel)) (fun _ h9 => h9) rfl dX2_numbers_38 ?_
          refine lv_iload_n hx hb dX2_numbers_41 rfl (lv_at hl 0 rfl) ?_
          refine va_iald hx hb hK hP 5 4 rfl rfl hz9 dX2_numbers_42 ?_
          refine lv_topi (fun v_225 ev_225 => ?_)
          refine lv_iload_n hx hb dX2_numbers_43 rfl (lv_at hl 2 rfl) ?_
          refine lv_icmp_ne (tgt := 50) hx hb dX2_numbers_44 (by decide) (fun c_226 => ?_) (fun c_226 => ?_)
          · rw [hz8] at ev_222
            subst ev_222
            rw [hz8] at ev_225
            subst ev_225
            obtain ⟨i_227, ei_227⟩ : ∃ y : Int32, y = x3 + 1 := ⟨_, rfl⟩
            refine lv_iinc (v := i_227) (lv' := [(3, .int i_227), (2, .int x2), (1, .int k), (0, .ref h)]) hx hb dX2_numbers_50 hl (k := 0) rfl (by rw [ei_227]; rfl) (by decide) rfl (fun ls hl => ?_)
            refine lv_goto (tgt := 20) hx hb dX2_numbers_53 (by decide) ?_
            exact ih (j := j + 1) (x3 := i_227) (x2 := x2) (ls := ls) (hl := lv_sub hl [0, 1, 2, 3] rfl) (hx3 := by rw [ei_227, hx3]; exact nI_1 j) (hx2 := by unfold mCnt; rw [if_neg (fun q => c_226 q.2)]; exact hx2) (hjn := by omega) (hf := by omega)
          · obtain ⟨i_228, ei_228⟩ : ∃ y : Int32, y = x2 + 1 := ⟨_, rfl⟩
            refine lv_iinc (v := i_228) (lv' := [(2, .int i_228), (3, .int x3), (1, .int k), (0, .ref h)]) hx hb dX2_numbers_47 hl (k := 1) rfl (by rw [ei_228]; rfl) (by decide) rfl (fun ls hl => ?_)
            rw [hz8] at ev_222
            subst ev_222
            rw [hz8] at ev_225
            subst ev_225
            obtain ⟨i_229, ei_229⟩ : ∃ y : Int32, y = x3 + 1 := ⟨_, rfl⟩
            refine lv_iinc (v := i_229) (lv' := [(3, .int i_229), (2, .int i_228), (1, .int k), (0, .ref h)]) hx hb dX2_numbers_50 hl (k := 1) rfl (by rw [ei_229]; rfl) (by decide) rfl (fun ls hl => ?_)
            refine lv_goto (tgt := 20) hx hb dX2_numbers_53 (by decide) ?_
            exact ih (j := j + 1) (x3 := i_229) (x2 := i_228) (ls := ls) (hl := lv_sub hl [0, 1, 2, 3] rfl) (hx3 := by rw [ei_229, hx3]; exact nI_1 j) (hx2 := by unfold mCnt; rw [if_pos ⟨c_223, c_226⟩, ei_228, hx2]) (hjn := by omega) (hf := by omega)
  · refine lv_if_ne (tgt := 16) hx hb dX2_numbers_11 (by decide) (fun h => absurd h (by decide)) (fun _ => ?_)
    refine lv_iconst (v := (-1)) hx hb dX2_numbers_14 (by decide) ?_
    exact W.iret (v := (-1)) hx hb hr (fun t ht hW => ⟨⟨_, ((n, kd, ok, cn, rc, rs, an, fl, t0, t1, t2, t3, t4, t5), 0, wy), rfl, ⟨(by unfold mNumbers; dsimp only; rw [if_neg hq_218]), rfl⟩, by rw [ht]; exact hP, hD⟩, hS.F ht⟩) hS.2.2 dX2_numbers_15
theorem mL_z : mL (fun _ => 0) = fun _ => 0 := by
  funext j
  rfl
theorem iwX2_init : ∀ w ∈ wsX20, w ∈ wsX2_init := fun _ h => List.mem_cons_of_mem _ (List.mem_append_right _ h)
set_option maxHeartbeats 1000000 in
set_option maxRecDepth 100000 in
/-- the reference, new -/
theorem r_init (l : Launch) (dC : Nat → ClassId) (dI : Nat → Nat → Nat) (h sz : Nat) : Met l yX2_init wsX2_init ({ frames := 1, cells := 7, slots := 672, locals := 12 }) (va_Pc [.ref h] (fun U => U.heap.size = sz ∧ va_P (dC, dI) vwCl [(h, .inr (2, [.null, .null, .null, .null, .null, .null, .null, .int 0, .int 0, .int 0, .int 0, .int 0, .int 0, .int 0, .int 0, .int 0]))] U.heap ∧ va_K (dC, dI) vwCl [] U ∧ va_D (fun _ => True) [(h, .inr (2, [.null, .null, .null, .null, .null, .null, .null, .int 0, .int 0, .int 0, .int 0, .int 0, .int 0, .int 0, .int 0, .int 0]))])) (va_Qv (fun (_ : Unit) => True) (fun _ t => ∃ (qs qm qa qf qk qt qd : Nat) (cs cm ca cf ck ct cd : ClassId), va_P (dC, dI) vwCl (rW h qs qm qa qf qk qt qd cs cm ca cf ck ct cd 0 (fun _ => 0) (fun _ => 0) (fun _ => 0) (fun _ => 0) (fun _ => 0) (fun _ => 0) (fun _ => 0) 0 0 0 0 0 0 0 0) t.heap ∧ va_K (dC, dI) vwCl [(cs, .long), (cm, .int), (ca, .long), (cf, .int), (ck, .int), (ct, .boolean), (cd, .long)] t ∧ va_D (va_A [(h, .inr (2, [.null, .null, .null, .null, .null, .null, .null, .int 0, .int 0, .int 0, .int 0, .int 0, .int 0, .int 0, .int 0, .int 0]))] sz) (rW h qs qm qa qf qk qt qd cs cm ca cf ck ct cd 0 (fun _ => 0) (fun _ => 0) (fun _ => 0) (fun _ => 0) (fun _ => 0) (fun _ => 0) (fun _ => 0) 0 0 0 0 0 0 0 0)) (va_A [(h, .inr (2, [.null, .null, .null, .null, .null, .null, .null, .int 0, .int 0, .int 0, .int 0, .int 0, .int 0, .int 0, .int 0, .int 0]))] sz)) 7 672 (va_A [(h, .inr (2, [.null, .null, .null, .null, .null, .null, .null, .int 0, .int 0, .int 0, .int 0, .int 0, .int 0, .int 0, .int 0, .int 0]))] sz) := by
  refine Met.ofW (cc := cX2_init) (maxL := 1) (ret := none) (by decide) rfl ?_
  intro p e s m args below meth c s₁ B hml hv
  obtain ⟨rfl, hsz, hP, hK, hD0⟩ := hv
  have hx := B.exec
  have hb := B.bytes
  have hr := B.returns
  have hts := atoms_spec (ws := wsX2_init) B.pre
  have hown : s.vm.findClass RX2 = some m.cls := findClass_of_methodNamed B.named
  have hlocks := B.notSynchronized
  have hin : meth.name = "<init>" := (name_of_methodNamed B.named B.method).1
  subst hsz
  have hD := hD0.self (sz := s.heap.size)
  generalize hAe : va_A ([(h, .inr (2, [.null, .null, .null, .null, .null, .null, .null, .int 0, .int 0, .int 0, .int 0, .int 0, .int 0, .int 0, .int 0, .int 0]))]) s.heap.size = A at hD ⊢
  have hA : ∀ q : Nat, s.heap.size ≤ q → A q := fun q h => by rw [← hAe]; exact Or.inr h
  have hS : va_S A s.heap s.heap [] := va_S.rf
  have hl := lv_entry ([.ref h]) (n := 1) (Nat.le_of_ble_eq_true rfl)
  rw [lg_entry_eq]
  generalize (lg_sl ([.ref h]) ++ List.replicate (1 - (lg_sl ([.ref h])).length) Slot.unset).toArray = ls at hl ⊢
  have hl : lv_has ls 1 [(0, .ref h)] := hl
  refine lv_aload_n hx hb dX2_init_0 rfl (lv_at hl 0 rfl) ?_
  refine W.objInit hx hb hown (hts (.methodLink RX2 1 objectInit) (by decide +kernel)) (hts (.instanceMethod objectInit) (by decide +kernel)) (hts _ (List.mem_cons_of_mem _ (List.mem_append_left _ (List.mem_of_getElem? (i := 2) rfl)))) rfl (by rw [hml]; exact hl.1) rfl dX2_init_1 (Nat.le_of_ble_eq_true rfl) (Nat.le_of_ble_eq_true rfl) ?_
  refine W.eq (g2 := F0 m 4 ls []) rfl ?_
  refine lv_aload_n hx hb dX2_init_4 rfl (lv_at hl 0 rfl) ?_
  refine lv_iconst (v := 4) hx hb dX2_init_5 (by decide) ?_
  refine va_newa (atype := .long) (ty := .long) (a0 := (4, .inr (.inl (fun _ => 0)))) (n := 4) (N' := 4) hx hb (hts (.arrayClass .long) (by decide +kernel)) rfl hK hP hD hS hA (fun _ => rfl) (by decide) (by decide) (by decide) (Nat.le_of_ble_eq_true rfl) (Nat.le_of_ble_eq_true rfl) dX2_init_6 (fun qs cs H hK hP hD hS => ?_)
  have hP : va_P (dC, dI) vwCl [(h, .inr (2, [.null, .null, .null, .null, .null, .null, .null, .int 0, .int 0, .int 0, .int 0, .int 0, .int 0, .int 0, .int 0, .int 0])), (qs, .inl (cs, (4, .inr (.inl (fun _ => 0)))))] H := hP
  have hD : va_D A [(h, .inr (2, [.null, .null, .null, .null, .null, .null, .null, .int 0, .int 0, .int 0, .int 0, .int 0, .int 0, .int 0, .int 0, .int 0])), (qs, .inl (cs, (4, .inr (.inl (fun _ => 0)))))] := hD
  have hK : va_K (dC, dI) vwCl [(cs, .long)] s := hK
  refine va_putF (D := (dC, dI)) (ci := 2) (v := .ref qs) (ty := .array .long) (C := RX2) (T := TX2) (N := 16) hx hb hts iwX2_init tyX2 tyX2_ok nmX2 hown hK hP hD hS 0 rfl rfl 0 (by decide) (hts (.fieldLink RX2 7 "MainframeDeskModel" "sum" "[J") (by decide +kernel)) (fun _ h9 => h9) rfl hin rfl (by decide +kernel) rfl rfl (Nat.le_of_ble_eq_true rfl) dX2_init_8 (fun H locs hP hD hS => ?_)
  have hP : va_P (dC, dI) vwCl [(h, .inr (2, [.ref qs, .null, .null, .null, .null, .null, .null, .int 0, .int 0, .int 0, .int 0, .int 0, .int 0, .int 0, .int 0, .int 0])), (qs, .inl (cs, (4, .inr (.inl (fun _ => 0)))))] H := hP
  have hD : va_D A [(h, .inr (2, [.ref qs, .null, .null, .null, .null, .null, .null, .int 0, .int 0, .int 0, .int 0, .int 0, .int 0, .int 0, .int 0, .int 0])), (qs, .inl (cs, (4, .inr (.inl (fun _ => 0)))))] := hD
  refine lv_aload_n hx hb dX2_init_11 rfl (lv_at hl 0 rfl) ?_
  refine lv_iconst (v := 4) hx hb dX2_init_12 (by decide) ?_
  refine va_newa (atype := .int) (ty := .int) (a0 := (4, .inl (fun _ => 0))) (n := 4) (N' := 4) hx hb (hts (.arrayClass .int) (by decide +kernel)) rfl hK hP hD hS hA (fun _ => rfl) (by decide) (by decide) (by decide) (Nat.le_of_ble_eq_true rfl) (Nat.le_of_ble_eq_true rfl) dX2_init_13 (fun qm cm H hK hP hD hS => ?_)
  have hP : va_P (dC, dI) vwCl [(h, .inr (2, [.ref qs, .null, .null, .null, .null, .null, .null, .int 0, .int 0, .int 0, .int 0, .int 0, .int 0, .int 0, .int 0, .int 0])), (qs, .inl (cs, (4, .inr (.inl (fun _ => 0))))), (qm, .inl (cm, (4, .inl (fun _ => 0))))] H := hP
  have hD : va_D A [(h, .inr (2, [.ref qs, .null, .null, .null, .null, .null, .null, .int 0, .int 0, .int 0, .int 0, .int 0, .int 0, .int 0, .int 0, .int 0])), (qs, .inl (cs, (4, .inr (.inl (fun _ => 0))))), (qm, .inl (cm, (4, .inl (fun _ => 0))))] := hD
  have hK : va_K (dC, dI) vwCl [(cs, .long), (cm, .int)] s := hK
  refine va_putF (D := (dC, dI)) (ci := 2) (v := .ref qm) (ty := .array .int) (C := RX2) (T := TX2) (N := 16) hx hb hts iwX2_init tyX2 tyX2_ok nmX2 hown hK hP hD hS 0 rfl rfl 1 (by decide) (hts (.fieldLink RX2 13 "MainframeDeskModel" "many" "[I") (by decide +kernel)) (fun _ h9 => h9) rfl hin rfl (by decide +kernel) rfl rfl (Nat.le_of_ble_eq_true rfl) dX2_init_15 (fun H locs hP hD hS => ?_)
  have hP : va_P (dC, dI) vwCl [(h, .inr (2, [.ref qs, .ref qm, .null, .null, .null, .null, .null, .int 0, .int 0, .int 0, .int 0, .int 0, .int 0, .int 0, .int 0, .int 0])), (qs, .inl (cs, (4, .inr (.inl (fun _ => 0))))), (qm, .inl (cm, (4, .inl (fun _ => 0))))] H := hP
  have hD : va_D A [(h, .inr (2, [.ref qs, .ref qm, .null, .null, .null, .null, .null, .int 0, .int 0, .int 0, .int 0, .int 0, .int 0, .int 0, .int 0, .int 0])), (qs, .inl (cs, (4, .inr (.inl (fun _ => 0))))), (qm, .inl (cm, (4, .inl (fun _ => 0))))] := hD
  refine lv_aload_n hx hb dX2_init_18 rfl (lv_at hl 0 rfl) ?_
  refine lv_bipush (v := 32) hx hb dX2_init_19 (by decide) ?_
  refine va_newa (atype := .long) (ty := .long) (a0 := (32, .inr (.inl (fun _ => 0)))) (n := 32) (N' := 32) hx hb (hts (.arrayClass .long) (by decide +kernel)) rfl hK hP hD hS hA (fun _ => rfl) (by decide) (by decide) (by decide) (Nat.le_of_ble_eq_true rfl) (Nat.le_of_ble_eq_true rfl) dX2_init_21 (fun qa ca H hK hP hD hS => ?_)
  have hP : va_P (dC, dI) vwCl [(h, .inr (2, [.ref qs, .ref qm, .null, .null, .null, .null, .null, .int 0, .int 0, .int 0, .int 0, .int 0, .int 0, .int 0, .int 0, .int 0])), (qs, .inl (cs, (4, .inr (.inl (fun _ => 0))))), (qm, .inl (cm, (4, .inl (fun _ => 0)))), (qa, .inl (ca, (32, .inr (.inl (fun _ => 0)))))] H := hP
  have hD : va_D A [(h, .inr (2, [.ref qs, .ref qm, .null, .null, .null, .null, .null, .int 0, .int 0, .int 0, .int 0, .int 0, .int 0, .int 0, .int 0, .int 0])), (qs, .inl (cs, (4, .inr (.inl (fun _ => 0))))), (qm, .inl (cm, (4, .inl (fun _ => 0)))), (qa, .inl (ca, (32, .inr (.inl (fun _ => 0)))))] := hD
  have hK : va_K (dC, dI) vwCl [(cs, .long), (cm, .int), (ca, .long)] s := hK
  refine va_putF (D := (dC, dI)) (ci := 2) (v := .ref qa) (ty := .array .long) (C := RX2) (T := TX2) (N := 16) hx hb hts iwX2_init tyX2 tyX2_ok nmX2 hown hK hP hD hS 0 rfl rfl 2 (by decide) (hts (.fieldLink RX2 17 "MainframeDeskModel" "answers" "[J") (by decide +kernel)) (fun _ h9 => h9) rfl hin rfl (by decide +kernel) rfl rfl (Nat.le_of_ble_eq_true rfl) dX2_init_23 (fun H locs hP hD hS => ?_)
  have hP : va_P (dC, dI) vwCl [(h, .inr (2, [.ref qs, .ref qm, .ref qa, .null, .null, .null, .null, .int 0, .int 0, .int 0, .int 0, .int 0, .int 0, .int 0, .int 0, .int 0])), (qs, .inl (cs, (4, .inr (.inl (fun _ => 0))))), (qm, .inl (cm, (4, .inl (fun _ => 0)))), (qa, .inl (ca, (32, .inr (.inl (fun _ => 0)))))] H := hP
  have hD : va_D A [(h, .inr (2, [.ref qs, .ref qm, .ref qa, .null, .null, .null, .null, .int 0, .int 0, .int 0, .int 0, .int 0, .int 0, .int 0, .int 0, .int 0])), (qs, .inl (cs, (4, .inr (.inl (fun _ => 0))))), (qm, .inl (cm, (4, .inl (fun _ => 0)))), (qa, .inl (ca, (32, .inr (.inl (fun _ => 0)))))] := hD
  refine lv_aload_n hx hb dX2_init_26 rfl (lv_at hl 0 rfl) ?_
  refine lv_bipush (v := 32) hx hb dX2_init_27 (by decide) ?_
  refine va_newa (atype := .int) (ty := .int) (a0 := (32, .inl (fun _ => 0))) (n := 32) (N' := 32) hx hb (hts (.arrayClass .int) (by decide +kernel)) rfl hK hP hD hS hA (fun _ => rfl) (by decide) (by decide) (by decide) (Nat.le_of_ble_eq_true rfl) (Nat.le_of_ble_eq_true rfl) dX2_init_29 (fun qf cf H hK hP hD hS => ?_)
  have hP : va_P (dC, dI) vwCl [(h, .inr (2, [.ref qs, .ref qm, .ref qa, .null, .null, .null, .null, .int 0, .int 0, .int 0, .int 0, .int 0, .int 0, .int 0, .int 0, .int 0])), (qs, .inl (cs, (4, .inr (.inl (fun _ => 0))))), (qm, .inl (cm, (4, .inl (fun _ => 0)))), (qa, .inl (ca, (32, .inr (.inl (fun _ => 0))))), (qf, .inl (cf, (32, .inl (fun _ => 0))))] H := hP
  have hD : va_D A [(h, .inr (2, [.ref qs, .ref qm, .ref qa, .null, .null, .null, .null, .int 0, .int 0, .int 0, .int 0, .int 0, .int 0, .int 0, .int 0, .int 0])), (qs, .inl (cs, (4, .inr (.inl (fun _ => 0))))), (qm, .inl (cm, (4, .inl (fun _ => 0)))), (qa, .inl (ca, (32, .inr (.inl (fun _ => 0))))), (qf, .inl (cf, (32, .inl (fun _ => 0))))] := hD
  have hK : va_K (dC, dI) vwCl [(cs, .long), (cm, .int), (ca, .long), (cf, .int)] s := hK
  refine va_putF (D := (dC, dI)) (ci := 2) (v := .ref qf) (ty := .array .int) (C := RX2) (T := TX2) (N := 16) hx hb hts iwX2_init tyX2 tyX2_ok nmX2 hown hK hP hD hS 0 rfl rfl 3 (by decide) (hts (.fieldLink RX2 20 "MainframeDeskModel" "failures" "[I") (by decide +kernel)) (fun _ h9 => h9) rfl hin rfl (by decide +kernel) rfl rfl (Nat.le_of_ble_eq_true rfl) dX2_init_31 (fun H locs hP hD hS => ?_)
  have hP : va_P (dC, dI) vwCl [(h, .inr (2, [.ref qs, .ref qm, .ref qa, .ref qf, .null, .null, .null, .int 0, .int 0, .int 0, .int 0, .int 0, .int 0, .int 0, .int 0, .int 0])), (qs, .inl (cs, (4, .inr (.inl (fun _ => 0))))), (qm, .inl (cm, (4, .inl (fun _ => 0)))), (qa, .inl (ca, (32, .inr (.inl (fun _ => 0))))), (qf, .inl (cf, (32, .inl (fun _ => 0))))] H := hP
  have hD : va_D A [(h, .inr (2, [.ref qs, .ref qm, .ref qa, .ref qf, .null, .null, .null, .int 0, .int 0, .int 0, .int 0, .int 0, .int 0, .int 0, .int 0, .int 0])), (qs, .inl (cs, (4, .inr (.inl (fun _ => 0))))), (qm, .inl (cm, (4, .inl (fun _ => 0)))), (qa, .inl (ca, (32, .inr (.inl (fun _ => 0))))), (qf, .inl (cf, (32, .inl (fun _ => 0))))] := hD
  refine lv_aload_n hx hb dX2_init_34 rfl (lv_at hl 0 rfl) ?_
  refine lv_sipush (v := 200) hx hb dX2_init_35 (by decide) ?_
  refine va_newa (atype := .int) (ty := .int) (a0 := (200, .inl (fun _ => 0))) (n := 200) (N' := 200) hx hb (hts (.arrayClass .int) (by decide +kernel)) rfl hK hP hD hS hA (fun _ => rfl) (by decide) (by decide) (by decide) (Nat.le_of_ble_eq_true rfl) (Nat.le_of_ble_eq_true rfl) dX2_init_38 (fun qk ck H hK hP hD hS => ?_)
  have hP : va_P (dC, dI) vwCl [(h, .inr (2, [.ref qs, .ref qm, .ref qa, .ref qf, .null, .null, .null, .int 0, .int 0, .int 0, .int 0, .int 0, .int 0, .int 0, .int 0, .int 0])), (qs, .inl (cs, (4, .inr (.inl (fun _ => 0))))), (qm, .inl (cm, (4, .inl (fun _ => 0)))), (qa, .inl (ca, (32, .inr (.inl (fun _ => 0))))), (qf, .inl (cf, (32, .inl (fun _ => 0)))), (qk, .inl (ck, (200, .inl (fun _ => 0))))] H := hP
  have hD : va_D A [(h, .inr (2, [.ref qs, .ref qm, .ref qa, .ref qf, .null, .null, .null, .int 0, .int 0, .int 0, .int 0, .int 0, .int 0, .int 0, .int 0, .int 0])), (qs, .inl (cs, (4, .inr (.inl (fun _ => 0))))), (qm, .inl (cm, (4, .inl (fun _ => 0)))), (qa, .inl (ca, (32, .inr (.inl (fun _ => 0))))), (qf, .inl (cf, (32, .inl (fun _ => 0)))), (qk, .inl (ck, (200, .inl (fun _ => 0))))] := hD
  have hK : va_K (dC, dI) vwCl [(cs, .long), (cm, .int), (ca, .long), (cf, .int), (ck, .int)] s := hK
  refine va_putF (D := (dC, dI)) (ci := 2) (v := .ref qk) (ty := .array .int) (C := RX2) (T := TX2) (N := 16) hx hb hts iwX2_init tyX2 tyX2_ok nmX2 hown hK hP hD hS 0 rfl rfl 4 (by decide) (hts (.fieldLink RX2 23 "MainframeDeskModel" "kind" "[I") (by decide +kernel)) (fun _ h9 => h9) rfl hin rfl (by decide +kernel) rfl rfl (Nat.le_of_ble_eq_true rfl) dX2_init_40 (fun H locs hP hD hS => ?_)
  have hP : va_P (dC, dI) vwCl [(h, .inr (2, [.ref qs, .ref qm, .ref qa, .ref qf, .ref qk, .null, .null, .int 0, .int 0, .int 0, .int 0, .int 0, .int 0, .int 0, .int 0, .int 0])), (qs, .inl (cs, (4, .inr (.inl (fun _ => 0))))), (qm, .inl (cm, (4, .inl (fun _ => 0)))), (qa, .inl (ca, (32, .inr (.inl (fun _ => 0))))), (qf, .inl (cf, (32, .inl (fun _ => 0)))), (qk, .inl (ck, (200, .inl (fun _ => 0))))] H := hP
  have hD : va_D A [(h, .inr (2, [.ref qs, .ref qm, .ref qa, .ref qf, .ref qk, .null, .null, .int 0, .int 0, .int 0, .int 0, .int 0, .int 0, .int 0, .int 0, .int 0])), (qs, .inl (cs, (4, .inr (.inl (fun _ => 0))))), (qm, .inl (cm, (4, .inl (fun _ => 0)))), (qa, .inl (ca, (32, .inr (.inl (fun _ => 0))))), (qf, .inl (cf, (32, .inl (fun _ => 0)))), (qk, .inl (ck, (200, .inl (fun _ => 0))))] := hD
  refine lv_aload_n hx hb dX2_init_43 rfl (lv_at hl 0 rfl) ?_
  refine lv_sipush (v := 200) hx hb dX2_init_44 (by decide) ?_
  refine va_newa (atype := .boolean) (ty := .boolean) (a0 := (200, .inl (fun _ => 0))) (n := 200) (N' := 200) hx hb (hts (.arrayClass .boolean) (by decide +kernel)) rfl hK hP hD hS hA (fun _ => rfl) (by decide) (by decide) (by decide) (Nat.le_of_ble_eq_true rfl) (Nat.le_of_ble_eq_true rfl) dX2_init_47 (fun qt ct H hK hP hD hS => ?_)
  have hP : va_P (dC, dI) vwCl [(h, .inr (2, [.ref qs, .ref qm, .ref qa, .ref qf, .ref qk, .null, .null, .int 0, .int 0, .int 0, .int 0, .int 0, .int 0, .int 0, .int 0, .int 0])), (qs, .inl (cs, (4, .inr (.inl (fun _ => 0))))), (qm, .inl (cm, (4, .inl (fun _ => 0)))), (qa, .inl (ca, (32, .inr (.inl (fun _ => 0))))), (qf, .inl (cf, (32, .inl (fun _ => 0)))), (qk, .inl (ck, (200, .inl (fun _ => 0)))), (qt, .inl (ct, (200, .inl (fun _ => 0))))] H := hP
  have hD : va_D A [(h, .inr (2, [.ref qs, .ref qm, .ref qa, .ref qf, .ref qk, .null, .null, .int 0, .int 0, .int 0, .int 0, .int 0, .int 0, .int 0, .int 0, .int 0])), (qs, .inl (cs, (4, .inr (.inl (fun _ => 0))))), (qm, .inl (cm, (4, .inl (fun _ => 0)))), (qa, .inl (ca, (32, .inr (.inl (fun _ => 0))))), (qf, .inl (cf, (32, .inl (fun _ => 0)))), (qk, .inl (ck, (200, .inl (fun _ => 0)))), (qt, .inl (ct, (200, .inl (fun _ => 0))))] := hD
  have hK : va_K (dC, dI) vwCl [(cs, .long), (cm, .int), (ca, .long), (cf, .int), (ck, .int), (ct, .boolean)] s := hK
  refine va_putF (D := (dC, dI)) (ci := 2) (v := .ref qt) (ty := .array .boolean) (C := RX2) (T := TX2) (N := 16) hx hb hts iwX2_init tyX2 tyX2_ok nmX2 hown hK hP hD hS 0 rfl rfl 5 (by decide) (hts (.fieldLink RX2 26 "MainframeDeskModel" "there" "[Z") (by decide +kernel)) (fun _ h9 => h9) rfl hin rfl (by decide +kernel) rfl rfl (Nat.le_of_ble_eq_true rfl) dX2_init_49 (fun H locs hP hD hS => ?_)
  have hP : va_P (dC, dI) vwCl [(h, .inr (2, [.ref qs, .ref qm, .ref qa, .ref qf, .ref qk, .ref qt, .null, .int 0, .int 0, .int 0, .int 0, .int 0, .int 0, .int 0, .int 0, .int 0])), (qs, .inl (cs, (4, .inr (.inl (fun _ => 0))))), (qm, .inl (cm, (4, .inl (fun _ => 0)))), (qa, .inl (ca, (32, .inr (.inl (fun _ => 0))))), (qf, .inl (cf, (32, .inl (fun _ => 0)))), (qk, .inl (ck, (200, .inl (fun _ => 0)))), (qt, .inl (ct, (200, .inl (fun _ => 0))))] H := hP
  have hD : va_D A [(h, .inr (2, [.ref qs, .ref qm, .ref qa, .ref qf, .ref qk, .ref qt, .null, .int 0, .int 0, .int 0, .int 0, .int 0, .int 0, .int 0, .int 0, .int 0])), (qs, .inl (cs, (4, .inr (.inl (fun _ => 0))))), (qm, .inl (cm, (4, .inl (fun _ => 0)))), (qa, .inl (ca, (32, .inr (.inl (fun _ => 0))))), (qf, .inl (cf, (32, .inl (fun _ => 0)))), (qk, .inl (ck, (200, .inl (fun _ => 0)))), (qt, .inl (ct, (200, .inl (fun _ => 0))))] := hD
  refine lv_aload_n hx hb dX2_init_52 rfl (lv_at hl 0 rfl) ?_
  refine lv_sipush (v := 200) hx hb dX2_init_53 (by decide) ?_
  refine va_newa (atype := .long) (ty := .long) (a0 := (200, .inr (.inl (fun _ => 0)))) (n := 200) (N' := 200) hx hb (hts (.arrayClass .long) (by decide +kernel)) rfl hK hP hD hS hA (fun _ => rfl) (by decide) (by decide) (by decide) (Nat.le_of_ble_eq_true rfl) (Nat.le_of_ble_eq_true rfl) dX2_init_56 (fun qd cd H hK hP hD hS => ?_)
  have hP : va_P (dC, dI) vwCl [(h, .inr (2, [.ref qs, .ref qm, .ref qa, .ref qf, .ref qk, .ref qt, .null, .int 0, .int 0, .int 0, .int 0, .int 0, .int 0, .int 0, .int 0, .int 0])), (qs, .inl (cs, (4, .inr (.inl (fun _ => 0))))), (qm, .inl (cm, (4, .inl (fun _ => 0)))), (qa, .inl (ca, (32, .inr (.inl (fun _ => 0))))), (qf, .inl (cf, (32, .inl (fun _ => 0)))), (qk, .inl (ck, (200, .inl (fun _ => 0)))), (qt, .inl (ct, (200, .inl (fun _ => 0)))), (qd, .inl (cd, (200, .inr (.inl (fun _ => 0)))))] H := hP
  have hD : va_D A [(h, .inr (2, [.ref qs, .ref qm, .ref qa, .ref qf, .ref qk, .ref qt, .null, .int 0, .int 0, .int 0, .int 0, .int 0, .int 0, .int 0, .int 0, .int 0])), (qs, .inl (cs, (4, .inr (.inl (fun _ => 0))))), (qm, .inl (cm, (4, .inl (fun _ => 0)))), (qa, .inl (ca, (32, .inr (.inl (fun _ => 0))))), (qf, .inl (cf, (32, .inl (fun _ => 0)))), (qk, .inl (ck, (200, .inl (fun _ => 0)))), (qt, .inl (ct, (200, .inl (fun _ => 0)))), (qd, .inl (cd, (200, .inr (.inl (fun _ => 0)))))] := hD
  have hK : va_K (dC, dI) vwCl [(cs, .long), (cm, .int), (ca, .long), (cf, .int), (ck, .int), (ct, .boolean), (cd, .long)] s := hK
  refine va_putF (D := (dC, dI)) (ci := 2) (v := .ref qd) (ty := .array .long) (C := RX2) (T := TX2) (N := 16) hx hb hts iwX2_init tyX2 tyX2_ok nmX2 hown hK hP hD hS 0 rfl rfl 6 (by decide) (hts (.fieldLink RX2 30 "MainframeDeskModel" "answered" "[J") (by decide +kernel)) (fun _ h9 => h9) rfl hin rfl (by decide +kernel) rfl rfl (Nat.le_of_ble_eq_true rfl) dX2_init_58 (fun H locs hP hD hS => ?_)
  have hP : va_P (dC, dI) vwCl [(h, .inr (2, [.ref qs, .ref qm, .ref qa, .ref qf, .ref qk, .ref qt, .ref qd, .int 0, .int 0, .int 0, .int 0, .int 0, .int 0, .int 0, .int 0, .int 0])), (qs, .inl (cs, (4, .inr (.inl (fun _ => 0))))), (qm, .inl (cm, (4, .inl (fun _ => 0)))), (qa, .inl (ca, (32, .inr (.inl (fun _ => 0))))), (qf, .inl (cf, (32, .inl (fun _ => 0)))), (qk, .inl (ck, (200, .inl (fun _ => 0)))), (qt, .inl (ct, (200, .inl (fun _ => 0)))), (qd, .inl (cd, (200, .inr (.inl (fun _ => 0)))))] H := hP
  have hD : va_D A [(h, .inr (2, [.ref qs, .ref qm, .ref qa, .ref qf, .ref qk, .ref qt, .ref qd, .int 0, .int 0, .int 0, .int 0, .int 0, .int 0, .int 0, .int 0, .int 0])), (qs, .inl (cs, (4, .inr (.inl (fun _ => 0))))), (qm, .inl (cm, (4, .inl (fun _ => 0)))), (qa, .inl (ca, (32, .inr (.inl (fun _ => 0))))), (qf, .inl (cf, (32, .inl (fun _ => 0)))), (qk, .inl (ck, (200, .inl (fun _ => 0)))), (qt, .inl (ct, (200, .inl (fun _ => 0)))), (qd, .inl (cd, (200, .inr (.inl (fun _ => 0)))))] := hD
  refine W.widen (k := 7) (n := 672) (Nat.le_of_ble_eq_true rfl) (Nat.le_of_ble_eq_true rfl) ?_
  have e0 : rW h qs qm qa qf qk qt qd cs cm ca cf ck ct cd 0 (fun _ => 0) (fun _ => 0) (fun _ => 0) (fun _ => 0) (fun _ => 0) (fun _ => 0) (fun _ => 0) 0 0 0 0 0 0 0 0 = [(h, .inr (2, [.ref qs, .ref qm, .ref qa, .ref qf, .ref qk, .ref qt, .ref qd, .int 0, .int 0, .int 0, .int 0, .int 0, .int 0, .int 0, .int 0, .int 0])), (qs, .inl (cs, (4, .inr (.inl (fun _ => 0))))), (qm, .inl (cm, (4, .inl (fun _ => 0)))), (qa, .inl (ca, (32, .inr (.inl (fun _ => 0))))), (qf, .inl (cf, (32, .inl (fun _ => 0)))), (qk, .inl (ck, (200, .inl (fun _ => 0)))), (qt, .inl (ct, (200, .inl (fun _ => 0)))), (qd, .inl (cd, (200, .inr (.inl (fun _ => 0)))))] := by unfold rW; rw [mL_z]; rfl
  exact W.vret hx hb hr (fun t ht hW => ⟨⟨(), rfl, trivial, qs, qm, qa, qf, qk, qt, qd, cs, cm, ca, cf, ck, ct, cd, by rw [ht, e0]; exact hP, va_K.moved hW.alike hK, by rw [e0]; exact hD⟩, hS.F ht⟩) hS.2.2 dX2_init_61
