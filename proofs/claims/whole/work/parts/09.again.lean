theorem iwX1_again_1 : ∀ w ∈ wsX10, w ∈ wsX1_again := fun _ h => List.mem_cons_of_mem _ (List.mem_append_left _ (List.mem_append_right _ h))
theorem iwX1_again_0 : ∀ w ∈ wsX00, w ∈ wsX1_again := fun _ h => List.mem_cons_of_mem _ (List.mem_append_right _ h)
set_option maxHeartbeats 1000000 in
set_option maxRecDepth 100000 in
/-- again(c, x, a) -/
theorem c_again (l : Launch) (dC : Nat → ClassId) (dI : Nat → Nat → Nat) (h qT qC qS qA qF : Nat) (cT cC cS cA cF : ClassId) (ad : Nat → Nat) (n : Nat) (kd ok cn rc : Nat → Int32) (rs an : Nat → Int64) (fl : Nat → Int32) (t0 t1 t2 t3 t4 t5 : Int32) (hn : n ≤ 200) (cz x : Int32) (a : Int64) : Met l yX1_again wsX1_again ({ frames := 2, cells := 0, slots := 0, locals := 46 }) (va_Pc [.ref h, .int cz, .int x, .long a] (dP dC dI [(cT, .object "MainframeDesk$Thing"), (cC, .int), (cS, .long), (cA, .long), (cF, .int)] (dW h qT qC qS qA qF cT cC cS cA cF ad n kd ok cn rc rs an fl t0 t1 t2 t3 t4 t5))) (vp_Sl (fun r => r = mAgain (n, kd, ok, cn, rc, rs, an, fl, t0, t1, t2, t3, t4, t5) cz x a)) 0 0 (fun _ => False) := by
  refine Met.ofW (cc := cX1_again) (maxL := 7) (ret := (some .long)) (by decide) rfl ?_
  intro p e s m args below meth c s₁ B hml hv
  obtain ⟨rfl, hP, hK, hN⟩ := hv
  have hx := B.exec
  have hb := B.bytes
  have hr := B.returns
  have hts := atoms_spec (ws := wsX1_again) B.pre
  have hown : s.vm.findClass RX1 = some m.cls := findClass_of_methodNamed B.named
  have hlocks := B.notSynchronized
  have hl := lv_entry ([.ref h, .int cz, .int x, .long a]) (n := 7) (Nat.le_of_ble_eq_true rfl)
  rw [lg_entry_eq]
  generalize (lg_sl ([.ref h, .int cz, .int x, .long a]) ++ List.replicate (7 - (lg_sl ([.ref h, .int cz, .int x, .long a])).length) Slot.unset).toArray = ls at hl ⊢
  have hl : lv_has ls 7 [(0, .ref h), (1, .int cz), (2, .int x), (3, .long a)] := hl
  refine lv_aload_n hx hb dX1_again_0 rfl (lv_at hl 0 rfl) ?_
  refine lv_iload_n hx hb dX1_again_1 rfl (lv_at hl 2 rfl) ?_
  refine va_csq (W.runV (As := [.int x]) (rest := []) ⟨hx, hb, hml, hown, hts⟩ (c_find l dC dI h qT qC qS qA qF cT cC cS cA cF ad n kd ok cn rc rs an fl t0 t1 t2 t3 t4 t5 hn x) (cwV 1 hts gX1_again_X1_find rfl rfl rfl (by decide +kernel) ⟨Nat.le_of_ble_eq_true rfl, Nat.le_of_ble_eq_true rfl⟩) ⟨dP_bl, va_recv hK hP (ci := 1) (q0 := 0) rfl rfl, fun U hU hW => ⟨rfl, dP_at hU hW hP hK hN⟩⟩ rfl rfl hl.1 rfl (lv_room (Nat.le_of_ble_eq_true rfl)) dX1_again_2 ⟨Nat.le_of_ble_eq_true rfl, Nat.le_of_ble_eq_true rfl⟩) (fun r9 hr9 => ?_)
  rcases hr9 with ⟨hf_42, rfl⟩ | ⟨hf_42, rfl⟩
  · refine W.eq (g2 := F0 m 5 ls [.ref (ad (mIx x))]) rfl ?_
    obtain ⟨hj_43, hj_431, hj_432⟩ := kx_ix hn hf_42
    refine lv_astore (lv' := [(5, .ref (ad (mIx x))), (0, .ref h), (1, .int cz), (2, .int x), (3, .long a)]) hx hb dX1_again_5 hl (by decide) rfl (fun ls hl => ?_)
    refine lv_aload_n hx hb dX1_again_7 rfl (lv_at hl 1 rfl) ?_
    refine lv_iload_n hx hb dX1_again_8 rfl (lv_at hl 2 rfl) ?_
    refine lv_aload hx hb dX1_again_9 (lv_at hl 0 rfl) ?_
    refine lv_lload_n hx hb dX1_again_11 rfl (lv_at hl 4 rfl) ?_
    refine vp_callSi (W.runV (As := [.int cz, .ref (ad (mIx x)), .long a]) (rest := []) ⟨hx, hb, hml, hown, hts⟩ (c_refusalOf l dC dI h qT qC qS qA qF cT cC cS cA cF ad n kd ok cn rc rs an fl t0 t1 t2 t3 t4 t5 (mIx x) hj_43 cz a) (cwV 3 hts gX1_again_X1_refusalOf rfl rfl rfl (by decide +kernel) ⟨Nat.le_of_ble_eq_true rfl, Nat.le_of_ble_eq_true rfl⟩) ⟨dP_bl, va_recv hK hP (ci := 1) (q0 := 0) rfl rfl, fun U hU hW => ⟨rfl, dP_at hU hW hP hK hN⟩⟩ rfl rfl hl.1 rfl (lv_room (Nat.le_of_ble_eq_true rfl)) dX1_again_12 ⟨Nat.le_of_ble_eq_true rfl, Nat.le_of_ble_eq_true rfl⟩) (fun r_44 er_44 => ?_)
    refine lv_istore (lv' := [(6, .int r_44), (5, .ref (ad (mIx x))), (0, .ref h), (1, .int cz), (2, .int x), (3, .long a)]) hx hb dX1_again_15 hl (by decide) rfl (fun ls hl => ?_)
    refine lv_iload hx hb dX1_again_17 (lv_at hl 0 rfl) ?_
    refine lv_if_eq (tgt := 28) hx hb dX1_again_19 (by decide) (fun c_45 => ?_) (fun c_45 => ?_)
    · have hc : 0 ≤ cz ∧ cz < 32 := kx_refc (er_44.symm.trans c_45)
      refine lv_aload_n hx hb dX1_again_28 rfl (lv_at hl 2 rfl) ?_
      refine lv_iload_n hx hb dX1_again_29 rfl (lv_at hl 3 rfl) ?_
      refine lv_aload hx hb dX1_again_30 (lv_at hl 1 rfl) ?_
      refine lv_lload_n hx hb dX1_again_32 rfl (lv_at hl 5 rfl) ?_
      refine vp_callSl (W.runV (As := [.int cz, .ref (ad (mIx x)), .long a]) (rest := []) ⟨hx, hb, hml, hown, hts⟩ (c_outcomeOf l dC dI h qT qC qS qA qF cT cC cS cA cF ad n kd ok cn rc rs an fl t0 t1 t2 t3 t4 t5 (mIx x) hj_43 cz a hc) (cwV 3 hts gX1_again_X1_outcomeOf rfl rfl rfl (by decide +kernel) ⟨Nat.le_of_ble_eq_true rfl, Nat.le_of_ble_eq_true rfl⟩) ⟨dP_bl, va_recv hK hP (ci := 1) (q0 := 0) rfl rfl, fun U hU hW => ⟨rfl, dP_at hU hW hP hK hN⟩⟩ rfl rfl hl.1 rfl (lv_room (Nat.le_of_ble_eq_true rfl)) dX1_again_33 ⟨Nat.le_of_ble_eq_true rfl, Nat.le_of_ble_eq_true rfl⟩) (fun o_46 eo_46 => ?_)
      subst er_44
      subst eo_46
      exact W.lret (v := _) hx hb hr (fun t ht hW => ⟨_, rfl, (by unfold mAgain; dsimp only; rw [if_pos hf_42, if_pos c_45]), ht⟩) (fun _ h => absurd h List.not_mem_nil) dX1_again_36
    · refine lv_iload hx hb dX1_again_22 (lv_at hl 0 rfl) ?_
      refine lv_i2l (v := r_44.toInt64) hx hb dX1_again_24 rfl ?_
      refine lv_goto (tgt := 36) hx hb dX1_again_25 (by decide) ?_
      subst er_44
      exact W.lret (v := _) hx hb hr (fun t ht hW => ⟨_, rfl, (by unfold mAgain; dsimp only; rw [if_pos hf_42, if_neg c_45]), ht⟩) (fun _ h => absurd h List.not_mem_nil) dX1_again_36
  · refine W.eq (g2 := F0 m 5 ls [.null]) rfl ?_
    refine lv_astoreN (lv' := [(5, .null), (0, .ref h), (1, .int cz), (2, .int x), (3, .long a)]) hx hb dX1_again_5 hl (by decide) rfl (fun ls hl => ?_)
    refine lv_aload_n hx hb dX1_again_7 rfl (lv_at hl 1 rfl) ?_
    refine lv_iload_n hx hb dX1_again_8 rfl (lv_at hl 2 rfl) ?_
    refine lv_aloadN hx hb dX1_again_9 (lv_at hl 0 rfl) ?_
    refine lv_lload_n hx hb dX1_again_11 rfl (lv_at hl 4 rfl) ?_
    refine vp_callSi (W.runV (As := [.int cz, .null, .long a]) (rest := []) ⟨hx, hb, hml, hown, hts⟩ (c_refusalN l dC dI h qT qC qS qA qF cT cC cS cA cF ad n kd ok cn rc rs an fl t0 t1 t2 t3 t4 t5 cz a) (cwV 3 hts gX1_again_X1_refusalOf rfl rfl rfl (by decide +kernel) ⟨Nat.le_of_ble_eq_true rfl, Nat.le_of_ble_eq_true rfl⟩) ⟨dP_bl, va_recv hK hP (ci := 1) (q0 := 0) rfl rfl, fun U hU hW => ⟨rfl, dP_at hU hW hP hK hN⟩⟩ rfl rfl hl.1 rfl (lv_room (Nat.le_of_ble_eq_true rfl)) dX1_again_12 ⟨Nat.le_of_ble_eq_true rfl, Nat.le_of_ble_eq_true rfl⟩) (fun r9 hr9 => ?_)
    subst hr9
    refine lv_istore (lv' := [(6, .int (-2)), (5, .null), (0, .ref h), (1, .int cz), (2, .int x), (3, .long a)]) hx hb dX1_again_15 hl (by decide) rfl (fun ls hl => ?_)
    refine lv_iload hx hb dX1_again_17 (lv_at hl 0 rfl) ?_
    refine lv_if_eq (tgt := 28) hx hb dX1_again_19 (by decide) (fun h => absurd h (by decide)) (fun _ => ?_)
    refine lv_iload hx hb dX1_again_22 (lv_at hl 0 rfl) ?_
    refine lv_i2l (v := ((-2) : Int32).toInt64) hx hb dX1_again_24 rfl ?_
    refine lv_goto (tgt := 36) hx hb dX1_again_25 (by decide) ?_
    exact W.lret (v := _) hx hb hr (fun t ht hW => ⟨_, rfl, (by unfold mAgain; dsimp only; rw [if_neg hf_42]), ht⟩) (fun _ h => absurd h List.not_mem_nil) dX1_again_36
