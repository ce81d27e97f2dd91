theorem iwX1_call_1 : ∀ w ∈ wsX10, w ∈ wsX1_call := fun _ h => List.mem_cons_of_mem _ (List.mem_append_left _ (List.mem_append_right _ h))
theorem iwX1_call_0 : ∀ w ∈ wsX00, w ∈ wsX1_call := fun _ h => List.mem_cons_of_mem _ (List.mem_append_right _ h)
set_option maxHeartbeats 1000000 in
set_option maxRecDepth 100000 in
/-- call(c, x, a) -/
theorem c_call (l : Launch) (dC : Nat → ClassId) (dI : Nat → Nat → Nat) (h qT qC qS qA qF : Nat) (cT cC cS cA cF : ClassId) (ad : Nat → Nat) (n : Nat) (kd ok cn rc : Nat → Int32) (rs an : Nat → Int64) (fl : Nat → Int32) (t0 t1 t2 t3 t4 t5 : Int32) (hn : n ≤ 200) (sz : Nat) (cz x : Int32) (a : Int64) : Met l yX1_call wsX1_call ({ frames := 2, cells := 0, slots := 0, locals := 46 }) (va_Pc [.ref h, .int cz, .int x, .long a] (dQ dC dI [(cT, .object "MainframeDesk$Thing"), (cC, .int), (cS, .long), (cA, .long), (cF, .int)] (dW h qT qC qS qA qF cT cC cS cA cF ad n kd ok cn rc rs an fl t0 t1 t2 t3 t4 t5) sz)) (va_Ql (fun (r : Int64) (u : dM) => (r, u) = mCall (n, kd, ok, cn, rc, rs, an, fl, t0, t1, t2, t3, t4, t5) cz x a) (fun u t => dAt dC dI (dWm h qT qC qS qA qF cT cC cS cA cF ad u) (va_A (dW h qT qC qS qA qF cT cC cS cA cF ad n kd ok cn rc rs an fl t0 t1 t2 t3 t4 t5) sz) t) (va_A (dW h qT qC qS qA qF cT cC cS cA cF ad n kd ok cn rc rs an fl t0 t1 t2 t3 t4 t5) sz)) 0 0 (va_A (dW h qT qC qS qA qF cT cC cS cA cF ad n kd ok cn rc rs an fl t0 t1 t2 t3 t4 t5) sz) := by
  refine Met.ofW (cc := cX1_call) (maxL := 9) (ret := (some .long)) (by decide) rfl ?_
  intro p e s m args below meth c s₁ B hml hv
  obtain ⟨rfl, hsz, hP, hK, hD0, hN⟩ := hv
  have hx := B.exec
  have hb := B.bytes
  have hr := B.returns
  have hts := atoms_spec (ws := wsX1_call) B.pre
  have hown : s.vm.findClass RX1 = some m.cls := findClass_of_methodNamed B.named
  have hlocks := B.notSynchronized
  subst hsz
  have hD := hD0.self (sz := s.heap.size)
  generalize hAe : va_A (dW h qT qC qS qA qF cT cC cS cA cF ad n kd ok cn rc rs an fl t0 t1 t2 t3 t4 t5) s.heap.size = A at hD ⊢
  have hA : ∀ q : Nat, s.heap.size ≤ q → A q := fun q h => by rw [← hAe]; exact Or.inr h
  have hS : va_S A s.heap s.heap [] := va_S.rf
  have hl := lv_entry ([.ref h, .int cz, .int x, .long a]) (n := 9) (Nat.le_of_ble_eq_true rfl)
  rw [lg_entry_eq]
  generalize (lg_sl ([.ref h, .int cz, .int x, .long a]) ++ List.replicate (9 - (lg_sl ([.ref h, .int cz, .int x, .long a])).length) Slot.unset).toArray = ls at hl ⊢
  have hl : lv_has ls 9 [(0, .ref h), (1, .int cz), (2, .int x), (3, .long a)] := hl
  refine lv_aload_n hx hb dX1_call_0 rfl (lv_at hl 0 rfl) ?_
  refine lv_iload_n hx hb dX1_call_1 rfl (lv_at hl 2 rfl) ?_
  refine va_csq (W.runV (As := [.int x]) (rest := []) ⟨hx, hb, hml, hown, hts⟩ (c_find l dC dI h qT qC qS qA qF cT cC cS cA cF ad n kd ok cn rc rs an fl t0 t1 t2 t3 t4 t5 hn x) (cwV 1 hts gX1_call_X1_find rfl rfl rfl (by decide +kernel) ⟨Nat.le_of_ble_eq_true rfl, Nat.le_of_ble_eq_true rfl⟩) ⟨dP_bl, va_recv hK hP (ci := 1) (q0 := 0) rfl rfl, fun U hU hW => ⟨rfl, dP_at hU hW hP hK hN⟩⟩ rfl rfl hl.1 rfl (lv_room (Nat.le_of_ble_eq_true rfl)) dX1_call_2 ⟨Nat.le_of_ble_eq_true rfl, Nat.le_of_ble_eq_true rfl⟩) (fun r9 hr9 => ?_)
  rcases hr9 with ⟨hf_75, rfl⟩ | ⟨hf_75, rfl⟩
  · refine W.eq (g2 := F0 m 5 ls [.ref (ad (mIx x))]) rfl ?_
    obtain ⟨hj_76, hj_761, hj_762⟩ := kx_ix hn hf_75
    refine lv_astore (lv' := [(5, .ref (ad (mIx x))), (0, .ref h), (1, .int cz), (2, .int x), (3, .long a)]) hx hb dX1_call_5 hl (by decide) rfl (fun ls hl => ?_)
    refine lv_aload_n hx hb dX1_call_7 rfl (lv_at hl 1 rfl) ?_
    refine lv_iload_n hx hb dX1_call_8 rfl (lv_at hl 2 rfl) ?_
    refine lv_aload hx hb dX1_call_9 (lv_at hl 0 rfl) ?_
    refine lv_lload_n hx hb dX1_call_11 rfl (lv_at hl 4 rfl) ?_
    refine vp_callSi (W.runV (As := [.int cz, .ref (ad (mIx x)), .long a]) (rest := []) ⟨hx, hb, hml, hown, hts⟩ (c_refusalOf l dC dI h qT qC qS qA qF cT cC cS cA cF ad n kd ok cn rc rs an fl t0 t1 t2 t3 t4 t5 (mIx x) hj_76 cz a) (cwV 3 hts gX1_call_X1_refusalOf rfl rfl rfl (by decide +kernel) ⟨Nat.le_of_ble_eq_true rfl, Nat.le_of_ble_eq_true rfl⟩) ⟨dP_bl, va_recv hK hP (ci := 1) (q0 := 0) rfl rfl, fun U hU hW => ⟨rfl, dP_at hU hW hP hK hN⟩⟩ rfl rfl hl.1 rfl (lv_room (Nat.le_of_ble_eq_true rfl)) dX1_call_12 ⟨Nat.le_of_ble_eq_true rfl, Nat.le_of_ble_eq_true rfl⟩) (fun r_77 er_77 => ?_)
    refine lv_istore (lv' := [(6, .int r_77), (5, .ref (ad (mIx x))), (0, .ref h), (1, .int cz), (2, .int x), (3, .long a)]) hx hb dX1_call_15 hl (by decide) rfl (fun ls hl => ?_)
    refine lv_iload hx hb dX1_call_17 (lv_at hl 0 rfl) ?_
    refine lv_if_eq (tgt := 36) hx hb dX1_call_19 (by decide) (fun c_78 => ?_) (fun c_78 => ?_)
    · have hc : 0 ≤ cz ∧ cz < 32 := kx_refc (er_77.symm.trans c_78)
      refine lv_aload_n hx hb dX1_call_36 rfl (lv_at hl 2 rfl) ?_
      refine lv_iload_n hx hb dX1_call_37 rfl (lv_at hl 3 rfl) ?_
      refine lv_aload hx hb dX1_call_38 (lv_at hl 1 rfl) ?_
      refine lv_lload_n hx hb dX1_call_40 rfl (lv_at hl 5 rfl) ?_
      refine vp_callSl (W.runV (As := [.int cz, .ref (ad (mIx x)), .long a]) (rest := []) ⟨hx, hb, hml, hown, hts⟩ (c_outcomeOf l dC dI h qT qC qS qA qF cT cC cS cA cF ad n kd ok cn rc rs an fl t0 t1 t2 t3 t4 t5 (mIx x) hj_76 cz a hc) (cwV 3 hts gX1_call_X1_outcomeOf rfl rfl rfl (by decide +kernel) ⟨Nat.le_of_ble_eq_true rfl, Nat.le_of_ble_eq_true rfl⟩) ⟨dP_bl, va_recv hK hP (ci := 1) (q0 := 0) rfl rfl, fun U hU hW => ⟨rfl, dP_at hU hW hP hK hN⟩⟩ rfl rfl hl.1 rfl (lv_room (Nat.le_of_ble_eq_true rfl)) dX1_call_41 ⟨Nat.le_of_ble_eq_true rfl, Nat.le_of_ble_eq_true rfl⟩) (fun o_79 eo_79 => ?_)
      refine lv_lstore (lv' := [(7, .long o_79), (6, .int r_77), (5, .ref (ad (mIx x))), (0, .ref h), (1, .int cz), (2, .int x), (3, .long a)]) hx hb dX1_call_44 hl (by decide) rfl (fun ls hl => ?_)
      refine lv_aload_n hx hb dX1_call_46 rfl (lv_at hl 3 rfl) ?_
      refine lv_iload_n hx hb dX1_call_47 rfl (lv_at hl 4 rfl) ?_
      have hFc := kx_fr hD hS hA
      refine va_callv (va_runV (As := [.int cz]) (rest := []) ⟨hx, hb, hml, hown, hts⟩ (c_takeRow l dC dI h qT qC qS qA qF cT cC cS cA cF ad n kd ok cn rc rs an fl t0 t1 t2 t3 t4 t5 s.heap.size cz hc) (cwV 1 hts gX1_call_X1_takeRow rfl rfl rfl (by decide +kernel) ⟨Nat.le_of_ble_eq_true rfl, Nat.le_of_ble_eq_true rfl⟩) ⟨dQ_bl, va_recv hK hP (ci := 1) (q0 := 0) rfl rfl, fun U hU hW => ⟨rfl, dQ_at hU hW hP hK hD hN⟩⟩ rfl rfl hl.1 rfl (lv_room (Nat.le_of_ble_eq_true rfl)) dX1_call_48 ⟨Nat.le_of_ble_eq_true rfl, Nat.le_of_ble_eq_true rfl⟩) hS (fun q _ h => hFc q h) hFc (fun u t H locs ht hvm hw hB hz1 hk1 hS => ?_)
      subst hw
      obtain ⟨hP, hD1⟩ := hB
      rw [ht] at hP
      have hP : va_P (dC, dI) vwCl (dW h qT qC qS qA qF cT cC cS cA cF ad n kd ok cn (mTkC rc cz) (mTkS rs cz) an fl t0 t1 t2 t3 t4 t5) H := hP
      have hD : va_D A (dW h qT qC qS qA qF cT cC cS cA cF ad n kd ok cn (mTkC rc cz) (mTkS rs cz) an fl t0 t1 t2 t3 t4 t5) := hD1.weaken (fun _ q _ h9 => hFc q.1 h9)
      refine lv_aload_n hx hb dX1_call_51 rfl (lv_at hl 3 rfl) ?_
      refine va_get (D := (dC, dI)) (ci := 1) (v := .ref qF) (C := RX1) (T := TX1) (N := 12) hx hb hts iwX1_call_1 hown hK hP 0 rfl rfl 5 (by decide) (hts (.fieldLink RX1 30 "MainframeDesk" "failures" "[I") (by decide +kernel)) (fun _ h9 => h9) rfl dX1_call_52 ?_
      refine lv_iload_n hx hb dX1_call_55 rfl (lv_at hl 4 rfl) ?_
      refine va_iald hx hb hK hP 5 4 rfl rfl (kx_in hc (by decide)) dX1_call_56 ?_
      refine lv_topi (fun v_80 ev_80 => ?_)
      refine lv_if_ne (tgt := 84) hx hb dX1_call_57 (by decide) (fun c_81 => ?_) (fun c_81 => ?_)
      · refine lv_aload hx hb dX1_call_84 (lv_at hl 2 rfl) ?_
        refine lv_iconst (v := 0) hx hb dX1_call_86 (by decide) ?_
        refine va_putN (D := (dC, dI)) (ci := 0) (v := .int 0) (ty := .boolean) (C := RX0) (T := TX0) (N := 3) hx hb hts iwX1_call_0 tyX0 tyX0_ok nmX0 hown hK hP hD hS (6 + (mIx x)) (dW_at hj_76) rfl 1 (by decide) (dNw_fthere hN) (fun _ h9 => h9) rfl (by decide +kernel) (by rfl) (by rfl) (Nat.le_of_ble_eq_true rfl) dX1_call_87 (fun H locs hP hD hS => ?_)
        have hP : va_P (dC, dI) vwCl (dW h qT qC qS qA qF cT cC cS cA cF ad n kd (upd ok (mIx x) 0) cn (mTkC rc cz) (mTkS rs cz) an fl t0 t1 t2 t3 t4 t5) H := by rw [← dW_set_ok hj_76]; exact hP
        have hD : va_D A (dW h qT qC qS qA qF cT cC cS cA cF ad n kd (upd ok (mIx x) 0) cn (mTkC rc cz) (mTkS rs cz) an fl t0 t1 t2 t3 t4 t5) := by rw [← dW_set_ok hj_76]; exact hD
        refine lv_aload_n hx hb dX1_call_90 rfl (lv_at hl 3 rfl) ?_
        refine lv_iload_n hx hb dX1_call_91 rfl (lv_at hl 4 rfl) ?_
        refine lv_iload_n hx hb dX1_call_92 rfl (lv_at hl 5 rfl) ?_
        have hFc := kx_fr hD hS hA
        refine va_callv (va_runV (As := [.int cz, .int x]) (rest := []) ⟨hx, hb, hml, hown, hts⟩ (c_tell l dC dI h qT qC qS qA qF cT cC cS cA cF ad n kd (upd ok (mIx x) 0) cn (mTkC rc cz) (mTkS rs cz) an fl t0 t1 t2 t3 t4 t5 H.size cz x hc) (cwV 2 hts gX1_call_X1_tell rfl rfl rfl (by decide +kernel) ⟨Nat.le_of_ble_eq_true rfl, Nat.le_of_ble_eq_true rfl⟩) ⟨dQ_bl, va_recv hK hP (ci := 1) (q0 := 0) rfl rfl, fun U hU hW => ⟨rfl, dQ_at hU hW hP hK hD hN⟩⟩ rfl rfl hl.1 rfl (lv_room (Nat.le_of_ble_eq_true rfl)) dX1_call_93 ⟨Nat.le_of_ble_eq_true rfl, Nat.le_of_ble_eq_true rfl⟩) hS (fun q _ h => hFc q h) hFc (fun u t H locs ht hvm hw hB hz1 hk1 hS => ?_)
        subst hw
        obtain ⟨hP, hD1⟩ := hB
        rw [ht] at hP
        have hP : va_P (dC, dI) vwCl (dW h qT qC qS qA qF cT cC cS cA cF ad n kd (upd ok (mIx x) 0) cn (mTkC rc cz) (mTkS rs cz) an fl (fl cz.toNatClampNeg) cz x (t3 + 1) t4 t5) H := hP
        have hD : va_D A (dW h qT qC qS qA qF cT cC cS cA cF ad n kd (upd ok (mIx x) 0) cn (mTkC rc cz) (mTkS rs cz) an fl (fl cz.toNatClampNeg) cz x (t3 + 1) t4 t5) := hD1.weaken (fun _ q _ h9 => hFc q.1 h9)
        refine lv_lload hx hb dX1_call_96 (lv_at hl 0 rfl) ?_
        exact W.lret (v := o_79) hx hb hr (fun t ht hW => ⟨⟨_, (n, kd, upd ok (mIx x) 0, cn, mTkC rc cz, mTkS rs cz, an, fl, fl cz.toNatClampNeg, cz, x, t3 + 1, t4, t5), rfl, (by subst er_77; subst eo_79; subst ev_80; unfold mCall; dsimp only; rw [if_pos hf_75, if_pos c_78, if_neg c_81]), by rw [ht]; exact hP, hD⟩, hS.F ht⟩) hS.2.2 dX1_call_98
      · refine lv_aload hx hb dX1_call_60 (lv_at hl 2 rfl) ?_
        refine lv_dup hx hb dX1_call_62 rfl ?_
        refine va_getN (D := (dC, dI)) (ci := 0) (v := .int (cn (mIx x))) (C := RX0) (T := TX0) (N := 3) hx hb hts iwX1_call_0 hown hK hP (6 + (mIx x)) (dW_at hj_76) rfl 2 (by decide) (dNw_fanswered hN) (fun _ h9 => h9) rfl dX1_call_63 ?_
        refine lv_iconst (v := 1) hx hb dX1_call_66 (by decide) ?_
        refine lv_iadd hx hb dX1_call_67 ?_
        refine lv_topi (fun z_82 ez_82 => ?_)
        refine va_putN (D := (dC, dI)) (ci := 0) (v := .int z_82) (ty := .int) (C := RX0) (T := TX0) (N := 3) hx hb hts iwX1_call_0 tyX0 tyX0_ok nmX0 hown hK hP hD hS (6 + (mIx x)) (dW_at hj_76) rfl 2 (by decide) (dNw_fanswered hN) (fun _ h9 => h9) rfl (by decide +kernel) (by rfl) (by rfl) (Nat.le_of_ble_eq_true rfl) dX1_call_68 (fun H locs hP hD hS => ?_)
        have hP : va_P (dC, dI) vwCl (dW h qT qC qS qA qF cT cC cS cA cF ad n kd ok (upd cn (mIx x) z_82) (mTkC rc cz) (mTkS rs cz) an fl t0 t1 t2 t3 t4 t5) H := by rw [← dW_set_cn hj_76]; exact hP
        have hD : va_D A (dW h qT qC qS qA qF cT cC cS cA cF ad n kd ok (upd cn (mIx x) z_82) (mTkC rc cz) (mTkS rs cz) an fl t0 t1 t2 t3 t4 t5) := by rw [← dW_set_cn hj_76]; exact hD
        refine lv_aload_n hx hb dX1_call_71 rfl (lv_at hl 3 rfl) ?_
        refine lv_dup hx hb dX1_call_72 rfl ?_
        refine va_get (D := (dC, dI)) (ci := 1) (v := .int t5) (C := RX1) (T := TX1) (N := 12) hx hb hts iwX1_call_1 hown hK hP 0 rfl rfl 11 (by decide) (hts (.fieldLink RX1 48 "MainframeDesk" "answerCount" "I") (by decide +kernel)) (fun _ h9 => h9) rfl dX1_call_73 ?_
        refine lv_iconst (v := 1) hx hb dX1_call_76 (by decide) ?_
        refine lv_iadd hx hb dX1_call_77 ?_
        refine lv_topi (fun z_83 ez_83 => ?_)
        refine va_put (D := (dC, dI)) (ci := 1) (v := .int z_83) (ty := .int) (C := RX1) (T := TX1) (N := 12) hx hb hts iwX1_call_1 tyX1 tyX1_ok nmX1 hown hK hP hD hS 0 rfl rfl 11 (by decide) (hts (.fieldLink RX1 48 "MainframeDesk" "answerCount" "I") (by decide +kernel)) (fun _ h9 => h9) rfl (by decide +kernel) rfl rfl (Nat.le_of_ble_eq_true rfl) dX1_call_78 (fun H locs hP hD hS => ?_)
        have hP : va_P (dC, dI) vwCl (dW h qT qC qS qA qF cT cC cS cA cF ad n kd ok (upd cn (mIx x) z_82) (mTkC rc cz) (mTkS rs cz) an fl t0 t1 t2 t3 t4 z_83) H := hP
        have hD : va_D A (dW h qT qC qS qA qF cT cC cS cA cF ad n kd ok (upd cn (mIx x) z_82) (mTkC rc cz) (mTkS rs cz) an fl t0 t1 t2 t3 t4 z_83) := hD
        refine lv_goto (tgt := 96) hx hb dX1_call_81 (by decide) ?_
        refine lv_lload hx hb dX1_call_96 (lv_at hl 0 rfl) ?_
        exact W.lret (v := o_79) hx hb hr (fun t ht hW => ⟨⟨_, (n, kd, ok, upd cn (mIx x) z_82, mTkC rc cz, mTkS rs cz, an, fl, t0, t1, t2, t3, t4, z_83), rfl, (by subst er_77; subst eo_79; subst ev_80; subst ez_82; subst ez_83; unfold mCall; dsimp only; rw [if_pos hf_75, if_pos c_78, if_pos c_81]), by rw [ht]; exact hP, hD⟩, hS.F ht⟩) hS.2.2 dX1_call_98
    · refine lv_aload_n hx hb dX1_call_22 rfl (lv_at hl 2 rfl) ?_
      refine lv_dup hx hb dX1_call_23 rfl ?_
      refine va_get (D := (dC, dI)) (ci := 1) (v := .int t4) (C := RX1) (T := TX1) (N := 12) hx hb hts iwX1_call_1 hown hK hP 0 rfl rfl 10 (by decide) (hts (.fieldLink RX1 45 "MainframeDesk" "refusalCount" "I") (by decide +kernel)) (fun _ h9 => h9) rfl dX1_call_24 ?_
      refine lv_iconst (v := 1) hx hb dX1_call_27 (by decide) ?_
      refine lv_iadd hx hb dX1_call_28 ?_
      refine lv_topi (fun z_84 ez_84 => ?_)
      refine va_put (D := (dC, dI)) (ci := 1) (v := .int z_84) (ty := .int) (C := RX1) (T := TX1) (N := 12) hx hb hts iwX1_call_1 tyX1 tyX1_ok nmX1 hown hK hP hD hS 0 rfl rfl 10 (by decide) (hts (.fieldLink RX1 45 "MainframeDesk" "refusalCount" "I") (by decide +kernel)) (fun _ h9 => h9) rfl (by decide +kernel) rfl rfl (Nat.le_of_ble_eq_true rfl) dX1_call_29 (fun H locs hP hD hS => ?_)
      have hP : va_P (dC, dI) vwCl (dW h qT qC qS qA qF cT cC cS cA cF ad n kd ok cn rc rs an fl t0 t1 t2 t3 z_84 t5) H := hP
      have hD : va_D A (dW h qT qC qS qA qF cT cC cS cA cF ad n kd ok cn rc rs an fl t0 t1 t2 t3 z_84 t5) := hD
      refine lv_iload hx hb dX1_call_32 (lv_at hl 0 rfl) ?_
      refine lv_i2l (v := r_77.toInt64) hx hb dX1_call_34 rfl ?_
      exact W.lret (v := r_77.toInt64) hx hb hr (fun t ht hW => ⟨⟨_, (n, kd, ok, cn, rc, rs, an, fl, t0, t1, t2, t3, z_84, t5), rfl, (by subst er_77; subst ez_84; unfold mCall; dsimp only; rw [if_pos hf_75, if_neg c_78]), by rw [ht]; exact hP, hD⟩, hS.F ht⟩) hS.2.2 dX1_call_35
  · refine W.eq (g2 := F0 m 5 ls [.null]) rfl ?_
    refine lv_astoreN (lv' := [(5, .null), (0, .ref h), (1, .int cz), (2, .int x), (3, .long a)]) hx hb dX1_call_5 hl (by decide) rfl (fun ls hl => ?_)
    refine lv_aload_n hx hb dX1_call_7 rfl (lv_at hl 1 rfl) ?_
    refine lv_iload_n hx hb dX1_call_8 rfl (lv_at hl 2 rfl) ?_
    refine lv_aloadN hx hb dX1_call_9 (lv_at hl 0 rfl) ?_
    refine lv_lload_n hx hb dX1_call_11 rfl (lv_at hl 4 rfl) ?_
    refine vp_callSi (W.runV (As := [.int cz, .null, .long a]) (rest := []) ⟨hx, hb, hml, hown, hts⟩ (c_refusalN l dC dI h qT qC qS qA qF cT cC cS cA cF ad n kd ok cn rc rs an fl t0 t1 t2 t3 t4 t5 cz a) (cwV 3 hts gX1_call_X1_refusalOf rfl rfl rfl (by decide +kernel) ⟨Nat.le_of_ble_eq_true rfl, Nat.le_of_ble_eq_true rfl⟩) ⟨dP_bl, va_recv hK hP (ci := 1) (q0 := 0) rfl rfl, fun U hU hW => ⟨rfl, dP_at hU hW hP hK hN⟩⟩ rfl rfl hl.1 rfl (lv_room (Nat.le_of_ble_eq_true rfl)) dX1_call_12 ⟨Nat.le_of_ble_eq_true rfl, Nat.le_of_ble_eq_true rfl⟩) (fun r9 hr9 => ?_)
    subst hr9
    refine lv_istore (lv' := [(6, .int (-2)), (5, .null), (0, .ref h), (1, .int cz), (2, .int x), (3, .long a)]) hx hb dX1_call_15 hl (by decide) rfl (fun ls hl => ?_)
    refine lv_iload hx hb dX1_call_17 (lv_at hl 0 rfl) ?_
    refine lv_if_eq (tgt := 36) hx hb dX1_call_19 (by decide) (fun h => absurd h (by decide)) (fun _ => ?_)
    refine lv_aload_n hx hb dX1_call_22 rfl (lv_at hl 2 rfl) ?_
    refine lv_dup hx hb dX1_call_23 rfl ?_
    refine va_get (D := (dC, dI)) (ci := 1) (v := .int t4) (C := RX1) (T := TX1) (N := 12) hx hb hts iwX1_call_1 hown hK hP 0 rfl rfl 10 (by decide) (hts (.fieldLink RX1 45 "MainframeDesk" "refusalCount" "I") (by decide +kernel)) (fun _ h9 => h9) rfl dX1_call_24 ?_
    refine lv_iconst (v := 1) hx hb dX1_call_27 (by decide) ?_
    refine lv_iadd hx hb dX1_call_28 ?_
    refine lv_topi (fun z_86 ez_86 => ?_)
    refine va_put (D := (dC, dI)) (ci := 1) (v := .int z_86) (ty := .int) (C := RX1) (T := TX1) (N := 12) hx hb hts iwX1_call_1 tyX1 tyX1_ok nmX1 hown hK hP hD hS 0 rfl rfl 10 (by decide) (hts (.fieldLink RX1 45 "MainframeDesk" "refusalCount" "I") (by decide +kernel)) (fun _ h9 => h9) rfl (by decide +kernel) rfl rfl (Nat.le_of_ble_eq_true rfl) dX1_call_29 (fun H locs hP hD hS => ?_)
    have hP : va_P (dC, dI) vwCl (dW h qT qC qS qA qF cT cC cS cA cF ad n kd ok cn rc rs an fl t0 t1 t2 t3 z_86 t5) H := hP
    have hD : va_D A (dW h qT qC qS qA qF cT cC cS cA cF ad n kd ok cn rc rs an fl t0 t1 t2 t3 z_86 t5) := hD
    refine lv_iload hx hb dX1_call_32 (lv_at hl 0 rfl) ?_
    refine lv_i2l (v := ((-2) : Int32).toInt64) hx hb dX1_call_34 rfl ?_
    exact W.lret (v := ((-2) : Int32).toInt64) hx hb hr (fun t ht hW => ⟨⟨_, (n, kd, ok, cn, rc, rs, an, fl, t0, t1, t2, t3, z_86, t5), rfl, (by subst ez_86; unfold mCall; dsimp only; rw [if_neg hf_75]), by rw [ht]; exact hP, hD⟩, hS.F ht⟩) hS.2.2 dX1_call_35
