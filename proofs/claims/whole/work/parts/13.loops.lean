theorem iwX1_told_1 : ∀ w ∈ wsX10, w ∈ wsX1_told := fun _ h => List.mem_cons_of_mem _ (List.mem_append_right _ h)
set_option maxHeartbeats 1000000 in
set_option maxRecDepth 100000 in
/-- told(x) -/
theorem c_told (l : Launch) (dC : Nat → ClassId) (dI : Nat → Nat → Nat) (h qT qC qS qA qF : Nat) (cT cC cS cA cF : ClassId) (ad : Nat → Nat) (n : Nat) (kd ok cn rc : Nat → Int32) (rs an : Nat → Int64) (fl : Nat → Int32) (t0 t1 t2 t3 t4 t5 : Int32) (x : Int32) : Met l yX1_told wsX1_told ({ frames := 0, cells := 0, slots := 0, locals := 0 }) (va_Pc [.ref h, .int x] (dP dC dI [(cT, .object "MainframeDesk$Thing"), (cC, .int), (cS, .long), (cA, .long), (cF, .int)] (dW h qT qC qS qA qF cT cC cS cA cF ad n kd ok cn rc rs an fl t0 t1 t2 t3 t4 t5))) (vp_Si (fun r => r = mTold (n, kd, ok, cn, rc, rs, an, fl, t0, t1, t2, t3, t4, t5) x)) 0 0 (fun _ => False) := by
  refine Met.ofW (cc := cX1_told) (maxL := 2) (ret := (some .int)) (by decide) rfl ?_
  intro p e s m args below meth c s₁ B hml hv
  obtain ⟨rfl, hP, hK, hN⟩ := hv
  have hx := B.exec
  have hb := B.bytes
  have hr := B.returns
  have hts := atoms_spec (ws := wsX1_told) B.pre
  have hown : s.vm.findClass RX1 = some m.cls := findClass_of_methodNamed B.named
  have hlocks := B.notSynchronized
  have hl := lv_entry ([.ref h, .int x]) (n := 2) (Nat.le_of_ble_eq_true rfl)
  rw [lg_entry_eq]
  generalize (lg_sl ([.ref h, .int x]) ++ List.replicate (2 - (lg_sl ([.ref h, .int x])).length) Slot.unset).toArray = ls at hl ⊢
  have hl : lv_has ls 2 [(0, .ref h), (1, .int x)] := hl
  refine lv_iload_n hx hb dX1_told_0 rfl (lv_at hl 1 rfl) ?_
  by_cases hs_87 : x = 0
  · refine lv_tableIn (off := 39) (tgt := 40) hx hb dX1_told_1 (by rw [hs_87]; decide) (by rw [hs_87]; decide) (by rw [hs_87]; rfl) (by decide) ?_
    refine lv_aload_n hx hb dX1_told_40 rfl (lv_at hl 0 rfl) ?_
    refine va_get (D := (dC, dI)) (ci := 1) (v := .int t0) (C := RX1) (T := TX1) (N := 12) hx hb hts iwX1_told_1 hown hK hP 0 rfl rfl 6 (by decide) (hts (.fieldLink RX1 33 "MainframeDesk" "latestFailure" "I") (by decide +kernel)) (fun _ h9 => h9) rfl dX1_told_41 ?_
    exact W.iret (v := t0) hx hb hr (fun t ht hW => ⟨_, rfl, (by unfold mTold; dsimp only; rw [if_pos hs_87]), ht⟩) (fun _ h => absurd h List.not_mem_nil) dX1_told_44
  · by_cases hs_88 : x = 1
    · refine lv_tableIn (off := 44) (tgt := 45) hx hb dX1_told_1 (by rw [hs_88]; decide) (by rw [hs_88]; decide) (by rw [hs_88]; rfl) (by decide) ?_
      refine lv_aload_n hx hb dX1_told_45 rfl (lv_at hl 0 rfl) ?_
      refine va_get (D := (dC, dI)) (ci := 1) (v := .int t1) (C := RX1) (T := TX1) (N := 12) hx hb hts iwX1_told_1 hown hK hP 0 rfl rfl 7 (by decide) (hts (.fieldLink RX1 36 "MainframeDesk" "latestFailedCall" "I") (by decide +kernel)) (fun _ h9 => h9) rfl dX1_told_46 ?_
      exact W.iret (v := t1) hx hb hr (fun t ht hW => ⟨_, rfl, (by unfold mTold; dsimp only; rw [if_neg hs_87, if_pos hs_88]), ht⟩) (fun _ h => absurd h List.not_mem_nil) dX1_told_49
    · by_cases hs_89 : x = 2
      · refine lv_tableIn (off := 49) (tgt := 50) hx hb dX1_told_1 (by rw [hs_89]; decide) (by rw [hs_89]; decide) (by rw [hs_89]; rfl) (by decide) ?_
        refine lv_aload_n hx hb dX1_told_50 rfl (lv_at hl 0 rfl) ?_
        refine va_get (D := (dC, dI)) (ci := 1) (v := .int t2) (C := RX1) (T := TX1) (N := 12) hx hb hts iwX1_told_1 hown hK hP 0 rfl rfl 8 (by decide) (hts (.fieldLink RX1 39 "MainframeDesk" "latestEndedThing" "I") (by decide +kernel)) (fun _ h9 => h9) rfl dX1_told_51 ?_
        exact W.iret (v := t2) hx hb hr (fun t ht hW => ⟨_, rfl, (by unfold mTold; dsimp only; rw [if_neg hs_87, if_neg hs_88, if_pos hs_89]), ht⟩) (fun _ h => absurd h List.not_mem_nil) dX1_told_54
      · by_cases hs_90 : x = 3
        · refine lv_tableIn (off := 54) (tgt := 55) hx hb dX1_told_1 (by rw [hs_90]; decide) (by rw [hs_90]; decide) (by rw [hs_90]; rfl) (by decide) ?_
          refine lv_aload_n hx hb dX1_told_55 rfl (lv_at hl 0 rfl) ?_
          refine va_get (D := (dC, dI)) (ci := 1) (v := .int t3) (C := RX1) (T := TX1) (N := 12) hx hb hts iwX1_told_1 hown hK hP 0 rfl rfl 9 (by decide) (hts (.fieldLink RX1 42 "MainframeDesk" "failureCount" "I") (by decide +kernel)) (fun _ h9 => h9) rfl dX1_told_56 ?_
          exact W.iret (v := t3) hx hb hr (fun t ht hW => ⟨_, rfl, (by unfold mTold; dsimp only; rw [if_neg hs_87, if_neg hs_88, if_neg hs_89, if_pos hs_90]), ht⟩) (fun _ h => absurd h List.not_mem_nil) dX1_told_59
        · by_cases hs_91 : x = 4
          · refine lv_tableIn (off := 59) (tgt := 60) hx hb dX1_told_1 (by rw [hs_91]; decide) (by rw [hs_91]; decide) (by rw [hs_91]; rfl) (by decide) ?_
            refine lv_aload_n hx hb dX1_told_60 rfl (lv_at hl 0 rfl) ?_
            refine va_get (D := (dC, dI)) (ci := 1) (v := .int t4) (C := RX1) (T := TX1) (N := 12) hx hb hts iwX1_told_1 hown hK hP 0 rfl rfl 10 (by decide) (hts (.fieldLink RX1 45 "MainframeDesk" "refusalCount" "I") (by decide +kernel)) (fun _ h9 => h9) rfl dX1_told_61 ?_
            exact W.iret (v := t4) hx hb hr (fun t ht hW => ⟨_, rfl, (by unfold mTold; dsimp only; rw [if_neg hs_87, if_neg hs_88, if_neg hs_89, if_neg hs_90, if_pos hs_91]), ht⟩) (fun _ h => absurd h List.not_mem_nil) dX1_told_64
          · by_cases hs_92 : x = 5
            · refine lv_tableIn (off := 64) (tgt := 65) hx hb dX1_told_1 (by rw [hs_92]; decide) (by rw [hs_92]; decide) (by rw [hs_92]; rfl) (by decide) ?_
              refine lv_aload_n hx hb dX1_told_65 rfl (lv_at hl 0 rfl) ?_
              refine va_get (D := (dC, dI)) (ci := 1) (v := .int t5) (C := RX1) (T := TX1) (N := 12) hx hb hts iwX1_told_1 hown hK hP 0 rfl rfl 11 (by decide) (hts (.fieldLink RX1 48 "MainframeDesk" "answerCount" "I") (by decide +kernel)) (fun _ h9 => h9) rfl dX1_told_66 ?_
              exact W.iret (v := t5) hx hb hr (fun t ht hW => ⟨_, rfl, (by unfold mTold; dsimp only; rw [if_neg hs_87, if_neg hs_88, if_neg hs_89, if_neg hs_90, if_neg hs_91, if_pos hs_92]), ht⟩) (fun _ h => absurd h List.not_mem_nil) dX1_told_69
            · have q0 : ¬ x.toInt = 0 := lv_neT hs_87 (by decide)
              have q1 : ¬ x.toInt = 1 := lv_neT hs_88 (by decide)
              have q2 : ¬ x.toInt = 2 := lv_neT hs_89 (by decide)
              have q3 : ¬ x.toInt = 3 := lv_neT hs_90 (by decide)
              have q4 : ¬ x.toInt = 4 := lv_neT hs_91 (by decide)
              have q5 : ¬ x.toInt = 5 := lv_neT hs_92 (by decide)
              refine lv_tableOut (tgt := 70) hx hb dX1_told_1 (by omega) (by decide) ?_
              refine lv_iconst (v := (-1)) hx hb dX1_told_70 (by decide) ?_
              exact W.iret (v := (-1)) hx hb hr (fun t ht hW => ⟨_, rfl, (by unfold mTold; dsimp only; rw [if_neg hs_87, if_neg hs_88, if_neg hs_89, if_neg hs_90, if_neg hs_91, if_neg hs_92]), ht⟩) (fun _ h => absurd h List.not_mem_nil) dX1_told_71
theorem iwX1_numbers_1 : ∀ w ∈ wsX10, w ∈ wsX1_numbers := fun _ h => List.mem_cons_of_mem _ (List.mem_append_left _ (List.mem_append_right _ h))
theorem iwX1_numbers_0 : ∀ w ∈ wsX00, w ∈ wsX1_numbers := fun _ h => List.mem_cons_of_mem _ (List.mem_append_right _ h)
set_option maxHeartbeats 1000000 in
set_option maxRecDepth 100000 in
/-- numbers(k) -/
theorem c_numbers (l : Launch) (dC : Nat → ClassId) (dI : Nat → Nat → Nat) (h qT qC qS qA qF : Nat) (cT cC cS cA cF : ClassId) (ad : Nat → Nat) (n : Nat) (kd ok cn rc : Nat → Int32) (rs an : Nat → Int64) (fl : Nat → Int32) (t0 t1 t2 t3 t4 t5 : Int32) (hn : n ≤ 200) (k : Int32) : Met l yX1_numbers wsX1_numbers ({ frames := 1, cells := 0, slots := 0, locals := 21 }) (va_Pc [.ref h, .int k] (dP dC dI [(cT, .object "MainframeDesk$Thing"), (cC, .int), (cS, .long), (cA, .long), (cF, .int)] (dW h qT qC qS qA qF cT cC cS cA cF ad n kd ok cn rc rs an fl t0 t1 t2 t3 t4 t5))) (vp_Si (fun r => r = mNumbers (n, kd, ok, cn, rc, rs, an, fl, t0, t1, t2, t3, t4, t5) k)) 0 0 (fun _ => False) := by
  refine Met.ofW (cc := cX1_numbers) (maxL := 5) (ret := (some .int)) (by decide) rfl ?_
  intro p e s m args below meth c s₁ B hml hv
  obtain ⟨rfl, hP, hK, hN⟩ := hv
  have hx := B.exec
  have hb := B.bytes
  have hr := B.returns
  have hts := atoms_spec (ws := wsX1_numbers) B.pre
  have hown : s.vm.findClass RX1 = some m.cls := findClass_of_methodNamed B.named
  have hlocks := B.notSynchronized
  have hl := lv_entry ([.ref h, .int k]) (n := 5) (Nat.le_of_ble_eq_true rfl)
  rw [lg_entry_eq]
  generalize (lg_sl ([.ref h, .int k]) ++ List.replicate (5 - (lg_sl ([.ref h, .int k])).length) Slot.unset).toArray = ls at hl ⊢
  have hl : lv_has ls 5 [(0, .ref h), (1, .int k)] := hl
  refine lv_iload_n hx hb dX1_numbers_0 rfl (lv_at hl 1 rfl) ?_
  refine lv_bipush (v := 8) hx hb dX1_numbers_1 (by decide) ?_
  refine vp_callSi (W.runS (As := [.int k, .int 8]) (rest := []) ⟨hx, hb, hml, hown, hts⟩ (c_isWithin l k 8) (va_cwS 2 hts gX1_numbers_X1_isWithin rfl rfl rfl (by decide +kernel) ⟨Nat.le_of_ble_eq_true rfl, Nat.le_of_ble_eq_true rfl⟩) ⟨fun _ _ _ _ q => q, fun _ _ _ => ⟨rfl, trivial⟩⟩ rfl rfl hl.1 rfl (lv_room (Nat.le_of_ble_eq_true rfl)) dX1_numbers_3 ⟨Nat.le_of_ble_eq_true rfl, Nat.le_of_ble_eq_true rfl⟩) (fun r9 hr9 => ?_)
  rcases hr9 with ⟨hq_93, rfl⟩ | ⟨hq_93, rfl⟩
  · refine lv_if_ne (tgt := 11) hx hb dX1_numbers_6 (by decide) (fun _ => ?_) (fun h => absurd h (by decide))
    refine lv_iconst (v := 0) hx hb dX1_numbers_11 (by decide) ?_
    refine lv_istore_n (lv' := [(2, .int 0), (0, .ref h), (1, .int k)]) hx hb dX1_numbers_12 rfl hl (by decide) rfl (fun ls hl => ?_)
    refine lv_iconst (v := 1) hx hb dX1_numbers_13 (by decide) ?_
    refine lv_istore_n (lv' := [(3, .int 1), (2, .int 0), (0, .ref h), (1, .int k)]) hx hb dX1_numbers_14 rfl hl (by decide) rfl (fun ls hl => ?_)
    obtain ⟨x3, ex3⟩ : ∃ y : Int32, y = 1 := ⟨_, rfl⟩
    obtain ⟨x2, ex2⟩ : ∃ y : Int32, y = 0 := ⟨_, rfl⟩
    replace hl : lv_has ls 5 [(3, .int x3), (2, .int x2), (1, .int k), (0, .ref h)] := by rw [ex3, ex2]; exact lv_sub hl [0, 1, 3, 2] rfl
    obtain ⟨j, ej⟩ : ∃ j : Nat, j = 0 := ⟨_, rfl⟩
    have hx3 : x3 = nI (j + 1) := by rw [ej, ex3]; rfl
    have hx2 : x2 = mCnt kd ok k j := by rw [ej, ex2]; rfl
    have hjn : j ≤ n := by omega
    obtain ⟨f, hf⟩ : ∃ f : Nat, n - j = f := ⟨_, rfl⟩
    clear ex3 ex2 ej
    induction f generalizing j x3 x2 ls with
    | zero =>
      refine lv_iload_n hx hb dX1_numbers_15 rfl (lv_at hl 0 rfl) ?_
      refine lv_aload_n hx hb dX1_numbers_16 rfl (lv_at hl 3 rfl) ?_
      refine va_get (D := (dC, dI)) (ci := 1) (v := .int (nI n)) (C := RX1) (T := TX1) (N := 12) hx hb hts iwX1_numbers_1 hown hK hP 0 rfl rfl 1 (by decide) (hts (.fieldLink RX1 15 "MainframeDesk" "made" "I") (by decide +kernel)) (fun _ h9 => h9) rfl dX1_numbers_17 ?_
      refine lv_icmp_gt (tgt := 61) hx hb dX1_numbers_20 (by decide) (fun c_95 => ?_) (fun c_95 => ?_)
      · refine lv_iload_n hx hb dX1_numbers_61 rfl (lv_at hl 1 rfl) ?_
        exact W.iret (v := x2) hx hb hr (fun t ht hW => ⟨_, rfl, (by unfold mNumbers; dsimp only; rw [if_pos hq_93, hx2, show j = n by omega]), ht⟩) (fun _ h => absurd h List.not_mem_nil) dX1_numbers_62
      · exact absurd (by rw [hx3]; exact nI_lt (by omega) (by omega)) c_95
    | succ f ih =>
      refine lv_iload_n hx hb dX1_numbers_15 rfl (lv_at hl 0 rfl) ?_
      refine lv_aload_n hx hb dX1_numbers_16 rfl (lv_at hl 3 rfl) ?_
      refine va_get (D := (dC, dI)) (ci := 1) (v := .int (nI n)) (C := RX1) (T := TX1) (N := 12) hx hb hts iwX1_numbers_1 hown hK hP 0 rfl rfl 1 (by decide) (hts (.fieldLink RX1 15 "MainframeDesk" "made" "I") (by decide +kernel)) (fun _ h9 => h9) rfl dX1_numbers_17 ?_
      refine lv_icmp_gt (tgt := 61) hx hb dX1_numbers_20 (by decide) (fun c_96 => ?_) (fun c_96 => ?_)
      · exact absurd c_96 (by rw [hx3]; exact nI_nlt (by omega) (by omega))
      · refine lv_aload_n hx hb dX1_numbers_23 rfl (lv_at hl 3 rfl) ?_
        refine lv_iload_n hx hb dX1_numbers_24 rfl (lv_at hl 0 rfl) ?_
        refine va_csq (W.runV (As := [.int x3]) (rest := []) ⟨hx, hb, hml, hown, hts⟩ (c_find l dC dI h qT qC qS qA qF cT cC cS cA cF ad n kd ok cn rc rs an fl t0 t1 t2 t3 t4 t5 hn x3) (cwV 1 hts gX1_numbers_X1_find rfl rfl rfl (by decide +kernel) ⟨Nat.le_of_ble_eq_true rfl, Nat.le_of_ble_eq_true rfl⟩) ⟨dP_bl, va_recv hK hP (ci := 1) (q0 := 0) rfl rfl, fun U hU hW => ⟨rfl, dP_at hU hW hP hK hN⟩⟩ rfl rfl hl.1 rfl (lv_room (Nat.le_of_ble_eq_true rfl)) dX1_numbers_25 ⟨Nat.le_of_ble_eq_true rfl, Nat.le_of_ble_eq_true rfl⟩) (fun r9 hr9 => ?_)
        rcases hr9 with ⟨hf_97, rfl⟩ | ⟨hf_97, rfl⟩
        · refine W.eq (g2 := F0 m 28 ls [.ref (ad (mIx x3))]) rfl ?_
          obtain ⟨hj_98, hj_981, hj_982⟩ := kx_ix hn hf_97
          refine lv_astore (lv' := [(4, .ref (ad (mIx x3))), (3, .int x3), (2, .int x2), (1, .int k), (0, .ref h)]) hx hb dX1_numbers_28 hl (by decide) rfl (fun ls hl => ?_)
          refine lv_aload hx hb dX1_numbers_30 (lv_at hl 0 rfl) ?_
          refine lv_ifnull hx hb dX1_numbers_32 ?_
          refine lv_aload hx hb dX1_numbers_35 (lv_at hl 0 rfl) ?_
          refine va_getN (D := (dC, dI)) (ci := 0) (v := .int (ok (mIx x3))) (C := RX0) (T := TX0) (N := 3) hx hb hts iwX1_numbers_0 hown hK hP (6 + (mIx x3)) (dW_at hj_98) rfl 1 (by decide) (dNw_fthere hN) (fun _ h9 => h9) rfl dX1_numbers_37 ?_
          refine lv_if_eq (tgt := 55) hx hb dX1_numbers_40 (by decide) (fun c_99 => ?_) (fun c_99 => ?_)
          · have ej : mIx x3 = j := by
              have e1 : nI (j + 1) = nI (mIx x3 + 1) := hx3.symm.trans hj_982
              have e2 := (nI_eq (a := j + 1) (b := mIx x3 + 1) (by omega) (by omega)).mp e1
              omega
            rw [ej] at c_99
            obtain ⟨i_100, ei_100⟩ : ∃ y : Int32, y = x3 + 1 := ⟨_, rfl⟩
            refine lv_iinc (v := i_100) (lv' := [(3, .int i_100), (4, .ref (ad (mIx x3))), (2, .int x2), (1, .int k), (0, .ref h)]) hx hb dX1_numbers_55 hl (k := 1) rfl (by rw [ei_100]; rfl) (by decide) rfl (fun ls hl => ?_)
            refine lv_goto (tgt := 15) hx hb dX1_numbers_58 (by decide) ?_
            exact ih (j := j + 1) (x3 := i_100) (x2 := x2) (ls := ls) (hl := lv_sub hl [0, 2, 3, 4] rfl) (hx3 := by rw [ei_100, hx3]; exact nI_1 (j + 1)) (hx2 := by unfold mCnt; rw [if_neg (fun q => q.1 c_99)]; exact hx2) (hjn := by omega) (hf := by omega)
          · refine lv_aload hx hb dX1_numbers_43 (lv_at hl 0 rfl) ?_
            refine va_getN (D := (dC, dI)) (ci := 0) (v := .int (kd (mIx x3))) (C := RX0) (T := TX0) (N := 3) hx hb hts iwX1_numbers_0 hown hK hP (6 + (mIx x3)) (dW_at hj_98) rfl 0 (by decide) (dNw_fkind hN) (fun _ h9 => h9) rfl dX1_numbers_45 ?_
            refine lv_iload_n hx hb dX1_numbers_48 rfl (lv_at hl 3 rfl) ?_
            refine lv_icmp_ne (tgt := 55) hx hb dX1_numbers_49 (by decide) (fun c_101 => ?_) (fun c_101 => ?_)
            · have ej : mIx x3 = j := by
                have e1 : nI (j + 1) = nI (mIx x3 + 1) := hx3.symm.trans hj_982
                have e2 := (nI_eq (a := j + 1) (b := mIx x3 + 1) (by omega) (by omega)).mp e1
                omega
              rw [ej] at c_99
              rw [ej] at c_101
              obtain ⟨i_102, ei_102⟩ : ∃ y : Int32, y = x3 + 1 := ⟨_, rfl⟩
              refine lv_iinc (v := i_102) (lv' := [(3, .int i_102), (4, .ref (ad (mIx x3))), (2, .int x2), (1, .int k), (0, .ref h)]) hx hb dX1_numbers_55 hl (k := 1) rfl (by rw [ei_102]; rfl) (by decide) rfl (fun ls hl => ?_)
              refine lv_goto (tgt := 15) hx hb dX1_numbers_58 (by decide) ?_
              exact ih (j := j + 1) (x3 := i_102) (x2 := x2) (ls := ls) (hl := lv_sub hl [0, 2, 3, 4] rfl) (hx3 := by rw [ei_102, hx3]; exact nI_1 (j + 1)) (hx2 := by unfold mCnt; rw [if_neg (fun q => c_101 q.2)]; exact hx2) (hjn := by omega) (hf := by omega)
            · obtain ⟨i_103, ei_103⟩ : ∃ y : Int32, y = x2 + 1 := ⟨_, rfl⟩
              refine lv_iinc (v := i_103) (lv' := [(2, .int i_103), (4, .ref (ad (mIx x3))), (3, .int x3), (1, .int k), (0, .ref h)]) hx hb dX1_numbers_52 hl (k := 2) rfl (by rw [ei_103]; rfl) (by decide) rfl (fun ls hl => ?_)
              have ej : mIx x3 = j := by
                have e1 : nI (j + 1) = nI (mIx x3 + 1) := hx3.symm.trans hj_982
                have e2 := (nI_eq (a := j + 1) (b := mIx x3 + 1) (by omega) (by omega)).mp e1
                omega
              rw [ej] at c_99
              rw [ej] at c_101
              obtain ⟨i_104, ei_104⟩ : ∃ y : Int32, y = x3 + 1 := ⟨_, rfl⟩
              refine lv_iinc (v := i_104) (lv' := [(3, .int i_104), (2, .int i_103), (4, .ref (ad (mIx x3))), (1, .int k), (0, .ref h)]) hx hb dX1_numbers_55 hl (k := 2) rfl (by rw [ei_104]; rfl) (by decide) rfl (fun ls hl => ?_)
              refine lv_goto (tgt := 15) hx hb dX1_numbers_58 (by decide) ?_
              exact ih (j := j + 1) (x3 := i_104) (x2 := i_103) (ls := ls) (hl := lv_sub hl [0, 1, 3, 4] rfl) (hx3 := by rw [ei_104, hx3]; exact nI_1 (j + 1)) (hx2 := by unfold mCnt; rw [if_pos ⟨c_99, c_101⟩, ei_103, hx2]) (hjn := by omega) (hf := by omega)
        · refine W.eq (g2 := F0 m 28 ls [.null]) rfl ?_
          refine lv_astoreN (lv' := [(4, .null), (3, .int x3), (2, .int x2), (1, .int k), (0, .ref h)]) hx hb dX1_numbers_28 hl (by decide) rfl (fun ls hl => ?_)
          refine lv_aloadN hx hb dX1_numbers_30 (lv_at hl 0 rfl) ?_
          refine lv_ifnullN (tgt := 55) hx hb dX1_numbers_32 (by decide) ?_
          exact absurd ⟨by rw [hx3]; exact (nI_leI (a := 1) (by omega) (by omega)).mpr (by omega), by rw [hx3]; exact nI_le (by omega) (by omega)⟩ hf_97
  · refine lv_if_ne (tgt := 11) hx hb dX1_numbers_6 (by decide) (fun h => absurd h (by decide)) (fun _ => ?_)
    refine lv_iconst (v := (-1)) hx hb dX1_numbers_9 (by decide) ?_
    exact W.iret (v := (-1)) hx hb hr (fun t ht hW => ⟨_, rfl, (by unfold mNumbers; dsimp only; rw [if_neg hq_93]), ht⟩) (fun _ h => absurd h List.not_mem_nil) dX1_numbers_10
