theorem kx_agN {n : Nat} {kd ok cn rc : Nat → Int32} {rs an : Nat → Int64} {fl : Nat → Int32} {t0 t1 t2 t3 t4 t5 : Int32} {c x : Int32} {a : Int64} (h : ¬ mRefX n kd ok rc c x a = 0) : (mRefX n kd ok rc c x a).toInt64 = mAgain (n, kd, ok, cn, rc, rs, an, fl, t0, t1, t2, t3, t4, t5) c x a := by
  unfold mRefX at h ⊢
  unfold mAgain
  dsimp only
  by_cases hx : 1 ≤ x ∧ x ≤ nI n
  · rw [if_pos hx] at h ⊢
    rw [if_pos hx, if_neg h]
  · rw [if_neg hx, if_neg hx]
theorem kx_ag0 {n : Nat} {kd ok cn rc : Nat → Int32} {rs an : Nat → Int64} {fl : Nat → Int32} {t0 t1 t2 t3 t4 t5 : Int32} {c x : Int32} {a : Int64} (h : mRefX n kd ok rc c x a = 0) : mAgain (n, kd, ok, cn, rc, rs, an, fl, t0, t1, t2, t3, t4, t5) c x a = mOut rs an fl (kd (mIx x)) (cn (mIx x)) c a := by
  obtain ⟨h1, h2⟩ := kx_x0 h
  unfold mAgain
  dsimp only
  rw [if_pos h1, if_pos h2]
theorem kx_caN {n : Nat} {kd ok cn rc : Nat → Int32} {rs an : Nat → Int64} {fl : Nat → Int32} {t0 t1 t2 t3 t4 t5 : Int32} {c x : Int32} {a : Int64} (h : ¬ mRefX n kd ok rc c x a = 0) : mCall (n, kd, ok, cn, rc, rs, an, fl, t0, t1, t2, t3, t4, t5) c x a = (mAgain (n, kd, ok, cn, rc, rs, an, fl, t0, t1, t2, t3, t4, t5) c x a, (n, kd, ok, cn, rc, rs, an, fl, t0, t1, t2, t3, t4 + 1, t5)) := by
  unfold mRefX at h
  unfold mCall mAgain
  dsimp only
  by_cases hx : 1 ≤ x ∧ x ≤ nI n
  · rw [if_pos hx] at h
    rw [if_pos hx, if_pos hx, if_neg h, if_neg h]
  · rw [if_neg hx, if_neg hx]
theorem kx_ca0 {n : Nat} {kd ok cn rc : Nat → Int32} {rs an : Nat → Int64} {fl : Nat → Int32} {t0 t1 t2 t3 t4 t5 : Int32} {c x : Int32} {a : Int64} (h : mRefX n kd ok rc c x a = 0) : mCall (n, kd, ok, cn, rc, rs, an, fl, t0, t1, t2, t3, t4, t5) c x a = (mAgain (n, kd, ok, cn, rc, rs, an, fl, t0, t1, t2, t3, t4, t5) c x a, if fl c.toNatClampNeg = 0 then (n, kd, ok, upd cn (mIx x) (cn (mIx x) + 1), mTkC rc c, mTkS rs c, an, fl, t0, t1, t2, t3, t4, t5 + 1) else (n, kd, upd ok (mIx x) 0, cn, mTkC rc c, mTkS rs c, an, fl, fl c.toNatClampNeg, c, x, t3 + 1, t4, t5)) := by
  obtain ⟨h1, h2⟩ := kx_x0 h
  unfold mCall mAgain
  dsimp only
  rw [if_pos h1, if_pos h1, if_pos h2, if_pos h2]
theorem kx_wy {n : Nat} {kd ok cn rc : Nat → Int32} {rs an : Nat → Int64} {fl : Nat → Int32} {t0 t1 t2 t3 t4 t5 : Int32} {c x : Int32} {a : Int64} {w : Int32} (h : mWay (n, kd, ok, cn, rc, rs, an, fl, t0, t1, t2, t3, t4, t5) c x a = w) : (¬ mRefX n kd ok rc c x a = 0 ∧ w = 2) ∨ (mRefX n kd ok rc c x a = 0 ∧ fl c.toNatClampNeg = 0 ∧ w = 0) ∨ (mRefX n kd ok rc c x a = 0 ∧ ¬ fl c.toNatClampNeg = 0 ∧ w = 1) := by
  subst h
  unfold mWay
  dsimp only
  by_cases h1 : mRefX n kd ok rc c x a = 0
  · by_cases h2 : fl c.toNatClampNeg = 0
    · exact Or.inr (Or.inl ⟨h1, h2, by rw [if_pos h1, if_pos h2]⟩)
    · exact Or.inr (Or.inr ⟨h1, h2, by rw [if_pos h1, if_neg h2]⟩)
  · exact Or.inl ⟨h1, by rw [if_neg h1]⟩
theorem iwX2_reckoned : ∀ w ∈ wsX20, w ∈ wsX2_reckoned := fun _ h => List.mem_cons_of_mem _ (List.mem_append_right _ h)
set_option maxHeartbeats 1000000 in
set_option maxRecDepth 100000 in
/-- reckoned(c, x, a) -/
theorem r_reckoned (l : Launch) (dC : Nat → ClassId) (dI : Nat → Nat → Nat) (h qs qm qa qf qk qt qd : Nat) (cs cm ca cf ck ct cd : ClassId) (n : Nat) (kd ok cn rc : Nat → Int32) (rs an : Nat → Int64) (fl : Nat → Int32) (t0 t1 t2 t3 t4 t5 th wy : Int32) (hn : n ≤ 200) (sz : Nat) (cz x : Int32) (a : Int64) : Met l yX2_reckoned wsX2_reckoned ({ frames := 2, cells := 0, slots := 0, locals := 45 }) (va_Pc [.ref h, .int cz, .int x, .long a] (rQ dC dI [(cs, .long), (cm, .int), (ca, .long), (cf, .int), (ck, .int), (ct, .boolean), (cd, .long)] (rW h qs qm qa qf qk qt qd cs cm ca cf ck ct cd n kd ok cn rc rs an fl t0 t1 t2 t3 t4 t5 th wy) sz)) (va_Ql (fun (r : Int64) (u : dM × Int32 × Int32) => r = mAgain (n, kd, ok, cn, rc, rs, an, fl, t0, t1, t2, t3, t4, t5) cz x a ∧ u = ((n, kd, ok, cn, rc, rs, an, fl, t0, t1, t2, t3, t4, t5), th, mWay (n, kd, ok, cn, rc, rs, an, fl, t0, t1, t2, t3, t4, t5) cz x a)) (fun u t => dAt dC dI (rWm h qs qm qa qf qk qt qd cs cm ca cf ck ct cd u) (va_A (rW h qs qm qa qf qk qt qd cs cm ca cf ck ct cd n kd ok cn rc rs an fl t0 t1 t2 t3 t4 t5 th wy) sz) t) (va_A (rW h qs qm qa qf qk qt qd cs cm ca cf ck ct cd n kd ok cn rc rs an fl t0 t1 t2 t3 t4 t5 th wy) sz)) 0 0 (va_A (rW h qs qm qa qf qk qt qd cs cm ca cf ck ct cd n kd ok cn rc rs an fl t0 t1 t2 t3 t4 t5 th wy) sz) := by
  refine Met.ofW (cc := cX2_reckoned) (maxL := 7) (ret := (some .long)) (by decide) rfl ?_
  intro p e s m args below meth c s₁ B hml hv
  obtain ⟨rfl, hsz, hP, hK, hD0⟩ := hv
  have hx := B.exec
  have hb := B.bytes
  have hr := B.returns
  have hts := atoms_spec (ws := wsX2_reckoned) B.pre
  have hown : s.vm.findClass RX2 = some m.cls := findClass_of_methodNamed B.named
  have hlocks := B.notSynchronized
  subst hsz
  have hD := hD0.self (sz := s.heap.size)
  generalize hAe : va_A (rW h qs qm qa qf qk qt qd cs cm ca cf ck ct cd n kd ok cn rc rs an fl t0 t1 t2 t3 t4 t5 th wy) s.heap.size = A at hD ⊢
  have hA : ∀ q : Nat, s.heap.size ≤ q → A q := fun q h => by rw [← hAe]; exact Or.inr h
  have hS : va_S A s.heap s.heap [] := va_S.rf
  have hl := lv_entry ([.ref h, .int cz, .int x, .long a]) (n := 7) (Nat.le_of_ble_eq_true rfl)
  rw [lg_entry_eq]
  generalize (lg_sl ([.ref h, .int cz, .int x, .long a]) ++ List.replicate (7 - (lg_sl ([.ref h, .int cz, .int x, .long a])).length) Slot.unset).toArray = ls at hl ⊢
  have hl : lv_has ls 7 [(0, .ref h), (1, .int cz), (2, .int x), (3, .long a)] := hl
  refine lv_aload_n hx hb dX2_reckoned_0 rfl (lv_at hl 0 rfl) ?_
  refine lv_iload_n hx hb dX2_reckoned_1 rfl (lv_at hl 1 rfl) ?_
  refine lv_iload_n hx hb dX2_reckoned_2 rfl (lv_at hl 2 rfl) ?_
  refine lv_lload_n hx hb dX2_reckoned_3 rfl (lv_at hl 3 rfl) ?_
  refine vp_callSi (W.runV (As := [.int cz, .int x, .long a]) (rest := []) ⟨hx, hb, hml, hown, hts⟩ (r_refusal l dC dI h qs qm qa qf qk qt qd cs cm ca cf ck ct cd n kd ok cn rc rs an fl t0 t1 t2 t3 t4 t5 th wy hn cz x a) (cwV 3 hts gX2_reckoned_X2_refusal rfl rfl rfl (by decide +kernel) ⟨Nat.le_of_ble_eq_true rfl, Nat.le_of_ble_eq_true rfl⟩) ⟨rP_bl, va_recv hK hP (ci := 2) (q0 := 0) rfl rfl, fun U hU hW => ⟨rfl, rP_at hU hW hP hK⟩⟩ rfl rfl hl.1 rfl (lv_room (Nat.le_of_ble_eq_true rfl)) dX2_reckoned_4 ⟨Nat.le_of_ble_eq_true rfl, Nat.le_of_ble_eq_true rfl⟩) (fun r_126 er_126 => ?_)
  refine lv_istore (lv' := [(5, .int r_126), (0, .ref h), (1, .int cz), (2, .int x), (3, .long a)]) hx hb dX2_reckoned_7 hl (by decide) rfl (fun ls hl => ?_)
  refine lv_aload_n hx hb dX2_reckoned_9 rfl (lv_at hl 1 rfl) ?_
  refine lv_iload hx hb dX2_reckoned_10 (lv_at hl 0 rfl) ?_
  refine lv_if_eq (tgt := 19) hx hb dX2_reckoned_12 (by decide) (fun c_127 => ?_) (fun c_127 => ?_)
  · have hr0 : mRefX n kd ok rc cz x a = 0 := er_126.symm.trans c_127
    obtain ⟨hxx, hrf⟩ := kx_x0 hr0
    have hc := kx_refc hrf
    refine lv_aload_n hx hb dX2_reckoned_19 rfl (lv_at hl 1 rfl) ?_
    refine va_get (D := (dC, dI)) (ci := 2) (v := .ref qf) (C := RX2) (T := TX2) (N := 16) hx hb hts iwX2_reckoned hown hK hP 0 rfl rfl 3 (by decide) (hts (.fieldLink RX2 20 "MainframeDeskModel" "failures" "[I") (by decide +kernel)) (fun _ h9 => h9) rfl dX2_reckoned_20 ?_
    refine lv_iload_n hx hb dX2_reckoned_23 rfl (lv_at hl 2 rfl) ?_
    refine va_iald hx hb hK hP 4 3 rfl rfl (kx_in hc (by decide)) dX2_reckoned_24 ?_
    refine lv_topi (fun v_128 ev_128 => ?_)
    refine lv_if_eq (tgt := 32) hx hb dX2_reckoned_25 (by decide) (fun c_129 => ?_) (fun c_129 => ?_)
    · refine lv_iconst (v := 0) hx hb dX2_reckoned_32 (by decide) ?_
      refine va_put (D := (dC, dI)) (ci := 2) (v := .int 0) (ty := .int) (C := RX2) (T := TX2) (N := 16) hx hb hts iwX2_reckoned tyX2 tyX2_ok nmX2 hown hK hP hD hS 0 rfl rfl 15 (by decide) (hts (.fieldLink RX2 54 "MainframeDeskModel" "way" "I") (by decide +kernel)) (fun _ h9 => h9) rfl (by decide +kernel) rfl rfl (Nat.le_of_ble_eq_true rfl) dX2_reckoned_33 (fun H locs hP hD hS => ?_)
      have hP : va_P (dC, dI) vwCl (rW h qs qm qa qf qk qt qd cs cm ca cf ck ct cd n kd ok cn rc rs an fl t0 t1 t2 t3 t4 t5 th 0) H := hP
      have hD : va_D A (rW h qs qm qa qf qk qt qd cs cm ca cf ck ct cd n kd ok cn rc rs an fl t0 t1 t2 t3 t4 t5 th 0) := hD
      refine lv_aload_n hx hb dX2_reckoned_36 rfl (lv_at hl 1 rfl) ?_
      refine va_get (D := (dC, dI)) (ci := 2) (v := .int 0) (C := RX2) (T := TX2) (N := 16) hx hb hts iwX2_reckoned hown hK hP 0 rfl rfl 15 (by decide) (hts (.fieldLink RX2 54 "MainframeDeskModel" "way" "I") (by decide +kernel)) (fun _ h9 => h9) rfl dX2_reckoned_37 ?_
      refine lv_iconst (v := 2) hx hb dX2_reckoned_40 (by decide) ?_
      refine lv_icmp_ne (tgt := 48) hx hb dX2_reckoned_41 (by decide) (fun _ => ?_) (fun h => absurd h (by decide))
      refine lv_aload_n hx hb dX2_reckoned_48 rfl (lv_at hl 1 rfl) ?_
      refine va_get (D := (dC, dI)) (ci := 2) (v := .int 0) (C := RX2) (T := TX2) (N := 16) hx hb hts iwX2_reckoned hown hK hP 0 rfl rfl 15 (by decide) (hts (.fieldLink RX2 54 "MainframeDeskModel" "way" "I") (by decide +kernel)) (fun _ h9 => h9) rfl dX2_reckoned_49 ?_
      refine lv_iconst (v := 1) hx hb dX2_reckoned_52 (by decide) ?_
      refine lv_icmp_ne (tgt := 67) hx hb dX2_reckoned_53 (by decide) (fun _ => ?_) (fun h => absurd h (by decide))
      refine lv_iload_n hx hb dX2_reckoned_67 rfl (lv_at hl 2 rfl) ?_
      refine vp_callSi (W.runS (As := [.int cz]) (rest := []) ⟨hx, hb, hml, hown, hts⟩ (r_rowOf l cz) (va_cwS 1 hts gX2_reckoned_X2_rowOf rfl rfl rfl (by decide +kernel) ⟨Nat.le_of_ble_eq_true rfl, Nat.le_of_ble_eq_true rfl⟩) ⟨fun _ _ _ _ q => q, fun _ _ _ => ⟨rfl, trivial⟩⟩ rfl rfl hl.1 rfl (lv_room (Nat.le_of_ble_eq_true rfl)) dX2_reckoned_68 ⟨Nat.le_of_ble_eq_true rfl, Nat.le_of_ble_eq_true rfl⟩) (fun r9 hr9 => ?_)
      rcases hr9 with ⟨h8_132, rfl⟩ | ⟨h8_132, rfl⟩
      · refine lv_istore (lv' := [(6, .int (mW4 cz)), (5, .int r_126), (0, .ref h), (1, .int cz), (2, .int x), (3, .long a)]) hx hb dX2_reckoned_71 hl (by decide) rfl (fun ls hl => ?_)
        refine lv_aload_n hx hb dX2_reckoned_73 rfl (lv_at hl 2 rfl) ?_
        refine va_get (D := (dC, dI)) (ci := 2) (v := .ref qa) (C := RX2) (T := TX2) (N := 16) hx hb hts iwX2_reckoned hown hK hP 0 rfl rfl 2 (by decide) (hts (.fieldLink RX2 17 "MainframeDeskModel" "answers" "[J") (by decide +kernel)) (fun _ h9 => h9) rfl dX2_reckoned_74 ?_
        refine lv_iload_n hx hb dX2_reckoned_77 rfl (lv_at hl 3 rfl) ?_
        refine va_lald hx hb hK hP 3 2 rfl rfl (kx_in hc (by decide)) dX2_reckoned_78 ?_
        refine lv_topl (fun v_142 ev_142 => ?_)
        refine lv_lload_n hx hb dX2_reckoned_79 rfl (lv_at hl 5 rfl) ?_
        refine lv_ladd hx hb dX2_reckoned_80 ?_
        refine lv_topl (fun z_143 ez_143 => ?_)
        refine lv_iload hx hb dX2_reckoned_81 (lv_at hl 0 rfl) ?_
        refine lv_iconst (v := (-1)) hx hb dX2_reckoned_83 (by decide) ?_
        refine lv_icmp_ne (tgt := 91) hx hb dX2_reckoned_84 (by decide) (fun c_144 => ?_) (fun c_144 => ?_)
        · refine lv_aload_n hx hb dX2_reckoned_91 rfl (lv_at hl 2 rfl) ?_
          refine va_get (D := (dC, dI)) (ci := 2) (v := .ref qs) (C := RX2) (T := TX2) (N := 16) hx hb hts iwX2_reckoned hown hK hP 0 rfl rfl 0 (by decide) (hts (.fieldLink RX2 7 "MainframeDeskModel" "sum" "[J") (by decide +kernel)) (fun _ h9 => h9) rfl dX2_reckoned_92 ?_
          refine lv_iload hx hb dX2_reckoned_95 (lv_at hl 0 rfl) ?_
          refine va_lald hx hb hK hP 1 0 rfl rfl (kx_w4 hc) dX2_reckoned_97 ?_
          refine lv_topl (fun v_145 ev_145 => ?_)
          refine lv_ladd hx hb dX2_reckoned_98 ?_
          refine lv_topl (fun z_146 ez_146 => ?_)
          refine lv_aload_n hx hb dX2_reckoned_99 rfl (lv_at hl 2 rfl) ?_
          refine va_get (D := (dC, dI)) (ci := 2) (v := .ref qk) (C := RX2) (T := TX2) (N := 16) hx hb hts iwX2_reckoned hown hK hP 0 rfl rfl 4 (by decide) (hts (.fieldLink RX2 23 "MainframeDeskModel" "kind" "[I") (by decide +kernel)) (fun _ h9 => h9) rfl dX2_reckoned_100 ?_
          refine lv_iload_n hx hb dX2_reckoned_103 rfl (lv_at hl 4 rfl) ?_
          refine lv_iconst (v := 1) hx hb dX2_reckoned_104 (by decide) ?_
          refine lv_isub hx hb dX2_reckoned_105 ?_
          refine va_iald hx hb hK hP 5 4 rfl rfl (kx_ix2 hn hxx) dX2_reckoned_106 ?_
          refine lv_topi (fun v_147 ev_147 => ?_)
          replace ev_147 : v_147 = kd (mIx x) := ev_147
          refine lv_iconst (v := 3) hx hb dX2_reckoned_107 (by decide) ?_
          refine lv_icmp_ne (tgt := 122) hx hb dX2_reckoned_108 (by decide) (fun c_148 => ?_) (fun c_148 => ?_)
          · refine lv_lconst (v := 0) hx hb dX2_reckoned_122 (by decide) ?_
            refine lv_ladd hx hb dX2_reckoned_123 ?_
            refine lv_topl (fun z_149 ez_149 => ?_)
            exact W.lret (v := z_149) hx hb hr (fun t ht hW => ⟨⟨_, ((n, kd, ok, cn, rc, rs, an, fl, t0, t1, t2, t3, t4, t5), th, 0), rfl, (by subst ev_128; subst ev_142; subst ez_143; subst ev_145; subst ez_146; subst ev_147; subst ez_149; refine ⟨?_, congrArg (fun z => ((n, kd, ok, cn, rc, rs, an, fl, t0, t1, t2, t3, t4, t5), th, z)) (by unfold mWay; dsimp only; rw [if_pos hr0, if_pos c_129])⟩; rw [kx_ag0 hr0]; unfold mOut; rw [if_pos c_129, if_neg c_148, if_pos h8_132]; simp only [mL, Int64.add_zero]), by rw [ht]; exact hP, hD⟩, hS.F ht⟩) hS.2.2 dX2_reckoned_124
          · refine lv_aload_n hx hb dX2_reckoned_111 rfl (lv_at hl 2 rfl) ?_
            refine va_get (D := (dC, dI)) (ci := 2) (v := .ref qd) (C := RX2) (T := TX2) (N := 16) hx hb hts iwX2_reckoned hown hK hP 0 rfl rfl 6 (by decide) (hts (.fieldLink RX2 30 "MainframeDeskModel" "answered" "[J") (by decide +kernel)) (fun _ h9 => h9) rfl dX2_reckoned_112 ?_
            refine lv_iload_n hx hb dX2_reckoned_115 rfl (lv_at hl 4 rfl) ?_
            refine lv_iconst (v := 1) hx hb dX2_reckoned_116 (by decide) ?_
            refine lv_isub hx hb dX2_reckoned_117 ?_
            refine va_lald hx hb hK hP 7 6 rfl rfl (kx_ix2 hn hxx) dX2_reckoned_118 ?_
            refine lv_topl (fun v_150 ev_150 => ?_)
            replace ev_150 : v_150 = (mL cn) (mIx x) := ev_150
            refine lv_goto (tgt := 123) hx hb dX2_reckoned_119 (by decide) ?_
            refine lv_ladd hx hb dX2_reckoned_123 ?_
            refine lv_topl (fun z_151 ez_151 => ?_)
            exact W.lret (v := z_151) hx hb hr (fun t ht hW => ⟨⟨_, ((n, kd, ok, cn, rc, rs, an, fl, t0, t1, t2, t3, t4, t5), th, 0), rfl, (by subst ev_128; subst ev_142; subst ez_143; subst ev_145; subst ez_146; subst ev_147; subst ev_150; subst ez_151; refine ⟨?_, congrArg (fun z => ((n, kd, ok, cn, rc, rs, an, fl, t0, t1, t2, t3, t4, t5), th, z)) (by unfold mWay; dsimp only; rw [if_pos hr0, if_pos c_129])⟩; rw [kx_ag0 hr0]; unfold mOut; rw [if_pos c_129, if_pos c_148, if_pos h8_132]; simp only [mL, Int64.add_zero]), by rw [ht]; exact hP, hD⟩, hS.F ht⟩) hS.2.2 dX2_reckoned_124
        · exact absurd c_144 (kx_w4n hc)
      · refine lv_istore (lv' := [(6, .int (-1)), (5, .int r_126), (0, .ref h), (1, .int cz), (2, .int x), (3, .long a)]) hx hb dX2_reckoned_71 hl (by decide) rfl (fun ls hl => ?_)
        refine lv_aload_n hx hb dX2_reckoned_73 rfl (lv_at hl 2 rfl) ?_
        refine va_get (D := (dC, dI)) (ci := 2) (v := .ref qa) (C := RX2) (T := TX2) (N := 16) hx hb hts iwX2_reckoned hown hK hP 0 rfl rfl 2 (by decide) (hts (.fieldLink RX2 17 "MainframeDeskModel" "answers" "[J") (by decide +kernel)) (fun _ h9 => h9) rfl dX2_reckoned_74 ?_
        refine lv_iload_n hx hb dX2_reckoned_77 rfl (lv_at hl 3 rfl) ?_
        refine va_lald hx hb hK hP 3 2 rfl rfl (kx_in hc (by decide)) dX2_reckoned_78 ?_
        refine lv_topl (fun v_133 ev_133 => ?_)
        refine lv_lload_n hx hb dX2_reckoned_79 rfl (lv_at hl 5 rfl) ?_
        refine lv_ladd hx hb dX2_reckoned_80 ?_
        refine lv_topl (fun z_134 ez_134 => ?_)
        refine lv_iload hx hb dX2_reckoned_81 (lv_at hl 0 rfl) ?_
        refine lv_iconst (v := (-1)) hx hb dX2_reckoned_83 (by decide) ?_
        refine lv_icmp_ne (tgt := 91) hx hb dX2_reckoned_84 (by decide) (fun h => absurd h (by decide)) (fun _ => ?_)
        refine lv_lconst (v := 0) hx hb dX2_reckoned_87 (by decide) ?_
        refine lv_goto (tgt := 98) hx hb dX2_reckoned_88 (by decide) ?_
        refine lv_ladd hx hb dX2_reckoned_98 ?_
        refine lv_topl (fun z_136 ez_136 => ?_)
        refine lv_aload_n hx hb dX2_reckoned_99 rfl (lv_at hl 2 rfl) ?_
        refine va_get (D := (dC, dI)) (ci := 2) (v := .ref qk) (C := RX2) (T := TX2) (N := 16) hx hb hts iwX2_reckoned hown hK hP 0 rfl rfl 4 (by decide) (hts (.fieldLink RX2 23 "MainframeDeskModel" "kind" "[I") (by decide +kernel)) (fun _ h9 => h9) rfl dX2_reckoned_100 ?_
        refine lv_iload_n hx hb dX2_reckoned_103 rfl (lv_at hl 4 rfl) ?_
        refine lv_iconst (v := 1) hx hb dX2_reckoned_104 (by decide) ?_
        refine lv_isub hx hb dX2_reckoned_105 ?_
        refine va_iald hx hb hK hP 5 4 rfl rfl (kx_ix2 hn hxx) dX2_reckoned_106 ?_
        refine lv_topi (fun v_137 ev_137 => ?_)
        replace ev_137 : v_137 = kd (mIx x) := ev_137
        refine lv_iconst (v := 3) hx hb dX2_reckoned_107 (by decide) ?_
        refine lv_icmp_ne (tgt := 122) hx hb dX2_reckoned_108 (by decide) (fun c_138 => ?_) (fun c_138 => ?_)
        · refine lv_lconst (v := 0) hx hb dX2_reckoned_122 (by decide) ?_
          refine lv_ladd hx hb dX2_reckoned_123 ?_
          refine lv_topl (fun z_139 ez_139 => ?_)
          exact W.lret (v := z_139) hx hb hr (fun t ht hW => ⟨⟨_, ((n, kd, ok, cn, rc, rs, an, fl, t0, t1, t2, t3, t4, t5), th, 0), rfl, (by subst ev_128; subst ev_133; subst ez_134; subst ez_136; subst ev_137; subst ez_139; refine ⟨?_, congrArg (fun z => ((n, kd, ok, cn, rc, rs, an, fl, t0, t1, t2, t3, t4, t5), th, z)) (by unfold mWay; dsimp only; rw [if_pos hr0, if_pos c_129])⟩; rw [kx_ag0 hr0]; unfold mOut; rw [if_pos c_129, if_neg c_138, if_neg h8_132]; simp only [mL, Int64.add_zero]), by rw [ht]; exact hP, hD⟩, hS.F ht⟩) hS.2.2 dX2_reckoned_124
        · refine lv_aload_n hx hb dX2_reckoned_111 rfl (lv_at hl 2 rfl) ?_
          refine va_get (D := (dC, dI)) (ci := 2) (v := .ref qd) (C := RX2) (T := TX2) (N := 16) hx hb hts iwX2_reckoned hown hK hP 0 rfl rfl 6 (by decide) (hts (.fieldLink RX2 30 "MainframeDeskModel" "answered" "[J") (by decide +kernel)) (fun _ h9 => h9) rfl dX2_reckoned_112 ?_
          refine lv_iload_n hx hb dX2_reckoned_115 rfl (lv_at hl 4 rfl) ?_
          refine lv_iconst (v := 1) hx hb dX2_reckoned_116 (by decide) ?_
          refine lv_isub hx hb dX2_reckoned_117 ?_
          refine va_lald hx hb hK hP 7 6 rfl rfl (kx_ix2 hn hxx) dX2_reckoned_118 ?_
          refine lv_topl (fun v_140 ev_140 => ?_)
          replace ev_140 : v_140 = (mL cn) (mIx x) := ev_140
          refine lv_goto (tgt := 123) hx hb dX2_reckoned_119 (by decide) ?_
          refine lv_ladd hx hb dX2_reckoned_123 ?_
          refine lv_topl (fun z_141 ez_141 => ?_)
          exact W.lret (v := z_141) hx hb hr (fun t ht hW => ⟨⟨_, ((n, kd, ok, cn, rc, rs, an, fl, t0, t1, t2, t3, t4, t5), th, 0), rfl, (by subst ev_128; subst ev_133; subst ez_134; subst ez_136; subst ev_137; subst ev_140; subst ez_141; refine ⟨?_, congrArg (fun z => ((n, kd, ok, cn, rc, rs, an, fl, t0, t1, t2, t3, t4, t5), th, z)) (by unfold mWay; dsimp only; rw [if_pos hr0, if_pos c_129])⟩; rw [kx_ag0 hr0]; unfold mOut; rw [if_pos c_129, if_pos c_138, if_neg h8_132]; simp only [mL, Int64.add_zero]), by rw [ht]; exact hP, hD⟩, hS.F ht⟩) hS.2.2 dX2_reckoned_124
    · refine lv_iconst (v := 1) hx hb dX2_reckoned_28 (by decide) ?_
      refine lv_goto (tgt := 33) hx hb dX2_reckoned_29 (by decide) ?_
      refine va_put (D := (dC, dI)) (ci := 2) (v := .int 1) (ty := .int) (C := RX2) (T := TX2) (N := 16) hx hb hts iwX2_reckoned tyX2 tyX2_ok nmX2 hown hK hP hD hS 0 rfl rfl 15 (by decide) (hts (.fieldLink RX2 54 "MainframeDeskModel" "way" "I") (by decide +kernel)) (fun _ h9 => h9) rfl (by decide +kernel) rfl rfl (Nat.le_of_ble_eq_true rfl) dX2_reckoned_33 (fun H locs hP hD hS => ?_)
      have hP : va_P (dC, dI) vwCl (rW h qs qm qa qf qk qt qd cs cm ca cf ck ct cd n kd ok cn rc rs an fl t0 t1 t2 t3 t4 t5 th 1) H := hP
      have hD : va_D A (rW h qs qm qa qf qk qt qd cs cm ca cf ck ct cd n kd ok cn rc rs an fl t0 t1 t2 t3 t4 t5 th 1) := hD
      refine lv_aload_n hx hb dX2_reckoned_36 rfl (lv_at hl 1 rfl) ?_
      refine va_get (D := (dC, dI)) (ci := 2) (v := .int 1) (C := RX2) (T := TX2) (N := 16) hx hb hts iwX2_reckoned hown hK hP 0 rfl rfl 15 (by decide) (hts (.fieldLink RX2 54 "MainframeDeskModel" "way" "I") (by decide +kernel)) (fun _ h9 => h9) rfl dX2_reckoned_37 ?_
      refine lv_iconst (v := 2) hx hb dX2_reckoned_40 (by decide) ?_
      refine lv_icmp_ne (tgt := 48) hx hb dX2_reckoned_41 (by decide) (fun _ => ?_) (fun h => absurd h (by decide))
      refine lv_aload_n hx hb dX2_reckoned_48 rfl (lv_at hl 1 rfl) ?_
      refine va_get (D := (dC, dI)) (ci := 2) (v := .int 1) (C := RX2) (T := TX2) (N := 16) hx hb hts iwX2_reckoned hown hK hP 0 rfl rfl 15 (by decide) (hts (.fieldLink RX2 54 "MainframeDeskModel" "way" "I") (by decide +kernel)) (fun _ h9 => h9) rfl dX2_reckoned_49 ?_
      refine lv_iconst (v := 1) hx hb dX2_reckoned_52 (by decide) ?_
      refine lv_icmp_ne (tgt := 67) hx hb dX2_reckoned_53 (by decide) (fun h => absurd h (by decide)) (fun _ => ?_)
      refine lv_bipush (v := (-10)) hx hb dX2_reckoned_56 (by decide) ?_
      refine lv_aload_n hx hb dX2_reckoned_58 rfl (lv_at hl 1 rfl) ?_
      refine va_get (D := (dC, dI)) (ci := 2) (v := .ref qf) (C := RX2) (T := TX2) (N := 16) hx hb hts iwX2_reckoned hown hK hP 0 rfl rfl 3 (by decide) (hts (.fieldLink RX2 20 "MainframeDeskModel" "failures" "[I") (by decide +kernel)) (fun _ h9 => h9) rfl dX2_reckoned_59 ?_
      refine lv_iload_n hx hb dX2_reckoned_62 rfl (lv_at hl 2 rfl) ?_
      refine va_iald hx hb hK hP 4 3 rfl rfl (kx_in hc (by decide)) dX2_reckoned_63 ?_
      refine lv_topi (fun v_154 ev_154 => ?_)
      refine lv_isub hx hb dX2_reckoned_64 ?_
      refine lv_topi (fun z_155 ez_155 => ?_)
      refine lv_i2l (v := z_155.toInt64) hx hb dX2_reckoned_65 rfl ?_
      exact W.lret (v := z_155.toInt64) hx hb hr (fun t ht hW => ⟨⟨_, ((n, kd, ok, cn, rc, rs, an, fl, t0, t1, t2, t3, t4, t5), th, 1), rfl, (by subst ev_128; subst ev_154; subst ez_155; refine ⟨?_, congrArg (fun z => ((n, kd, ok, cn, rc, rs, an, fl, t0, t1, t2, t3, t4, t5), th, z)) (by unfold mWay; dsimp only; rw [if_pos hr0, if_neg c_129])⟩; rw [kx_ag0 hr0]; unfold mOut; rw [if_neg c_129]), by rw [ht]; exact hP, hD⟩, hS.F ht⟩) hS.2.2 dX2_reckoned_66
  · refine lv_iconst (v := 2) hx hb dX2_reckoned_15 (by decide) ?_
    refine lv_goto (tgt := 33) hx hb dX2_reckoned_16 (by decide) ?_
    refine va_put (D := (dC, dI)) (ci := 2) (v := .int 2) (ty := .int) (C := RX2) (T := TX2) (N := 16) hx hb hts iwX2_reckoned tyX2 tyX2_ok nmX2 hown hK hP hD hS 0 rfl rfl 15 (by decide) (hts (.fieldLink RX2 54 "MainframeDeskModel" "way" "I") (by decide +kernel)) (fun _ h9 => h9) rfl (by decide +kernel) rfl rfl (Nat.le_of_ble_eq_true rfl) dX2_reckoned_33 (fun H locs hP hD hS => ?_)
    have hP : va_P (dC, dI) vwCl (rW h qs qm qa qf qk qt qd cs cm ca cf ck ct cd n kd ok cn rc rs an fl t0 t1 t2 t3 t4 t5 th 2) H := hP
    have hD : va_D A (rW h qs qm qa qf qk qt qd cs cm ca cf ck ct cd n kd ok cn rc rs an fl t0 t1 t2 t3 t4 t5 th 2) := hD
    refine lv_aload_n hx hb dX2_reckoned_36 rfl (lv_at hl 1 rfl) ?_
    refine va_get (D := (dC, dI)) (ci := 2) (v := .int 2) (C := RX2) (T := TX2) (N := 16) hx hb hts iwX2_reckoned hown hK hP 0 rfl rfl 15 (by decide) (hts (.fieldLink RX2 54 "MainframeDeskModel" "way" "I") (by decide +kernel)) (fun _ h9 => h9) rfl dX2_reckoned_37 ?_
    refine lv_iconst (v := 2) hx hb dX2_reckoned_40 (by decide) ?_
    refine lv_icmp_ne (tgt := 48) hx hb dX2_reckoned_41 (by decide) (fun h => absurd h (by decide)) (fun _ => ?_)
    refine lv_iload hx hb dX2_reckoned_44 (lv_at hl 0 rfl) ?_
    refine lv_i2l (v := r_126.toInt64) hx hb dX2_reckoned_46 rfl ?_
    exact W.lret (v := r_126.toInt64) hx hb hr (fun t ht hW => ⟨⟨_, ((n, kd, ok, cn, rc, rs, an, fl, t0, t1, t2, t3, t4, t5), th, 2), rfl, (by have hne : ¬ mRefX n kd ok rc cz x a = 0 := fun q => c_127 (er_126.trans q); refine ⟨?_, congrArg (fun z => ((n, kd, ok, cn, rc, rs, an, fl, t0, t1, t2, t3, t4, t5), th, z)) (by unfold mWay; dsimp only; rw [if_neg hne])⟩; rw [er_126]; exact kx_agN hne), by rw [ht]; exact hP, hD⟩, hS.F ht⟩) hS.2.2 dX2_reckoned_47
theorem iwX2_again : ∀ w ∈ wsX20, w ∈ wsX2_again := fun _ h => List.mem_cons_of_mem _ (List.mem_append_right _ h)
set_option maxHeartbeats 1000000 in
set_option maxRecDepth 100000 in
/-- again(c, x, a) -/
theorem r_again (l : Launch) (dC : Nat → ClassId) (dI : Nat → Nat → Nat) (h qs qm qa qf qk qt qd : Nat) (cs cm ca cf ck ct cd : ClassId) (n : Nat) (kd ok cn rc : Nat → Int32) (rs an : Nat → Int64) (fl : Nat → Int32) (t0 t1 t2 t3 t4 t5 th wy : Int32) (hn : n ≤ 200) (sz : Nat) (cz x : Int32) (a : Int64) : Met l yX2_again wsX2_again ({ frames := 3, cells := 0, slots := 0, locals := 71 }) (va_Pc [.ref h, .int cz, .int x, .long a] (rQ dC dI [(cs, .long), (cm, .int), (ca, .long), (cf, .int), (ck, .int), (ct, .boolean), (cd, .long)] (rW h qs qm qa qf qk qt qd cs cm ca cf ck ct cd n kd ok cn rc rs an fl t0 t1 t2 t3 t4 t5 th wy) sz)) (va_Ql (fun (r : Int64) (u : dM × Int32 × Int32) => r = mAgain (n, kd, ok, cn, rc, rs, an, fl, t0, t1, t2, t3, t4, t5) cz x a ∧ u.1 = (n, kd, ok, cn, rc, rs, an, fl, t0, t1, t2, t3, t4, t5)) (fun u t => dAt dC dI (rWm h qs qm qa qf qk qt qd cs cm ca cf ck ct cd u) (va_A (rW h qs qm qa qf qk qt qd cs cm ca cf ck ct cd n kd ok cn rc rs an fl t0 t1 t2 t3 t4 t5 th wy) sz) t) (va_A (rW h qs qm qa qf qk qt qd cs cm ca cf ck ct cd n kd ok cn rc rs an fl t0 t1 t2 t3 t4 t5 th wy) sz)) 0 0 (va_A (rW h qs qm qa qf qk qt qd cs cm ca cf ck ct cd n kd ok cn rc rs an fl t0 t1 t2 t3 t4 t5 th wy) sz) := by
  refine Met.ofW (cc := cX2_again) (maxL := 5) (ret := (some .long)) (by decide) rfl ?_
  intro p e s m args below meth c s₁ B hml hv
  obtain ⟨rfl, hsz, hP, hK, hD0⟩ := hv
  have hx := B.exec
  have hb := B.bytes
  have hr := B.returns
  have hts := atoms_spec (ws := wsX2_again) B.pre
  have hown : s.vm.findClass RX2 = some m.cls := findClass_of_methodNamed B.named
  have hlocks := B.notSynchronized
  subst hsz
  have hD := hD0.self (sz := s.heap.size)
  generalize hAe : va_A (rW h qs qm qa qf qk qt qd cs cm ca cf ck ct cd n kd ok cn rc rs an fl t0 t1 t2 t3 t4 t5 th wy) s.heap.size = A at hD ⊢
  have hA : ∀ q : Nat, s.heap.size ≤ q → A q := fun q h => by rw [← hAe]; exact Or.inr h
  have hS : va_S A s.heap s.heap [] := va_S.rf
  have hl := lv_entry ([.ref h, .int cz, .int x, .long a]) (n := 5) (Nat.le_of_ble_eq_true rfl)
  rw [lg_entry_eq]
  generalize (lg_sl ([.ref h, .int cz, .int x, .long a]) ++ List.replicate (5 - (lg_sl ([.ref h, .int cz, .int x, .long a])).length) Slot.unset).toArray = ls at hl ⊢
  have hl : lv_has ls 5 [(0, .ref h), (1, .int cz), (2, .int x), (3, .long a)] := hl
  refine lv_aload_n hx hb dX2_again_0 rfl (lv_at hl 0 rfl) ?_
  refine lv_iconst (v := 0) hx hb dX2_again_1 (by decide) ?_
  refine va_put (D := (dC, dI)) (ci := 2) (v := .int 0) (ty := .int) (C := RX2) (T := TX2) (N := 16) hx hb hts iwX2_again tyX2 tyX2_ok nmX2 hown hK hP hD hS 0 rfl rfl 8 (by decide) (hts (.fieldLink RX2 33 "MainframeDeskModel" "thrown" "I") (by decide +kernel)) (fun _ h9 => h9) rfl (by decide +kernel) rfl rfl (Nat.le_of_ble_eq_true rfl) dX2_again_2 (fun H locs hP hD hS => ?_)
  have hP : va_P (dC, dI) vwCl (rW h qs qm qa qf qk qt qd cs cm ca cf ck ct cd n kd ok cn rc rs an fl t0 t1 t2 t3 t4 t5 0 wy) H := hP
  have hD : va_D A (rW h qs qm qa qf qk qt qd cs cm ca cf ck ct cd n kd ok cn rc rs an fl t0 t1 t2 t3 t4 t5 0 wy) := hD
  refine lv_aload_n hx hb dX2_again_5 rfl (lv_at hl 0 rfl) ?_
  refine lv_iload_n hx hb dX2_again_6 rfl (lv_at hl 1 rfl) ?_
  refine lv_iload_n hx hb dX2_again_7 rfl (lv_at hl 2 rfl) ?_
  refine lv_lload_n hx hb dX2_again_8 rfl (lv_at hl 3 rfl) ?_
  have hFc := kx_fr hD hS hA
  refine va_calll (va_runV (As := [.int cz, .int x, .long a]) (rest := []) ⟨hx, hb, hml, hown, hts⟩ (r_reckoned l dC dI h qs qm qa qf qk qt qd cs cm ca cf ck ct cd n kd ok cn rc rs an fl t0 t1 t2 t3 t4 t5 0 wy hn H.size cz x a) (cwV 3 hts gX2_again_X2_reckoned rfl rfl rfl (by decide +kernel) ⟨Nat.le_of_ble_eq_true rfl, Nat.le_of_ble_eq_true rfl⟩) ⟨rQ_bl, va_recv hK hP (ci := 2) (q0 := 0) rfl rfl, fun U hU hW => ⟨rfl, rQ_at hU hW hP hK hD⟩⟩ rfl rfl hl.1 rfl (lv_room (Nat.le_of_ble_eq_true rfl)) dX2_again_9 ⟨Nat.le_of_ble_eq_true rfl, Nat.le_of_ble_eq_true rfl⟩) hS (fun q _ h => hFc q h) hFc (fun o_157 u t H locs ht hvm hw hB hz1 hk1 hS => ?_)
  obtain ⟨eo_157, hw⟩ := hw
  subst hw
  obtain ⟨hP, hD1⟩ := hB
  rw [ht] at hP
  have hP : va_P (dC, dI) vwCl (rW h qs qm qa qf qk qt qd cs cm ca cf ck ct cd n kd ok cn rc rs an fl t0 t1 t2 t3 t4 t5 0 (mWay (n, kd, ok, cn, rc, rs, an, fl, t0, t1, t2, t3, t4, t5) cz x a)) H := hP
  have hD : va_D A (rW h qs qm qa qf qk qt qd cs cm ca cf ck ct cd n kd ok cn rc rs an fl t0 t1 t2 t3 t4 t5 0 (mWay (n, kd, ok, cn, rc, rs, an, fl, t0, t1, t2, t3, t4, t5) cz x a)) := hD1.weaken (fun _ q _ h9 => hFc q.1 h9)
  generalize ewy : mWay (n, kd, ok, cn, rc, rs, an, fl, t0, t1, t2, t3, t4, t5) cz x a = wy9 at hP hD
  subst ewy
  exact W.lret (v := o_157) hx hb hr (fun t ht hW => ⟨⟨_, ((n, kd, ok, cn, rc, rs, an, fl, t0, t1, t2, t3, t4, t5), 0, mWay (n, kd, ok, cn, rc, rs, an, fl, t0, t1, t2, t3, t4, t5) cz x a), rfl, ⟨eo_157, rfl⟩, by rw [ht]; exact hP, hD⟩, hS.F ht⟩) hS.2.2 dX2_again_12
