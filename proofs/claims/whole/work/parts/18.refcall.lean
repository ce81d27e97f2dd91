theorem iwX2_call : ∀ w ∈ wsX20, w ∈ wsX2_call := fun _ h => List.mem_cons_of_mem _ (List.mem_append_right _ h)
set_option maxHeartbeats 1000000 in
set_option maxRecDepth 100000 in
/-- call(c, x, a) -/
theorem r_call (l : Launch) (dC : Nat → ClassId) (dI : Nat → Nat → Nat) (h qs qm qa qf qk qt qd : Nat) (cs cm ca cf ck ct cd : ClassId) (n : Nat) (kd ok cn rc : Nat → Int32) (rs an : Nat → Int64) (fl : Nat → Int32) (t0 t1 t2 t3 t4 t5 th wy : Int32) (hn : n ≤ 200) (hcn : ∀ j, cn j < 1000000) (sz : Nat) (cz x : Int32) (a : Int64) : Met l yX2_call wsX2_call ({ frames := 3, cells := 0, slots := 0, locals := 71 }) (va_Pc [.ref h, .int cz, .int x, .long a] (rQ dC dI [(cs, .long), (cm, .int), (ca, .long), (cf, .int), (ck, .int), (ct, .boolean), (cd, .long)] (rW h qs qm qa qf qk qt qd cs cm ca cf ck ct cd n kd ok cn rc rs an fl t0 t1 t2 t3 t4 t5 th wy) sz)) (va_Ql (fun (r : Int64) (u : dM × Int32 × Int32) => (r, u.1) = mCall (n, kd, ok, cn, rc, rs, an, fl, t0, t1, t2, t3, t4, t5) cz x a) (fun u t => dAt dC dI (rWm h qs qm qa qf qk qt qd cs cm ca cf ck ct cd u) (va_A (rW h qs qm qa qf qk qt qd cs cm ca cf ck ct cd n kd ok cn rc rs an fl t0 t1 t2 t3 t4 t5 th wy) sz) t) (va_A (rW h qs qm qa qf qk qt qd cs cm ca cf ck ct cd n kd ok cn rc rs an fl t0 t1 t2 t3 t4 t5 th wy) sz)) 0 0 (va_A (rW h qs qm qa qf qk qt qd cs cm ca cf ck ct cd n kd ok cn rc rs an fl t0 t1 t2 t3 t4 t5 th wy) sz) := by
  refine Met.ofW (cc := cX2_call) (maxL := 8) (ret := (some .long)) (by decide) rfl ?_
  intro p e s m args below meth c s₁ B hml hv
  obtain ⟨rfl, hsz, hP, hK, hD0⟩ := hv
  have hx := B.exec
  have hb := B.bytes
  have hr := B.returns
  have hts := atoms_spec (ws := wsX2_call) B.pre
  have hown : s.vm.findClass RX2 = some m.cls := findClass_of_methodNamed B.named
  have hlocks := B.notSynchronized
  subst hsz
  have hD := hD0.self (sz := s.heap.size)
  generalize hAe : va_A (rW h qs qm qa qf qk qt qd cs cm ca cf ck ct cd n kd ok cn rc rs an fl t0 t1 t2 t3 t4 t5 th wy) s.heap.size = A at hD ⊢
  have hA : ∀ q : Nat, s.heap.size ≤ q → A q := fun q h => by rw [← hAe]; exact Or.inr h
  have hS : va_S A s.heap s.heap [] := va_S.rf
  have hl := lv_entry ([.ref h, .int cz, .int x, .long a]) (n := 8) (Nat.le_of_ble_eq_true rfl)
  rw [lg_entry_eq]
  generalize (lg_sl ([.ref h, .int cz, .int x, .long a]) ++ List.replicate (8 - (lg_sl ([.ref h, .int cz, .int x, .long a])).length) Slot.unset).toArray = ls at hl ⊢
  have hl : lv_has ls 8 [(0, .ref h), (1, .int cz), (2, .int x), (3, .long a)] := hl
  refine lv_aload_n hx hb dX2_call_0 rfl (lv_at hl 0 rfl) ?_
  refine lv_iconst (v := 0) hx hb dX2_call_1 (by decide) ?_
  refine va_put (D := (dC, dI)) (ci := 2) (v := .int 0) (ty := .int) (C := RX2) (T := TX2) (N := 16) hx hb hts iwX2_call tyX2 tyX2_ok nmX2 hown hK hP hD hS 0 rfl rfl 8 (by decide) (hts (.fieldLink RX2 33 "MainframeDeskModel" "thrown" "I") (by decide +kernel)) (fun _ h9 => h9) rfl (by decide +kernel) rfl rfl (Nat.le_of_ble_eq_true rfl) dX2_call_2 (fun H locs hP hD hS => ?_)
  have hP : va_P (dC, dI) vwCl (rW h qs qm qa qf qk qt qd cs cm ca cf ck ct cd n kd ok cn rc rs an fl t0 t1 t2 t3 t4 t5 0 wy) H := hP
  have hD : va_D A (rW h qs qm qa qf qk qt qd cs cm ca cf ck ct cd n kd ok cn rc rs an fl t0 t1 t2 t3 t4 t5 0 wy) := hD
  refine lv_aload_n hx hb dX2_call_5 rfl (lv_at hl 0 rfl) ?_
  refine lv_iload_n hx hb dX2_call_6 rfl (lv_at hl 1 rfl) ?_
  refine lv_iload_n hx hb dX2_call_7 rfl (lv_at hl 2 rfl) ?_
  refine lv_lload_n hx hb dX2_call_8 rfl (lv_at hl 3 rfl) ?_
  have hFc := kx_fr hD hS hA
  refine va_calll (va_runV (As := [.int cz, .int x, .long a]) (rest := []) ⟨hx, hb, hml, hown, hts⟩ (r_reckoned l dC dI h qs qm qa qf qk qt qd cs cm ca cf ck ct cd n kd ok cn rc rs an fl t0 t1 t2 t3 t4 t5 0 wy hn H.size cz x a) (cwV 3 hts gX2_call_X2_reckoned rfl rfl rfl (by decide +kernel) ⟨Nat.le_of_ble_eq_true rfl, Nat.le_of_ble_eq_true rfl⟩) ⟨rQ_bl, va_recv hK hP (ci := 2) (q0 := 0) rfl rfl, fun U hU hW => ⟨rfl, rQ_at hU hW hP hK hD⟩⟩ rfl rfl hl.1 rfl (lv_room (Nat.le_of_ble_eq_true rfl)) dX2_call_9 ⟨Nat.le_of_ble_eq_true rfl, Nat.le_of_ble_eq_true rfl⟩) hS (fun q _ h => hFc q h) hFc (fun o_158 u t H locs ht hvm hw hB hz1 hk1 hS => ?_)
  obtain ⟨eo_158, hw⟩ := hw
  subst hw
  obtain ⟨hP, hD1⟩ := hB
  rw [ht] at hP
  have hP : va_P (dC, dI) vwCl (rW h qs qm qa qf qk qt qd cs cm ca cf ck ct cd n kd ok cn rc rs an fl t0 t1 t2 t3 t4 t5 0 (mWay (n, kd, ok, cn, rc, rs, an, fl, t0, t1, t2, t3, t4, t5) cz x a)) H := hP
  have hD : va_D A (rW h qs qm qa qf qk qt qd cs cm ca cf ck ct cd n kd ok cn rc rs an fl t0 t1 t2 t3 t4 t5 0 (mWay (n, kd, ok, cn, rc, rs, an, fl, t0, t1, t2, t3, t4, t5) cz x a)) := hD1.weaken (fun _ q _ h9 => hFc q.1 h9)
  generalize ewy : mWay (n, kd, ok, cn, rc, rs, an, fl, t0, t1, t2, t3, t4, t5) cz x a = wy9 at hP hD
  refine lv_lstore (lv' := [(5, .long o_158), (0, .ref h), (1, .int cz), (2, .int x), (3, .long a)]) hx hb dX2_call_12 hl (by decide) rfl (fun ls hl => ?_)
  rcases kx_wy ewy with ⟨hrn, rfl⟩ | ⟨hr0, hfl, rfl⟩ | ⟨hr0, hfl, rfl⟩
  · refine lv_aload_n hx hb dX2_call_14 rfl (lv_at hl 1 rfl) ?_
    refine va_get (D := (dC, dI)) (ci := 2) (v := .int 2) (C := RX2) (T := TX2) (N := 16) hx hb hts iwX2_call hown hK hP 0 rfl rfl 15 (by decide) (hts (.fieldLink RX2 54 "MainframeDeskModel" "way" "I") (by decide +kernel)) (fun _ h9 => h9) rfl dX2_call_15 ?_
    refine lv_iconst (v := 2) hx hb dX2_call_18 (by decide) ?_
    refine lv_icmp_ne (tgt := 35) hx hb dX2_call_19 (by decide) (fun h => absurd h (by decide)) (fun _ => ?_)
    refine lv_aload_n hx hb dX2_call_22 rfl (lv_at hl 1 rfl) ?_
    refine lv_dup hx hb dX2_call_23 rfl ?_
    refine va_get (D := (dC, dI)) (ci := 2) (v := .int t4) (C := RX2) (T := TX2) (N := 16) hx hb hts iwX2_call hown hK hP 0 rfl rfl 13 (by decide) (hts (.fieldLink RX2 61 "MainframeDeskModel" "refused" "I") (by decide +kernel)) (fun _ h9 => h9) rfl dX2_call_24 ?_
    refine lv_iconst (v := 1) hx hb dX2_call_27 (by decide) ?_
    refine lv_iadd hx hb dX2_call_28 ?_
    refine lv_topi (fun z_160 ez_160 => ?_)
    refine va_put (D := (dC, dI)) (ci := 2) (v := .int z_160) (ty := .int) (C := RX2) (T := TX2) (N := 16) hx hb hts iwX2_call tyX2 tyX2_ok nmX2 hown hK hP hD hS 0 rfl rfl 13 (by decide) (hts (.fieldLink RX2 61 "MainframeDeskModel" "refused" "I") (by decide +kernel)) (fun _ h9 => h9) rfl (by decide +kernel) rfl rfl (Nat.le_of_ble_eq_true rfl) dX2_call_29 (fun H locs hP hD hS => ?_)
    have hP : va_P (dC, dI) vwCl (rW h qs qm qa qf qk qt qd cs cm ca cf ck ct cd n kd ok cn rc rs an fl t0 t1 t2 t3 z_160 t5 0 2) H := hP
    have hD : va_D A (rW h qs qm qa qf qk qt qd cs cm ca cf ck ct cd n kd ok cn rc rs an fl t0 t1 t2 t3 z_160 t5 0 2) := hD
    refine lv_lload hx hb dX2_call_32 (lv_at hl 0 rfl) ?_
    exact W.lret (v := o_158) hx hb hr (fun t ht hW => ⟨⟨_, ((n, kd, ok, cn, rc, rs, an, fl, t0, t1, t2, t3, z_160, t5), 0, 2), rfl, (by subst ez_160; rw [eo_158, kx_caN hrn]), by rw [ht]; exact hP, hD⟩, hS.F ht⟩) hS.2.2 dX2_call_34
  · obtain ⟨hxx, hrf⟩ := kx_x0 hr0
    have hc := kx_refc hrf
    refine lv_aload_n hx hb dX2_call_14 rfl (lv_at hl 1 rfl) ?_
    refine va_get (D := (dC, dI)) (ci := 2) (v := .int 0) (C := RX2) (T := TX2) (N := 16) hx hb hts iwX2_call hown hK hP 0 rfl rfl 15 (by decide) (hts (.fieldLink RX2 54 "MainframeDeskModel" "way" "I") (by decide +kernel)) (fun _ h9 => h9) rfl dX2_call_15 ?_
    refine lv_iconst (v := 2) hx hb dX2_call_18 (by decide) ?_
    refine lv_icmp_ne (tgt := 35) hx hb dX2_call_19 (by decide) (fun _ => ?_) (fun h => absurd h (by decide))
    refine lv_iload_n hx hb dX2_call_35 rfl (lv_at hl 2 rfl) ?_
    refine vp_callSi (W.runS (As := [.int cz]) (rest := []) ⟨hx, hb, hml, hown, hts⟩ (r_rowOf l cz) (va_cwS 1 hts gX2_call_X2_rowOf rfl rfl rfl (by decide +kernel) ⟨Nat.le_of_ble_eq_true rfl, Nat.le_of_ble_eq_true rfl⟩) ⟨fun _ _ _ _ q => q, fun _ _ _ => ⟨rfl, trivial⟩⟩ rfl rfl hl.1 rfl (lv_room (Nat.le_of_ble_eq_true rfl)) dX2_call_36 ⟨Nat.le_of_ble_eq_true rfl, Nat.le_of_ble_eq_true rfl⟩) (fun r9 hr9 => ?_)
    rcases hr9 with ⟨h8_162, rfl⟩ | ⟨h8_162, rfl⟩
    · refine lv_istore (lv' := [(7, .int (mW4 cz)), (5, .long o_158), (0, .ref h), (1, .int cz), (2, .int x), (3, .long a)]) hx hb dX2_call_39 hl (by decide) rfl (fun ls hl => ?_)
      refine lv_iload hx hb dX2_call_41 (lv_at hl 0 rfl) ?_
      refine lv_iconst (v := (-1)) hx hb dX2_call_43 (by decide) ?_
      refine lv_icmp_eq (tgt := 63) hx hb dX2_call_44 (by decide) (fun c_168 => ?_) (fun c_168 => ?_)
      · exact absurd c_168 (kx_w4n hc)
      · refine lv_aload_n hx hb dX2_call_47 rfl (lv_at hl 2 rfl) ?_
        refine va_get (D := (dC, dI)) (ci := 2) (v := .ref qs) (C := RX2) (T := TX2) (N := 16) hx hb hts iwX2_call hown hK hP 0 rfl rfl 0 (by decide) (hts (.fieldLink RX2 7 "MainframeDeskModel" "sum" "[J") (by decide +kernel)) (fun _ h9 => h9) rfl dX2_call_48 ?_
        refine lv_iload hx hb dX2_call_51 (lv_at hl 0 rfl) ?_
        refine lv_lconst (v := 0) hx hb dX2_call_53 (by decide) ?_
        refine va_last hx hb hK hP hD hS 1 0 rfl rfl (kx_w4 hc) dX2_call_54 (fun H locs hP hD hS => ?_)
        have hP : va_P (dC, dI) vwCl (rW h qs qm qa qf qk qt qd cs cm ca cf ck ct cd n kd ok cn rc (vp_updL rs (mW4 cz).toNatClampNeg 0) an fl t0 t1 t2 t3 t4 t5 0 0) H := hP
        have hD : va_D A (rW h qs qm qa qf qk qt qd cs cm ca cf ck ct cd n kd ok cn rc (vp_updL rs (mW4 cz).toNatClampNeg 0) an fl t0 t1 t2 t3 t4 t5 0 0) := hD
        refine lv_aload_n hx hb dX2_call_55 rfl (lv_at hl 2 rfl) ?_
        refine va_get (D := (dC, dI)) (ci := 2) (v := .ref qm) (C := RX2) (T := TX2) (N := 16) hx hb hts iwX2_call hown hK hP 0 rfl rfl 1 (by decide) (hts (.fieldLink RX2 13 "MainframeDeskModel" "many" "[I") (by decide +kernel)) (fun _ h9 => h9) rfl dX2_call_56 ?_
        refine lv_iload hx hb dX2_call_59 (lv_at hl 0 rfl) ?_
        refine lv_iconst (v := 0) hx hb dX2_call_61 (by decide) ?_
        refine va_iast hx hb hK hP hD hS 2 1 rfl rfl (kx_w4 hc) dX2_call_62 (fun H locs hP hD hS => ?_)
        have hP : va_P (dC, dI) vwCl (rW h qs qm qa qf qk qt qd cs cm ca cf ck ct cd n kd ok cn (upd rc (mW4 cz).toNatClampNeg 0) (vp_updL rs (mW4 cz).toNatClampNeg 0) an fl t0 t1 t2 t3 t4 t5 0 0) H := hP
        have hD : va_D A (rW h qs qm qa qf qk qt qd cs cm ca cf ck ct cd n kd ok cn (upd rc (mW4 cz).toNatClampNeg 0) (vp_updL rs (mW4 cz).toNatClampNeg 0) an fl t0 t1 t2 t3 t4 t5 0 0) := hD
        refine lv_aload_n hx hb dX2_call_63 rfl (lv_at hl 2 rfl) ?_
        refine va_get (D := (dC, dI)) (ci := 2) (v := .int 0) (C := RX2) (T := TX2) (N := 16) hx hb hts iwX2_call hown hK hP 0 rfl rfl 15 (by decide) (hts (.fieldLink RX2 54 "MainframeDeskModel" "way" "I") (by decide +kernel)) (fun _ h9 => h9) rfl dX2_call_64 ?_
        refine lv_if_ne (tgt := 95) hx hb dX2_call_67 (by decide) (fun h => absurd h (by decide)) (fun _ => ?_)
        refine lv_aload_n hx hb dX2_call_70 rfl (lv_at hl 2 rfl) ?_
        refine va_get (D := (dC, dI)) (ci := 2) (v := .ref qd) (C := RX2) (T := TX2) (N := 16) hx hb hts iwX2_call hown hK hP 0 rfl rfl 6 (by decide) (hts (.fieldLink RX2 30 "MainframeDeskModel" "answered" "[J") (by decide +kernel)) (fun _ h9 => h9) rfl dX2_call_71 ?_
        refine lv_iload_n hx hb dX2_call_74 rfl (lv_at hl 4 rfl) ?_
        refine lv_iconst (v := 1) hx hb dX2_call_75 (by decide) ?_
        refine lv_isub hx hb dX2_call_76 ?_
        refine lv_dup2_11 hx hb dX2_call_77 rfl rfl ?_
        refine va_lald hx hb hK hP 7 6 rfl rfl (kx_ix2 hn hxx) dX2_call_78 ?_
        refine lv_topl (fun v_170 ev_170 => ?_)
        replace ev_170 : v_170 = (mL cn) (mIx x) := ev_170
        refine lv_lconst (v := 1) hx hb dX2_call_79 (by decide) ?_
        refine lv_ladd hx hb dX2_call_80 ?_
        refine lv_topl (fun z_171 ez_171 => ?_)
        refine va_last hx hb hK hP hD hS 7 6 rfl rfl (kx_ix2 hn hxx) dX2_call_81 (fun H locs hP hD hS => ?_)
        rw [ez_171, ev_170] at hP hD
        have e9 := mL_up (hcn (mIx x))
        have hP : va_P (dC, dI) vwCl (rW h qs qm qa qf qk qt qd cs cm ca cf ck ct cd n kd ok (upd cn (mIx x) (cn (mIx x) + 1)) (upd rc (mW4 cz).toNatClampNeg 0) (vp_updL rs (mW4 cz).toNatClampNeg 0) an fl t0 t1 t2 t3 t4 t5 0 0) H := by unfold rW; rw [← e9]; exact hP
        have hD : va_D A (rW h qs qm qa qf qk qt qd cs cm ca cf ck ct cd n kd ok (upd cn (mIx x) (cn (mIx x) + 1)) (upd rc (mW4 cz).toNatClampNeg 0) (vp_updL rs (mW4 cz).toNatClampNeg 0) an fl t0 t1 t2 t3 t4 t5 0 0) := by unfold rW; rw [← e9]; exact hD
        refine lv_aload_n hx hb dX2_call_82 rfl (lv_at hl 2 rfl) ?_
        refine lv_dup hx hb dX2_call_83 rfl ?_
        refine va_get (D := (dC, dI)) (ci := 2) (v := .int t5) (C := RX2) (T := TX2) (N := 16) hx hb hts iwX2_call hown hK hP 0 rfl rfl 14 (by decide) (hts (.fieldLink RX2 64 "MainframeDeskModel" "done" "I") (by decide +kernel)) (fun _ h9 => h9) rfl dX2_call_84 ?_
        refine lv_iconst (v := 1) hx hb dX2_call_87 (by decide) ?_
        refine lv_iadd hx hb dX2_call_88 ?_
        refine lv_topi (fun z_172 ez_172 => ?_)
        refine va_put (D := (dC, dI)) (ci := 2) (v := .int z_172) (ty := .int) (C := RX2) (T := TX2) (N := 16) hx hb hts iwX2_call tyX2 tyX2_ok nmX2 hown hK hP hD hS 0 rfl rfl 14 (by decide) (hts (.fieldLink RX2 64 "MainframeDeskModel" "done" "I") (by decide +kernel)) (fun _ h9 => h9) rfl (by decide +kernel) rfl rfl (Nat.le_of_ble_eq_true rfl) dX2_call_89 (fun H locs hP hD hS => ?_)
        have hP : va_P (dC, dI) vwCl (rW h qs qm qa qf qk qt qd cs cm ca cf ck ct cd n kd ok (upd cn (mIx x) (cn (mIx x) + 1)) (upd rc (mW4 cz).toNatClampNeg 0) (vp_updL rs (mW4 cz).toNatClampNeg 0) an fl t0 t1 t2 t3 t4 z_172 0 0) H := hP
        have hD : va_D A (rW h qs qm qa qf qk qt qd cs cm ca cf ck ct cd n kd ok (upd cn (mIx x) (cn (mIx x) + 1)) (upd rc (mW4 cz).toNatClampNeg 0) (vp_updL rs (mW4 cz).toNatClampNeg 0) an fl t0 t1 t2 t3 t4 z_172 0 0) := hD
        refine lv_goto (tgt := 134) hx hb dX2_call_92 (by decide) ?_
        refine lv_lload hx hb dX2_call_134 (lv_at hl 1 rfl) ?_
        have e1 : mTkC rc cz = upd rc (mW4 cz).toNatClampNeg 0 := if_pos h8_162
        have e2 : mTkS rs cz = vp_updL rs (mW4 cz).toNatClampNeg 0 := if_pos h8_162
        have hP : va_P (dC, dI) vwCl (rW h qs qm qa qf qk qt qd cs cm ca cf ck ct cd n kd ok (upd cn (mIx x) (cn (mIx x) + 1)) (mTkC rc cz) (mTkS rs cz) an fl t0 t1 t2 t3 t4 z_172 0 0) H := by rw [e1, e2]; exact hP
        have hD : va_D A (rW h qs qm qa qf qk qt qd cs cm ca cf ck ct cd n kd ok (upd cn (mIx x) (cn (mIx x) + 1)) (mTkC rc cz) (mTkS rs cz) an fl t0 t1 t2 t3 t4 z_172 0 0) := by rw [e1, e2]; exact hD
        exact W.lret (v := o_158) hx hb hr (fun t ht hW => ⟨⟨_, ((n, kd, ok, upd cn (mIx x) (cn (mIx x) + 1), mTkC rc cz, mTkS rs cz, an, fl, t0, t1, t2, t3, t4, z_172), 0, 0), rfl, (by subst ev_170; subst ez_171; subst ez_172; rw [eo_158, kx_ca0 hr0, if_pos hfl]), by rw [ht]; exact hP, hD⟩, hS.F ht⟩) hS.2.2 dX2_call_136
    · refine lv_istore (lv' := [(7, .int (-1)), (5, .long o_158), (0, .ref h), (1, .int cz), (2, .int x), (3, .long a)]) hx hb dX2_call_39 hl (by decide) rfl (fun ls hl => ?_)
      refine lv_iload hx hb dX2_call_41 (lv_at hl 0 rfl) ?_
      refine lv_iconst (v := (-1)) hx hb dX2_call_43 (by decide) ?_
      refine lv_icmp_eq (tgt := 63) hx hb dX2_call_44 (by decide) (fun _ => ?_) (fun h => absurd h (by decide))
      refine lv_aload_n hx hb dX2_call_63 rfl (lv_at hl 2 rfl) ?_
      refine va_get (D := (dC, dI)) (ci := 2) (v := .int 0) (C := RX2) (T := TX2) (N := 16) hx hb hts iwX2_call hown hK hP 0 rfl rfl 15 (by decide) (hts (.fieldLink RX2 54 "MainframeDeskModel" "way" "I") (by decide +kernel)) (fun _ h9 => h9) rfl dX2_call_64 ?_
      refine lv_if_ne (tgt := 95) hx hb dX2_call_67 (by decide) (fun h => absurd h (by decide)) (fun _ => ?_)
      refine lv_aload_n hx hb dX2_call_70 rfl (lv_at hl 2 rfl) ?_
      refine va_get (D := (dC, dI)) (ci := 2) (v := .ref qd) (C := RX2) (T := TX2) (N := 16) hx hb hts iwX2_call hown hK hP 0 rfl rfl 6 (by decide) (hts (.fieldLink RX2 30 "MainframeDeskModel" "answered" "[J") (by decide +kernel)) (fun _ h9 => h9) rfl dX2_call_71 ?_
      refine lv_iload_n hx hb dX2_call_74 rfl (lv_at hl 4 rfl) ?_
      refine lv_iconst (v := 1) hx hb dX2_call_75 (by decide) ?_
      refine lv_isub hx hb dX2_call_76 ?_
      refine lv_dup2_11 hx hb dX2_call_77 rfl rfl ?_
      refine va_lald hx hb hK hP 7 6 rfl rfl (kx_ix2 hn hxx) dX2_call_78 ?_
      refine lv_topl (fun v_165 ev_165 => ?_)
      replace ev_165 : v_165 = (mL cn) (mIx x) := ev_165
      refine lv_lconst (v := 1) hx hb dX2_call_79 (by decide) ?_
      refine lv_ladd hx hb dX2_call_80 ?_
      refine lv_topl (fun z_166 ez_166 => ?_)
      refine va_last hx hb hK hP hD hS 7 6 rfl rfl (kx_ix2 hn hxx) dX2_call_81 (fun H locs hP hD hS => ?_)
      rw [ez_166, ev_165] at hP hD
      have e9 := mL_up (hcn (mIx x))
      have hP : va_P (dC, dI) vwCl (rW h qs qm qa qf qk qt qd cs cm ca cf ck ct cd n kd ok (upd cn (mIx x) (cn (mIx x) + 1)) rc rs an fl t0 t1 t2 t3 t4 t5 0 0) H := by unfold rW; rw [← e9]; exact hP
      have hD : va_D A (rW h qs qm qa qf qk qt qd cs cm ca cf ck ct cd n kd ok (upd cn (mIx x) (cn (mIx x) + 1)) rc rs an fl t0 t1 t2 t3 t4 t5 0 0) := by unfold rW; rw [← e9]; exact hD
      refine lv_aload_n hx hb dX2_call_82 rfl (lv_at hl 2 rfl) ?_
      refine lv_dup hx hb dX2_call_83 rfl ?_
      refine va_get (D := (dC, dI)) (ci := 2) (v := .int t5) (C := RX2) (T := TX2) (N := 16) hx hb hts iwX2_call hown hK hP 0 rfl rfl 14 (by decide) (hts (.fieldLink RX2 64 "MainframeDeskModel" "done" "I") (by decide +kernel)) (fun _ h9 => h9) rfl dX2_call_84 ?_
      refine lv_iconst (v := 1) hx hb dX2_call_87 (by decide) ?_
      refine lv_iadd hx hb dX2_call_88 ?_
      refine lv_topi (fun z_167 ez_167 => ?_)
      refine va_put (D := (dC, dI)) (ci := 2) (v := .int z_167) (ty := .int) (C := RX2) (T := TX2) (N := 16) hx hb hts iwX2_call tyX2 tyX2_ok nmX2 hown hK hP hD hS 0 rfl rfl 14 (by decide) (hts (.fieldLink RX2 64 "MainframeDeskModel" "done" "I") (by decide +kernel)) (fun _ h9 => h9) rfl (by decide +kernel) rfl rfl (Nat.le_of_ble_eq_true rfl) dX2_call_89 (fun H locs hP hD hS => ?_)
      have hP : va_P (dC, dI) vwCl (rW h qs qm qa qf qk qt qd cs cm ca cf ck ct cd n kd ok (upd cn (mIx x) (cn (mIx x) + 1)) rc rs an fl t0 t1 t2 t3 t4 z_167 0 0) H := hP
      have hD : va_D A (rW h qs qm qa qf qk qt qd cs cm ca cf ck ct cd n kd ok (upd cn (mIx x) (cn (mIx x) + 1)) rc rs an fl t0 t1 t2 t3 t4 z_167 0 0) := hD
      refine lv_goto (tgt := 134) hx hb dX2_call_92 (by decide) ?_
      refine lv_lload hx hb dX2_call_134 (lv_at hl 1 rfl) ?_
      have e1 : mTkC rc cz = rc := if_neg h8_162
      have e2 : mTkS rs cz = rs := if_neg h8_162
      have hP : va_P (dC, dI) vwCl (rW h qs qm qa qf qk qt qd cs cm ca cf ck ct cd n kd ok (upd cn (mIx x) (cn (mIx x) + 1)) (mTkC rc cz) (mTkS rs cz) an fl t0 t1 t2 t3 t4 z_167 0 0) H := by rw [e1, e2]; exact hP
      have hD : va_D A (rW h qs qm qa qf qk qt qd cs cm ca cf ck ct cd n kd ok (upd cn (mIx x) (cn (mIx x) + 1)) (mTkC rc cz) (mTkS rs cz) an fl t0 t1 t2 t3 t4 z_167 0 0) := by rw [e1, e2]; exact hD
      exact W.lret (v := o_158) hx hb hr (fun t ht hW => ⟨⟨_, ((n, kd, ok, upd cn (mIx x) (cn (mIx x) + 1), mTkC rc cz, mTkS rs cz, an, fl, t0, t1, t2, t3, t4, z_167), 0, 0), rfl, (by subst ev_165; subst ez_166; subst ez_167; rw [eo_158, kx_ca0 hr0, if_pos hfl]), by rw [ht]; exact hP, hD⟩, hS.F ht⟩) hS.2.2 dX2_call_136
  · obtain ⟨hxx, hrf⟩ := kx_x0 hr0
    have hc := kx_refc hrf
    refine lv_aload_n hx hb dX2_call_14 rfl (lv_at hl 1 rfl) ?_
    refine va_get (D := (dC, dI)) (ci := 2) (v := .int 1) (C := RX2) (T := TX2) (N := 16) hx hb hts iwX2_call hown hK hP 0 rfl rfl 15 (by decide) (hts (.fieldLink RX2 54 "MainframeDeskModel" "way" "I") (by decide +kernel)) (fun _ h9 => h9) rfl dX2_call_15 ?_
    refine lv_iconst (v := 2) hx hb dX2_call_18 (by decide) ?_
    refine lv_icmp_ne (tgt := 35) hx hb dX2_call_19 (by decide) (fun _ => ?_) (fun h => absurd h (by decide))
    refine lv_iload_n hx hb dX2_call_35 rfl (lv_at hl 2 rfl) ?_
    refine vp_callSi (W.runS (As := [.int cz]) (rest := []) ⟨hx, hb, hml, hown, hts⟩ (r_rowOf l cz) (va_cwS 1 hts gX2_call_X2_rowOf rfl rfl rfl (by decide +kernel) ⟨Nat.le_of_ble_eq_true rfl, Nat.le_of_ble_eq_true rfl⟩) ⟨fun _ _ _ _ q => q, fun _ _ _ => ⟨rfl, trivial⟩⟩ rfl rfl hl.1 rfl (lv_room (Nat.le_of_ble_eq_true rfl)) dX2_call_36 ⟨Nat.le_of_ble_eq_true rfl, Nat.le_of_ble_eq_true rfl⟩) (fun r9 hr9 => ?_)
    rcases hr9 with ⟨h8_174, rfl⟩ | ⟨h8_174, rfl⟩
    · refine lv_istore (lv' := [(7, .int (mW4 cz)), (5, .long o_158), (0, .ref h), (1, .int cz), (2, .int x), (3, .long a)]) hx hb dX2_call_39 hl (by decide) rfl (fun ls hl => ?_)
      refine lv_iload hx hb dX2_call_41 (lv_at hl 0 rfl) ?_
      refine lv_iconst (v := (-1)) hx hb dX2_call_43 (by decide) ?_
      refine lv_icmp_eq (tgt := 63) hx hb dX2_call_44 (by decide) (fun c_179 => ?_) (fun c_179 => ?_)
      · exact absurd c_179 (kx_w4n hc)
      · refine lv_aload_n hx hb dX2_call_47 rfl (lv_at hl 2 rfl) ?_
        refine va_get (D := (dC, dI)) (ci := 2) (v := .ref qs) (C := RX2) (T := TX2) (N := 16) hx hb hts iwX2_call hown hK hP 0 rfl rfl 0 (by decide) (hts (.fieldLink RX2 7 "MainframeDeskModel" "sum" "[J") (by decide +kernel)) (fun _ h9 => h9) rfl dX2_call_48 ?_
        refine lv_iload hx hb dX2_call_51 (lv_at hl 0 rfl) ?_
        refine lv_lconst (v := 0) hx hb dX2_call_53 (by decide) ?_
        refine va_last hx hb hK hP hD hS 1 0 rfl rfl (kx_w4 hc) dX2_call_54 (fun H locs hP hD hS => ?_)
        have hP : va_P (dC, dI) vwCl (rW h qs qm qa qf qk qt qd cs cm ca cf ck ct cd n kd ok cn rc (vp_updL rs (mW4 cz).toNatClampNeg 0) an fl t0 t1 t2 t3 t4 t5 0 1) H := hP
        have hD : va_D A (rW h qs qm qa qf qk qt qd cs cm ca cf ck ct cd n kd ok cn rc (vp_updL rs (mW4 cz).toNatClampNeg 0) an fl t0 t1 t2 t3 t4 t5 0 1) := hD
        refine lv_aload_n hx hb dX2_call_55 rfl (lv_at hl 2 rfl) ?_
        refine va_get (D := (dC, dI)) (ci := 2) (v := .ref qm) (C := RX2) (T := TX2) (N := 16) hx hb hts iwX2_call hown hK hP 0 rfl rfl 1 (by decide) (hts (.fieldLink RX2 13 "MainframeDeskModel" "many" "[I") (by decide +kernel)) (fun _ h9 => h9) rfl dX2_call_56 ?_
        refine lv_iload hx hb dX2_call_59 (lv_at hl 0 rfl) ?_
        refine lv_iconst (v := 0) hx hb dX2_call_61 (by decide) ?_
        refine va_iast hx hb hK hP hD hS 2 1 rfl rfl (kx_w4 hc) dX2_call_62 (fun H locs hP hD hS => ?_)
        have hP : va_P (dC, dI) vwCl (rW h qs qm qa qf qk qt qd cs cm ca cf ck ct cd n kd ok cn (upd rc (mW4 cz).toNatClampNeg 0) (vp_updL rs (mW4 cz).toNatClampNeg 0) an fl t0 t1 t2 t3 t4 t5 0 1) H := hP
        have hD : va_D A (rW h qs qm qa qf qk qt qd cs cm ca cf ck ct cd n kd ok cn (upd rc (mW4 cz).toNatClampNeg 0) (vp_updL rs (mW4 cz).toNatClampNeg 0) an fl t0 t1 t2 t3 t4 t5 0 1) := hD
        refine lv_aload_n hx hb dX2_call_63 rfl (lv_at hl 2 rfl) ?_
        refine va_get (D := (dC, dI)) (ci := 2) (v := .int 1) (C := RX2) (T := TX2) (N := 16) hx hb hts iwX2_call hown hK hP 0 rfl rfl 15 (by decide) (hts (.fieldLink RX2 54 "MainframeDeskModel" "way" "I") (by decide +kernel)) (fun _ h9 => h9) rfl dX2_call_64 ?_
        refine lv_if_ne (tgt := 95) hx hb dX2_call_67 (by decide) (fun _ => ?_) (fun h => absurd h (by decide))
        refine lv_aload_n hx hb dX2_call_95 rfl (lv_at hl 2 rfl) ?_
        refine va_get (D := (dC, dI)) (ci := 2) (v := .ref qt) (C := RX2) (T := TX2) (N := 16) hx hb hts iwX2_call hown hK hP 0 rfl rfl 5 (by decide) (hts (.fieldLink RX2 26 "MainframeDeskModel" "there" "[Z") (by decide +kernel)) (fun _ h9 => h9) rfl dX2_call_96 ?_
        refine lv_iload_n hx hb dX2_call_99 rfl (lv_at hl 4 rfl) ?_
        refine lv_iconst (v := 1) hx hb dX2_call_100 (by decide) ?_
        refine lv_isub hx hb dX2_call_101 ?_
        refine lv_iconst (v := 0) hx hb dX2_call_102 (by decide) ?_
        refine va_zast hx hb hK hP hD hS 6 5 rfl rfl (kx_ix2 hn hxx) dX2_call_103 (fun H locs hP hD hS => ?_)
        rw [kx_nb0] at hP hD
        have hP : va_P (dC, dI) vwCl (rW h qs qm qa qf qk qt qd cs cm ca cf ck ct cd n kd (upd ok (mIx x) 0) cn (upd rc (mW4 cz).toNatClampNeg 0) (vp_updL rs (mW4 cz).toNatClampNeg 0) an fl t0 t1 t2 t3 t4 t5 0 1) H := hP
        have hD : va_D A (rW h qs qm qa qf qk qt qd cs cm ca cf ck ct cd n kd (upd ok (mIx x) 0) cn (upd rc (mW4 cz).toNatClampNeg 0) (vp_updL rs (mW4 cz).toNatClampNeg 0) an fl t0 t1 t2 t3 t4 t5 0 1) := hD
        refine lv_aload_n hx hb dX2_call_104 rfl (lv_at hl 2 rfl) ?_
        refine lv_aload_n hx hb dX2_call_105 rfl (lv_at hl 2 rfl) ?_
        refine va_get (D := (dC, dI)) (ci := 2) (v := .ref qf) (C := RX2) (T := TX2) (N := 16) hx hb hts iwX2_call hown hK hP 0 rfl rfl 3 (by decide) (hts (.fieldLink RX2 20 "MainframeDeskModel" "failures" "[I") (by decide +kernel)) (fun _ h9 => h9) rfl dX2_call_106 ?_
        refine lv_iload_n hx hb dX2_call_109 rfl (lv_at hl 3 rfl) ?_
        refine va_iald hx hb hK hP 4 3 rfl rfl (kx_in hc (by decide)) dX2_call_110 ?_
        refine lv_topi (fun v_181 ev_181 => ?_)
        refine va_put (D := (dC, dI)) (ci := 2) (v := .int v_181) (ty := .int) (C := RX2) (T := TX2) (N := 16) hx hb hts iwX2_call tyX2 tyX2_ok nmX2 hown hK hP hD hS 0 rfl rfl 9 (by decide) (hts (.fieldLink RX2 67 "MainframeDeskModel" "latest" "I") (by decide +kernel)) (fun _ h9 => h9) rfl (by decide +kernel) rfl rfl (Nat.le_of_ble_eq_true rfl) dX2_call_111 (fun H locs hP hD hS => ?_)
        have hP : va_P (dC, dI) vwCl (rW h qs qm qa qf qk qt qd cs cm ca cf ck ct cd n kd (upd ok (mIx x) 0) cn (upd rc (mW4 cz).toNatClampNeg 0) (vp_updL rs (mW4 cz).toNatClampNeg 0) an fl v_181 t1 t2 t3 t4 t5 0 1) H := hP
        have hD : va_D A (rW h qs qm qa qf qk qt qd cs cm ca cf ck ct cd n kd (upd ok (mIx x) 0) cn (upd rc (mW4 cz).toNatClampNeg 0) (vp_updL rs (mW4 cz).toNatClampNeg 0) an fl v_181 t1 t2 t3 t4 t5 0 1) := hD
        refine lv_aload_n hx hb dX2_call_114 rfl (lv_at hl 2 rfl) ?_
        refine lv_iload_n hx hb dX2_call_115 rfl (lv_at hl 3 rfl) ?_
        refine va_put (D := (dC, dI)) (ci := 2) (v := .int cz) (ty := .int) (C := RX2) (T := TX2) (N := 16) hx hb hts iwX2_call tyX2 tyX2_ok nmX2 hown hK hP hD hS 0 rfl rfl 10 (by decide) (hts (.fieldLink RX2 70 "MainframeDeskModel" "latestCall" "I") (by decide +kernel)) (fun _ h9 => h9) rfl (by decide +kernel) rfl rfl (Nat.le_of_ble_eq_true rfl) dX2_call_116 (fun H locs hP hD hS => ?_)
        have hP : va_P (dC, dI) vwCl (rW h qs qm qa qf qk qt qd cs cm ca cf ck ct cd n kd (upd ok (mIx x) 0) cn (upd rc (mW4 cz).toNatClampNeg 0) (vp_updL rs (mW4 cz).toNatClampNeg 0) an fl v_181 cz t2 t3 t4 t5 0 1) H := hP
        have hD : va_D A (rW h qs qm qa qf qk qt qd cs cm ca cf ck ct cd n kd (upd ok (mIx x) 0) cn (upd rc (mW4 cz).toNatClampNeg 0) (vp_updL rs (mW4 cz).toNatClampNeg 0) an fl v_181 cz t2 t3 t4 t5 0 1) := hD
        refine lv_aload_n hx hb dX2_call_119 rfl (lv_at hl 2 rfl) ?_
        refine lv_iload_n hx hb dX2_call_120 rfl (lv_at hl 4 rfl) ?_
        refine va_put (D := (dC, dI)) (ci := 2) (v := .int x) (ty := .int) (C := RX2) (T := TX2) (N := 16) hx hb hts iwX2_call tyX2 tyX2_ok nmX2 hown hK hP hD hS 0 rfl rfl 11 (by decide) (hts (.fieldLink RX2 73 "MainframeDeskModel" "latestThing" "I") (by decide +kernel)) (fun _ h9 => h9) rfl (by decide +kernel) rfl rfl (Nat.le_of_ble_eq_true rfl) dX2_call_121 (fun H locs hP hD hS => ?_)
        have hP : va_P (dC, dI) vwCl (rW h qs qm qa qf qk qt qd cs cm ca cf ck ct cd n kd (upd ok (mIx x) 0) cn (upd rc (mW4 cz).toNatClampNeg 0) (vp_updL rs (mW4 cz).toNatClampNeg 0) an fl v_181 cz x t3 t4 t5 0 1) H := hP
        have hD : va_D A (rW h qs qm qa qf qk qt qd cs cm ca cf ck ct cd n kd (upd ok (mIx x) 0) cn (upd rc (mW4 cz).toNatClampNeg 0) (vp_updL rs (mW4 cz).toNatClampNeg 0) an fl v_181 cz x t3 t4 t5 0 1) := hD
        refine lv_aload_n hx hb dX2_call_124 rfl (lv_at hl 2 rfl) ?_
        refine lv_dup hx hb dX2_call_125 rfl ?_
        refine va_get (D := (dC, dI)) (ci := 2) (v := .int t3) (C := RX2) (T := TX2) (N := 16) hx hb hts iwX2_call hown hK hP 0 rfl rfl 12 (by decide) (hts (.fieldLink RX2 76 "MainframeDeskModel" "failed" "I") (by decide +kernel)) (fun _ h9 => h9) rfl dX2_call_126 ?_
        refine lv_iconst (v := 1) hx hb dX2_call_129 (by decide) ?_
        refine lv_iadd hx hb dX2_call_130 ?_
        refine lv_topi (fun z_182 ez_182 => ?_)
        refine va_put (D := (dC, dI)) (ci := 2) (v := .int z_182) (ty := .int) (C := RX2) (T := TX2) (N := 16) hx hb hts iwX2_call tyX2 tyX2_ok nmX2 hown hK hP hD hS 0 rfl rfl 12 (by decide) (hts (.fieldLink RX2 76 "MainframeDeskModel" "failed" "I") (by decide +kernel)) (fun _ h9 => h9) rfl (by decide +kernel) rfl rfl (Nat.le_of_ble_eq_true rfl) dX2_call_131 (fun H locs hP hD hS => ?_)
        have hP : va_P (dC, dI) vwCl (rW h qs qm qa qf qk qt qd cs cm ca cf ck ct cd n kd (upd ok (mIx x) 0) cn (upd rc (mW4 cz).toNatClampNeg 0) (vp_updL rs (mW4 cz).toNatClampNeg 0) an fl v_181 cz x z_182 t4 t5 0 1) H := hP
        have hD : va_D A (rW h qs qm qa qf qk qt qd cs cm ca cf ck ct cd n kd (upd ok (mIx x) 0) cn (upd rc (mW4 cz).toNatClampNeg 0) (vp_updL rs (mW4 cz).toNatClampNeg 0) an fl v_181 cz x z_182 t4 t5 0 1) := hD
        refine lv_lload hx hb dX2_call_134 (lv_at hl 1 rfl) ?_
        have e1 : mTkC rc cz = upd rc (mW4 cz).toNatClampNeg 0 := if_pos h8_174
        have e2 : mTkS rs cz = vp_updL rs (mW4 cz).toNatClampNeg 0 := if_pos h8_174
        have hP : va_P (dC, dI) vwCl (rW h qs qm qa qf qk qt qd cs cm ca cf ck ct cd n kd (upd ok (mIx x) 0) cn (mTkC rc cz) (mTkS rs cz) an fl v_181 cz x z_182 t4 t5 0 1) H := by rw [e1, e2]; exact hP
        have hD : va_D A (rW h qs qm qa qf qk qt qd cs cm ca cf ck ct cd n kd (upd ok (mIx x) 0) cn (mTkC rc cz) (mTkS rs cz) an fl v_181 cz x z_182 t4 t5 0 1) := by rw [e1, e2]; exact hD
        exact W.lret (v := o_158) hx hb hr (fun t ht hW => ⟨⟨_, ((n, kd, upd ok (mIx x) 0, cn, mTkC rc cz, mTkS rs cz, an, fl, v_181, cz, x, z_182, t4, t5), 0, 1), rfl, (by subst ev_181; subst ez_182; rw [eo_158, kx_ca0 hr0, if_neg hfl]), by rw [ht]; exact hP, hD⟩, hS.F ht⟩) hS.2.2 dX2_call_136
    · refine lv_istore (lv' := [(7, .int (-1)), (5, .long o_158), (0, .ref h), (1, .int cz), (2, .int x), (3, .long a)]) hx hb dX2_call_39 hl (by decide) rfl (fun ls hl => ?_)
      refine lv_iload hx hb dX2_call_41 (lv_at hl 0 rfl) ?_
      refine lv_iconst (v := (-1)) hx hb dX2_call_43 (by decide) ?_
      refine lv_icmp_eq (tgt := 63) hx hb dX2_call_44 (by decide) (fun _ => ?_) (fun h => absurd h (by decide))
      refine lv_aload_n hx hb dX2_call_63 rfl (lv_at hl 2 rfl) ?_
      refine va_get (D := (dC, dI)) (ci := 2) (v := .int 1) (C := RX2) (T := TX2) (N := 16) hx hb hts iwX2_call hown hK hP 0 rfl rfl 15 (by decide) (hts (.fieldLink RX2 54 "MainframeDeskModel" "way" "I") (by decide +kernel)) (fun _ h9 => h9) rfl dX2_call_64 ?_
      refine lv_if_ne (tgt := 95) hx hb dX2_call_67 (by decide) (fun _ => ?_) (fun h => absurd h (by decide))
      refine lv_aload_n hx hb dX2_call_95 rfl (lv_at hl 2 rfl) ?_
      refine va_get (D := (dC, dI)) (ci := 2) (v := .ref qt) (C := RX2) (T := TX2) (N := 16) hx hb hts iwX2_call hown hK hP 0 rfl rfl 5 (by decide) (hts (.fieldLink RX2 26 "MainframeDeskModel" "there" "[Z") (by decide +kernel)) (fun _ h9 => h9) rfl dX2_call_96 ?_
      refine lv_iload_n hx hb dX2_call_99 rfl (lv_at hl 4 rfl) ?_
      refine lv_iconst (v := 1) hx hb dX2_call_100 (by decide) ?_
      refine lv_isub hx hb dX2_call_101 ?_
      refine lv_iconst (v := 0) hx hb dX2_call_102 (by decide) ?_
      refine va_zast hx hb hK hP hD hS 6 5 rfl rfl (kx_ix2 hn hxx) dX2_call_103 (fun H locs hP hD hS => ?_)
      rw [kx_nb0] at hP hD
      have hP : va_P (dC, dI) vwCl (rW h qs qm qa qf qk qt qd cs cm ca cf ck ct cd n kd (upd ok (mIx x) 0) cn rc rs an fl t0 t1 t2 t3 t4 t5 0 1) H := hP
      have hD : va_D A (rW h qs qm qa qf qk qt qd cs cm ca cf ck ct cd n kd (upd ok (mIx x) 0) cn rc rs an fl t0 t1 t2 t3 t4 t5 0 1) := hD
      refine lv_aload_n hx hb dX2_call_104 rfl (lv_at hl 2 rfl) ?_
      refine lv_aload_n hx hb dX2_call_105 rfl (lv_at hl 2 rfl) ?_
      refine va_get (D := (dC, dI)) (ci := 2) (v := .ref qf) (C := RX2) (T := TX2) (N := 16) hx hb hts iwX2_call hown hK hP 0 rfl rfl 3 (by decide) (hts (.fieldLink RX2 20 "MainframeDeskModel" "failures" "[I") (by decide +kernel)) (fun _ h9 => h9) rfl dX2_call_106 ?_
      refine lv_iload_n hx hb dX2_call_109 rfl (lv_at hl 3 rfl) ?_
      refine va_iald hx hb hK hP 4 3 rfl rfl (kx_in hc (by decide)) dX2_call_110 ?_
      refine lv_topi (fun v_177 ev_177 => ?_)
      refine va_put (D := (dC, dI)) (ci := 2) (v := .int v_177) (ty := .int) (C := RX2) (T := TX2) (N := 16) hx hb hts iwX2_call tyX2 tyX2_ok nmX2 hown hK hP hD hS 0 rfl rfl 9 (by decide) (hts (.fieldLink RX2 67 "MainframeDeskModel" "latest" "I") (by decide +kernel)) (fun _ h9 => h9) rfl (by decide +kernel) rfl rfl (Nat.le_of_ble_eq_true rfl) dX2_call_111 (fun H locs hP hD hS => ?_)
      have hP : va_P (dC, dI) vwCl (rW h qs qm qa qf qk qt qd cs cm ca cf ck ct cd n kd (upd ok (mIx x) 0) cn rc rs an fl v_177 t1 t2 t3 t4 t5 0 1) H := hP
      have hD : va_D A (rW h qs qm qa qf qk qt qd cs cm ca cf ck ct cd n kd (upd ok (mIx x) 0) cn rc rs an fl v_177 t1 t2 t3 t4 t5 0 1) := hD
      refine lv_aload_n hx hb dX2_call_114 rfl (lv_at hl 2 rfl) ?_
      refine lv_iload_n hx hb dX2_call_115 rfl (lv_at hl 3 rfl) ?_
      refine va_put (D := (dC, dI)) (ci := 2) (v := .int cz) (ty := .int) (C := RX2) (T := TX2) (N := 16) hx hb hts iwX2_call tyX2 tyX2_ok nmX2 hown hK hP hD hS 0 rfl rfl 10 (by decide) (hts (.fieldLink RX2 70 "MainframeDeskModel" "latestCall" "I") (by decide +kernel)) (fun _ h9 => h9) rfl (by decide +kernel) rfl rfl (Nat.le_of_ble_eq_true rfl) dX2_call_116 (fun H locs hP hD hS => ?_)
      have hP : va_P (dC, dI) vwCl (rW h qs qm qa qf qk qt qd cs cm ca cf ck ct cd n kd (upd ok (mIx x) 0) cn rc rs an fl v_177 cz t2 t3 t4 t5 0 1) H := hP
      have hD : va_D A (rW h qs qm qa qf qk qt qd cs cm ca cf ck ct cd n kd (upd ok (mIx x) 0) cn rc rs an fl v_177 cz t2 t3 t4 t5 0 1) := hD
      refine lv_aload_n hx hb dX2_call_119 rfl (lv_at hl 2 rfl) ?_
      refine lv_iload_n hx hb dX2_call_120 rfl (lv_at hl 4 rfl) ?_
      refine va_put (D := (dC, dI)) (ci := 2) (v := .int x) (ty := .int) (C := RX2) (T := TX2) (N := 16) hx hb hts iwX2_call tyX2 tyX2_ok nmX2 hown hK hP hD hS 0 rfl rfl 11 (by decide) (hts (.fieldLink RX2 73 "MainframeDeskModel" "latestThing" "I") (by decide +kernel)) (fun _ h9 => h9) rfl (by decide +kernel) rfl rfl (Nat.le_of_ble_eq_true rfl) dX2_call_121 (fun H locs hP hD hS => ?_)
      have hP : va_P (dC, dI) vwCl (rW h qs qm qa qf qk qt qd cs cm ca cf ck ct cd n kd (upd ok (mIx x) 0) cn rc rs an fl v_177 cz x t3 t4 t5 0 1) H := hP
      have hD : va_D A (rW h qs qm qa qf qk qt qd cs cm ca cf ck ct cd n kd (upd ok (mIx x) 0) cn rc rs an fl v_177 cz x t3 t4 t5 0 1) := hD
      refine lv_aload_n hx hb dX2_call_124 rfl (lv_at hl 2 rfl) ?_
      refine lv_dup hx hb dX2_call_125 rfl ?_
      refine va_get (D := (dC, dI)) (ci := 2) (v := .int t3) (C := RX2) (T := TX2) (N := 16) hx hb hts iwX2_call hown hK hP 0 rfl rfl 12 (by decide) (hts (.fieldLink RX2 76 "MainframeDeskModel" "failed" "I") (by decide +kernel)) (fun _ h9 => h9) rfl dX2_call_126 ?_
      refine lv_iconst (v := 1) hx hb dX2_call_129 (by decide) ?_
      refine lv_iadd hx hb dX2_call_130 ?_
      refine lv_topi (fun z_178 ez_178 => ?_)
      refine va_put (D := (dC, dI)) (ci := 2) (v := .int z_178) (ty := .int) (C := RX2) (T := TX2) (N := 16) hx hb hts iwX2_call tyX2 tyX2_ok nmX2 hown hK hP hD hS 0 rfl rfl 12 (by decide) (hts (.fieldLink RX2 76 "MainframeDeskModel" "failed" "I") (by decide +kernel)) (fun _ h9 => h9) rfl (by decide +kernel) rfl rfl (Nat.le_of_ble_eq_true rfl) dX2_call_131 (fun H locs hP hD hS => ?_)
      have hP : va_P (dC, dI) vwCl (rW h qs qm qa qf qk qt qd cs cm ca cf ck ct cd n kd (upd ok (mIx x) 0) cn rc rs an fl v_177 cz x z_178 t4 t5 0 1) H := hP
      have hD : va_D A (rW h qs qm qa qf qk qt qd cs cm ca cf ck ct cd n kd (upd ok (mIx x) 0) cn rc rs an fl v_177 cz x z_178 t4 t5 0 1) := hD
      refine lv_lload hx hb dX2_call_134 (lv_at hl 1 rfl) ?_
      have e1 : mTkC rc cz = rc := if_neg h8_174
      have e2 : mTkS rs cz = rs := if_neg h8_174
      have hP : va_P (dC, dI) vwCl (rW h qs qm qa qf qk qt qd cs cm ca cf ck ct cd n kd (upd ok (mIx x) 0) cn (mTkC rc cz) (mTkS rs cz) an fl v_177 cz x z_178 t4 t5 0 1) H := by rw [e1, e2]; exact hP
      have hD : va_D A (rW h qs qm qa qf qk qt qd cs cm ca cf ck ct cd n kd (upd ok (mIx x) 0) cn (mTkC rc cz) (mTkS rs cz) an fl v_177 cz x z_178 t4 t5 0 1) := by rw [e1, e2]; exact hD
      exact W.lret (v := o_158) hx hb hr (fun t ht hW => ⟨⟨_, ((n, kd, upd ok (mIx x) 0, cn, mTkC rc cz, mTkS rs cz, an, fl, v_177, cz, x, z_178, t4, t5), 0, 1), rfl, (by subst ev_177; subst ez_178; rw [eo_158, kx_ca0 hr0, if_neg hfl]), by rw [ht]; exact hP, hD⟩, hS.F ht⟩) hS.2.2 dX2_call_136
