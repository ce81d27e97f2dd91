set_option maxHeartbeats 4000000 in
set_option maxRecDepth 100000 in
/-- THE LAW'S LOOP: at its head, behind t calls, the desk and the reference hold one and the same mathematical value -/
theorem law_loop {p : Program} {l : Launch} {e : Env} {s : State} {m : MethodId} {below : List Frame} {meth : Method} {c : Code} {dC : Nat → ClassId} {dI : Nat → Nat → Nat} {b L : Nat} {xs : Nat → Int32} (hL : L ≤ 2560) (C0 : lw_At p s m meth c b L xs) (hN : dNw s)
    {h qT qC qS qA qF : Nat} {cT cC cS cA cF : ClassId} {g qs qm qa qf qk qt qd : Nat} {cs cm ca cf ck ct cd : ClassId} (hK : va_K (dC, dI) vwCl [(cT, .object "MainframeDesk$Thing"), (cC, .int), (cS, .long), (cA, .long), (cF, .int)] s) (hKm : va_K (dC, dI) vwCl [(cs, .long), (cm, .int), (ca, .long), (cf, .int), (ck, .int), (ct, .boolean), (cd, .long)] s) :
    ∀ (f t : Nat), L ≤ 5 * t + 5 * f → 5 * t ≤ L → ∀ (x3 : Int32), x3 = nI (5 * t) → ∀ (M : dM), lInv M t → ∀ (ad : Nat → Nat) (th wy : Int32) (H : Heap) (locs : List Loc) (cc ss : Nat), cc ≤ 14 + t → ss ≤ 1000 + 3 * t →
      va_P (dC, dI) vwCl (dWm h qT qC qS qA qF cT cC cS cA cF ad M) H → va_P (dC, dI) vwCl (rWm g qs qm qa qf qk qt qd cs cm ca cf ck ct cd (M, th, wy)) H → va_D (fun q : Nat => s.heap.size ≤ q) (dWm h qT qC qS qA qF cT cC cS cA cF ad M ++ rWm g qs qm qa qf qk qt qd cs cm ca cf ck ct cd (M, th, wy)) → va_S (fun q : Nat => s.heap.size ≤ q) s.heap H locs →
      ∀ (ls : Array Slot), lv_has ls 4 [(0, .ref b), (1, .ref h), (2, .ref g), (3, .int x3)] → W p l e room_1 s m #[Value.ref b] below meth c H locs cc ss (lw_Z below #[Value.ref b] s) (F0 m 18 ls []) := by
  obtain ⟨hx, hb, hr, hml, hown, hts0, hX, hbl, hlocks, hgv⟩ := C0
  have hown : s.vm.findClass RL = some m.cls := hown
  have hts : ∀ w ∈ wsL_law, w.before #[Value.ref b] s = true := fun w h9 => hts0 w (wsL_law_in w h9)
  have hk13 : (Cond.constantLong RL 13 4294967295).before #[Value.ref b] s = true := hts0 _ (by decide +kernel)
  have hA : ∀ q : Nat, s.heap.size ≤ q → (fun q : Nat => s.heap.size ≤ q) q := fun _ h9 => h9
  have hbA : ¬ (fun q : Nat => s.heap.size ≤ q) b := Nat.not_le.mpr hbl
  generalize hAe : (fun q : Nat => s.heap.size ≤ q) = A at hA hbA ⊢
  intro f
  induction f with
  | zero =>
    intro t h1 h2 x3 hx3 M hI ad th wy H locs cc ss hcc hss hP hPm hD hS ls hl
    obtain ⟨n, kd, ok, cn, rc, rs, an, fl, t0, t1, t2, t3, t4, t5⟩ := M
    have hP : va_P (dC, dI) vwCl (dW h qT qC qS qA qF cT cC cS cA cF ad n kd ok cn rc rs an fl t0 t1 t2 t3 t4 t5) H := hP
    have hPm : va_P (dC, dI) vwCl (rW g qs qm qa qf qk qt qd cs cm ca cf ck ct cd n kd ok cn rc rs an fl t0 t1 t2 t3 t4 t5 th wy) H := hPm
    have hD : va_D A (dW h qT qC qS qA qF cT cC cS cA cF ad n kd ok cn rc rs an fl t0 t1 t2 t3 t4 t5 ++ rW g qs qm qa qf qk qt qd cs cm ca cf ck ct cd n kd ok cn rc rs an fl t0 t1 t2 t3 t4 t5 th wy) := hD
    refine lv_iload_n hx hb dL_law_18 rfl (lv_at hl 3 rfl) ?_
    refine lv_aload_n hx hb dL_law_19 rfl (lv_at hl 0 rfl) ?_
    refine va_slen hx hb hX hbl hbA hS dL_law_20 ?_
    refine W.eq (g2 := F0 m 21 ls [.int (nI L), .int x3]) rfl ?_
    refine lv_iconst (v := 5) hx hb dL_law_21 (by decide) ?_
    refine lv_isub hx hb dL_law_22 ?_
    refine lv_topi (fun z_183 ez_183 => ?_)
    refine lv_icmp_gt (tgt := 489) hx hb dL_law_23 (by decide) (fun c_184 => ?_) (fun c_184 => ?_)
    · refine lv_iconst (v := 1) hx hb dL_law_489 (by decide) ?_
      subst hAe
      refine va_forget (fun q hq => hS.2.2 q hq) ?_
      refine W.widen (k := 812163) (n := 6665758) (by omega) (by omega) ?_
      exact lw_ret hx hb hr hlocks dL_law_490
    · exact absurd (by rw [ez_183, hx3]; exact (lw_cmp hL h2).mpr (by omega)) c_184
  | succ f ih =>
    intro t h1 h2 x3 hx3 M hI ad th wy H locs cc ss hcc hss hP hPm hD hS ls hl
    obtain ⟨n, kd, ok, cn, rc, rs, an, fl, t0, t1, t2, t3, t4, t5⟩ := M
    have hP : va_P (dC, dI) vwCl (dW h qT qC qS qA qF cT cC cS cA cF ad n kd ok cn rc rs an fl t0 t1 t2 t3 t4 t5) H := hP
    have hPm : va_P (dC, dI) vwCl (rW g qs qm qa qf qk qt qd cs cm ca cf ck ct cd n kd ok cn rc rs an fl t0 t1 t2 t3 t4 t5 th wy) H := hPm
    have hD : va_D A (dW h qT qC qS qA qF cT cC cS cA cF ad n kd ok cn rc rs an fl t0 t1 t2 t3 t4 t5 ++ rW g qs qm qa qf qk qt qd cs cm ca cf ck ct cd n kd ok cn rc rs an fl t0 t1 t2 t3 t4 t5 th wy) := hD
    refine lv_iload_n hx hb dL_law_18 rfl (lv_at hl 3 rfl) ?_
    refine lv_aload_n hx hb dL_law_19 rfl (lv_at hl 0 rfl) ?_
    refine va_slen hx hb hX hbl hbA hS dL_law_20 ?_
    refine W.eq (g2 := F0 m 21 ls [.int (nI L), .int x3]) rfl ?_
    refine lv_iconst (v := 5) hx hb dL_law_21 (by decide) ?_
    refine lv_isub hx hb dL_law_22 ?_
    refine lv_topi (fun z_185 ez_185 => ?_)
    refine lv_icmp_gt (tgt := 489) hx hb dL_law_23 (by decide) (fun c_186 => ?_) (fun c_186 => ?_)
    · refine lv_iconst (v := 1) hx hb dL_law_489 (by decide) ?_
      subst hAe
      refine va_forget (fun q hq => hS.2.2 q hq) ?_
      refine W.widen (k := 812163) (n := 6665758) (by omega) (by omega) ?_
      exact lw_ret hx hb hr hlocks dL_law_490
    · have hlt : 5 * t + 5 ≤ L := by
        rcases Nat.lt_or_ge L (5 * t + 5) with q | q
        · exact absurd (by rw [ez_185, hx3]; exact (lw_cmp hL h2).mpr q) c_186
        · exact q
      have h0in : vp_in x3 L := by rw [hx3]; exact vp_in_nI (by omega) (by omega)
      refine lv_aload_n hx hb dL_law_26 rfl (lv_at hl 0 rfl) ?_
      refine lv_iload_n hx hb dL_law_27 rfl (lv_at hl 3 rfl) ?_
      refine va_sld hx hb hX hbl hbA hS h0in dL_law_28 ?_
      refine lv_topi (fun v_187 ev_187 => ?_)
      refine lv_bipush (v := 15) hx hb dL_law_29 (by decide) ?_
      refine lv_iand hx hb dL_law_31 ?_
      refine lv_topi (fun z_188 ez_188 => ?_)
      by_cases hs_189 : z_188 = 0
      · refine lv_tableIn (off := 52) (tgt := 84) hx hb dL_law_32 (by rw [hs_189]; decide) (by rw [hs_189]; decide) (by rw [hs_189]; rfl) (by decide) ?_
        refine lv_aload_n hx hb dL_law_84 rfl (lv_at hl 1 rfl) ?_
        refine lv_aload_n hx hb dL_law_85 rfl (lv_at hl 0 rfl) ?_
        refine lv_iload_n hx hb dL_law_86 rfl (lv_at hl 3 rfl) ?_
        refine lv_iconst (v := 1) hx hb dL_law_87 (by decide) ?_
        refine lv_iadd hx hb dL_law_88 ?_
        refine lv_topi (fun z_190 ez_190 => ?_)
        have hz_190 : vp_in z_190 L := by rw [ez_190, hx3]; exact lw_in (k := 1) hL (by omega)
        refine va_sld hx hb hX hbl hbA hS hz_190 dL_law_89 ?_
        refine lv_topi (fun v_191 ev_191 => ?_)
        refine lv_aload_n hx hb dL_law_90 rfl (lv_at hl 0 rfl) ?_
        refine lv_iload_n hx hb dL_law_91 rfl (lv_at hl 3 rfl) ?_
        refine lv_iconst (v := 2) hx hb dL_law_92 (by decide) ?_
        refine lv_iadd hx hb dL_law_93 ?_
        refine lv_topi (fun z_192 ez_192 => ?_)
        have hz_192 : vp_in z_192 L := by rw [ez_192, hx3]; exact lw_in (k := 2) hL (by omega)
        refine va_sld hx hb hX hbl hbA hS hz_192 dL_law_94 ?_
        refine lv_topi (fun v_193 ev_193 => ?_)
        refine lv_i2l (v := v_193.toInt64) hx hb dL_law_95 rfl ?_
        refine lv_bipush (v := 32) hx hb dL_law_96 (by decide) ?_
        refine lv_lshl (v := v_193.toInt64 <<< ((32 : Int32).toInt64 &&& 63)) hx hb dL_law_98 rfl ?_
        refine lv_aload_n hx hb dL_law_99 rfl (lv_at hl 0 rfl) ?_
        refine lv_iload_n hx hb dL_law_100 rfl (lv_at hl 3 rfl) ?_
        refine lv_iconst (v := 3) hx hb dL_law_101 (by decide) ?_
        refine lv_iadd hx hb dL_law_102 ?_
        refine lv_topi (fun z_194 ez_194 => ?_)
        have hz_194 : vp_in z_194 L := by rw [ez_194, hx3]; exact lw_in (k := 3) hL (by omega)
        refine va_sld hx hb hX hbl hbA hS hz_194 dL_law_103 ?_
        refine lv_topi (fun v_195 ev_195 => ?_)
        refine lv_i2l (v := v_195.toInt64) hx hb dL_law_104 rfl ?_
        refine lv_ldc2 (v := 4294967295) hx hb hown hk13 dL_law_105 ?_
        refine lv_land hx hb dL_law_108 ?_
        refine lv_topl (fun z_196 ez_196 => ?_)
        refine lv_lor hx hb dL_law_109 ?_
        refine lv_topl (fun z_197 ez_197 => ?_)
        have hFc := kx_fr (kx_D1 hD) hS hA
        refine va_calli (va_runV (As := [.int v_191, .long z_197]) (rest := []) ⟨hx, hb, hml, hown, hts⟩ (c_collect l dC dI h qT qC qS qA qF cT cC cS cA cF ad n kd ok cn rc rs an fl t0 t1 t2 t3 t4 t5  H.size v_191 z_197) (cwV 2 hts gL_law_X1_collect rfl rfl rfl (by decide +kernel) ⟨Nat.le_of_ble_eq_true rfl, Nat.le_of_ble_eq_true rfl⟩) ⟨dQ_bl, va_recv hK hP (ci := 1) (q0 := 0) rfl rfl, fun U hU hW => ⟨rfl, dQ_at hU hW hP hK (kx_D1 hD) hN⟩⟩ rfl rfl hl.1 rfl (lv_room (Nat.le_of_ble_eq_true rfl)) dL_law_110 ⟨(show cc + 0 ≤ 812163 by omega), (show ss + 0 ≤ 6665758 by omega)⟩) hS (fun q _ h9 => hFc q h9) hFc (fun r_198 u t9 H1 locs ht hvm hw hB hz1 hk1 hS => ?_)
        obtain ⟨hP, hD1⟩ := hB
        rw [ht] at hP
        obtain ⟨hPm, hD⟩ := kx_jn hPm hD hk1 hFc hD1
        have hP : va_P (dC, dI) vwCl (dWm h qT qC qS qA qF cT cC cS cA cF ad u) H1 := hP
        generalize H1 = H at hP hPm hS ⊢
        have hD : va_D A (dWm h qT qC qS qA qF cT cC cS cA cF ad u ++ rW g qs qm qa qf qk qt qd cs cm ca cf ck ct cd n kd ok cn rc rs an fl t0 t1 t2 t3 t4 t5 th wy) := hD
        refine lv_aload_n hx hb dL_law_113 rfl (lv_at hl 2 rfl) ?_
        refine lv_aload_n hx hb dL_law_114 rfl (lv_at hl 0 rfl) ?_
        refine lv_iload_n hx hb dL_law_115 rfl (lv_at hl 3 rfl) ?_
        refine lv_iconst (v := 1) hx hb dL_law_116 (by decide) ?_
        refine lv_iadd hx hb dL_law_117 ?_
        refine lv_topi (fun z_199 ez_199 => ?_)
        have hh : z_190 = z_199 := ez_190.trans ez_199.symm
        subst hh
        refine va_sld hx hb hX hbl hbA hS hz_190 dL_law_118 ?_
        refine lv_topi (fun v_200 ev_200 => ?_)
        have hh : v_191 = v_200 := ev_191.trans ev_200.symm
        subst hh
        refine lv_aload_n hx hb dL_law_119 rfl (lv_at hl 0 rfl) ?_
        refine lv_iload_n hx hb dL_law_120 rfl (lv_at hl 3 rfl) ?_
        refine lv_iconst (v := 2) hx hb dL_law_121 (by decide) ?_
        refine lv_iadd hx hb dL_law_122 ?_
        refine lv_topi (fun z_201 ez_201 => ?_)
        have hh : z_192 = z_201 := ez_192.trans ez_201.symm
        subst hh
        refine va_sld hx hb hX hbl hbA hS hz_192 dL_law_123 ?_
        refine lv_topi (fun v_202 ev_202 => ?_)
        have hh : v_193 = v_202 := ev_193.trans ev_202.symm
        subst hh
        refine lv_i2l (v := v_193.toInt64) hx hb dL_law_124 rfl ?_
        refine lv_bipush (v := 32) hx hb dL_law_125 (by decide) ?_
        refine lv_lshl (v := v_193.toInt64 <<< ((32 : Int32).toInt64 &&& 63)) hx hb dL_law_127 rfl ?_
        refine lv_aload_n hx hb dL_law_128 rfl (lv_at hl 0 rfl) ?_
        refine lv_iload_n hx hb dL_law_129 rfl (lv_at hl 3 rfl) ?_
        refine lv_iconst (v := 3) hx hb dL_law_130 (by decide) ?_
        refine lv_iadd hx hb dL_law_131 ?_
        refine lv_topi (fun z_203 ez_203 => ?_)
        have hh : z_194 = z_203 := ez_194.trans ez_203.symm
        subst hh
        refine va_sld hx hb hX hbl hbA hS hz_194 dL_law_132 ?_
        refine lv_topi (fun v_204 ev_204 => ?_)
        have hh : v_195 = v_204 := ev_195.trans ev_204.symm
        subst hh
        refine lv_i2l (v := v_195.toInt64) hx hb dL_law_133 rfl ?_
        refine lv_ldc2 (v := 4294967295) hx hb hown hk13 dL_law_134 ?_
        refine lv_land hx hb dL_law_137 ?_
        refine lv_topl (fun z_205 ez_205 => ?_)
        have hh : z_196 = z_205 := ez_196.trans ez_205.symm
        subst hh
        refine lv_lor hx hb dL_law_138 ?_
        refine lv_topl (fun z_206 ez_206 => ?_)
        have hh : z_197 = z_206 := ez_197.trans ez_206.symm
        subst hh
        have hDx := kx_Dc hD
        have hFm := kx_fr (kx_D1 hDx) hS hA
        refine va_calli (va_runV (As := [.int v_191, .long z_197]) (rest := [.int r_198]) ⟨hx, hb, hml, hown, hts⟩ (r_collect l dC dI g qs qm qa qf qk qt qd cs cm ca cf ck ct cd n kd ok cn rc rs an fl t0 t1 t2 t3 t4 t5 th wy hI.2.1 H.size v_191 z_197) (cwV 2 hts gL_law_X2_collect rfl rfl rfl (by decide +kernel) ⟨Nat.le_of_ble_eq_true rfl, Nat.le_of_ble_eq_true rfl⟩) ⟨rQ_bl, va_recv hKm hPm (ci := 2) (q0 := 0) rfl rfl, fun U hU hW => ⟨rfl, rQ_at hU hW hPm hKm (kx_D1 hDx)⟩⟩ rfl rfl hl.1 rfl (lv_room (Nat.le_of_ble_eq_true rfl)) dL_law_139 ⟨(show cc + 0 + 0 ≤ 812163 by omega), (show ss + 0 + 0 ≤ 6665758 by omega)⟩) hS (fun q _ h9 => hFm q h9) hFm (fun r_207 u2 t8 H2 locs ht2 hvm2 hw2 hB2 hz2 hk2 hS => ?_)
        obtain ⟨u2, th2, wy2⟩ := u2
        obtain ⟨hPm, hDm⟩ := hB2
        rw [ht2] at hPm
        obtain ⟨hP, hDz⟩ := kx_jn hP hDx hk2 hFm hDm
        have hD := kx_Dc hDz
        have e1 : r_198 = r_207 := (Prod.mk.inj (hw.trans hw2.symm)).1
        have e2 : u = u2 := (Prod.mk.inj (hw.trans hw2.symm)).2
        subst e2
        have hi : lInv u (t + 1) := by rw [show u = (mCollect (n, kd, ok, cn, rc, rs, an, fl, t0, t1, t2, t3, t4, t5) v_191 z_197).2 from congrArg Prod.snd hw]; exact inv_collect hI
        refine lv_icmp_eq (tgt := 483) hx hb dL_law_142 (by decide) (fun c_208 => ?_) (fun c_208 => ?_)
        · obtain ⟨i_209, ei_209⟩ : ∃ y : Int32, y = x3 + 5 := ⟨_, rfl⟩
          refine lv_iinc (v := i_209) (lv' := [(3, .int i_209), (0, .ref b), (1, .ref h), (2, .ref g)]) hx hb dL_law_483 hl (k := 3) rfl (by rw [ei_209]; rfl) (by decide) rfl (fun ls hl => ?_)
          refine lv_goto (tgt := 18) hx hb dL_law_486 (by decide) ?_
          exact ih (t + 1) (by omega) (by omega) i_209 (by rw [ei_209, hx3]; exact nI_add (5 * t) 5) u hi ad th2 wy2 H2 locs _ _ (by omega) (by omega) hP hPm hD hS ls (lv_sub hl [1, 2, 3, 0] rfl)
        · exact absurd e1 c_208
      · by_cases hs_210 : z_188 = 1
        · refine lv_tableIn (off := 115) (tgt := 147) hx hb dL_law_32 (by rw [hs_210]; decide) (by rw [hs_210]; decide) (by rw [hs_210]; rfl) (by decide) ?_
          refine lv_aload_n hx hb dL_law_147 rfl (lv_at hl 1 rfl) ?_
          refine lv_aload_n hx hb dL_law_148 rfl (lv_at hl 0 rfl) ?_
          refine lv_iload_n hx hb dL_law_149 rfl (lv_at hl 3 rfl) ?_
          refine lv_iconst (v := 1) hx hb dL_law_150 (by decide) ?_
          refine lv_iadd hx hb dL_law_151 ?_
          refine lv_topi (fun z_211 ez_211 => ?_)
          have hz_211 : vp_in z_211 L := by rw [ez_211, hx3]; exact lw_in (k := 1) hL (by omega)
          refine va_sld hx hb hX hbl hbA hS hz_211 dL_law_152 ?_
          refine lv_topi (fun v_212 ev_212 => ?_)
          refine lv_aload_n hx hb dL_law_153 rfl (lv_at hl 0 rfl) ?_
          refine lv_iload_n hx hb dL_law_154 rfl (lv_at hl 3 rfl) ?_
          refine lv_iconst (v := 2) hx hb dL_law_155 (by decide) ?_
          refine lv_iadd hx hb dL_law_156 ?_
          refine lv_topi (fun z_213 ez_213 => ?_)
          have hz_213 : vp_in z_213 L := by rw [ez_213, hx3]; exact lw_in (k := 2) hL (by omega)
          refine va_sld hx hb hX hbl hbA hS hz_213 dL_law_157 ?_
          refine lv_topi (fun v_214 ev_214 => ?_)
          refine lv_i2l (v := v_214.toInt64) hx hb dL_law_158 rfl ?_
          refine lv_bipush (v := 32) hx hb dL_law_159 (by decide) ?_
          refine lv_lshl (v := v_214.toInt64 <<< ((32 : Int32).toInt64 &&& 63)) hx hb dL_law_161 rfl ?_
          refine lv_aload_n hx hb dL_law_162 rfl (lv_at hl 0 rfl) ?_
          refine lv_iload_n hx hb dL_law_163 rfl (lv_at hl 3 rfl) ?_
          refine lv_iconst (v := 3) hx hb dL_law_164 (by decide) ?_
          refine lv_iadd hx hb dL_law_165 ?_
          refine lv_topi (fun z_215 ez_215 => ?_)
          have hz_215 : vp_in z_215 L := by rw [ez_215, hx3]; exact lw_in (k := 3) hL (by omega)
          refine va_sld hx hb hX hbl hbA hS hz_215 dL_law_166 ?_
          refine lv_topi (fun v_216 ev_216 => ?_)
          refine lv_i2l (v := v_216.toInt64) hx hb dL_law_167 rfl ?_
          refine lv_ldc2 (v := 4294967295) hx hb hown hk13 dL_law_168 ?_
          refine lv_land hx hb dL_law_171 ?_
          refine lv_topl (fun z_217 ez_217 => ?_)
          refine lv_lor hx hb dL_law_172 ?_
          refine lv_topl (fun z_218 ez_218 => ?_)
          have hFc := kx_fr (kx_D1 hD) hS hA
          refine va_calli (va_runV (As := [.int v_212, .long z_218]) (rest := []) ⟨hx, hb, hml, hown, hts⟩ (c_answer l dC dI h qT qC qS qA qF cT cC cS cA cF ad n kd ok cn rc rs an fl t0 t1 t2 t3 t4 t5  H.size v_212 z_218) (cwV 2 hts gL_law_X1_answer rfl rfl rfl (by decide +kernel) ⟨Nat.le_of_ble_eq_true rfl, Nat.le_of_ble_eq_true rfl⟩) ⟨dQ_bl, va_recv hK hP (ci := 1) (q0 := 0) rfl rfl, fun U hU hW => ⟨rfl, dQ_at hU hW hP hK (kx_D1 hD) hN⟩⟩ rfl rfl hl.1 rfl (lv_room (Nat.le_of_ble_eq_true rfl)) dL_law_173 ⟨(show cc + 0 ≤ 812163 by omega), (show ss + 0 ≤ 6665758 by omega)⟩) hS (fun q _ h9 => hFc q h9) hFc (fun r_219 u t9 H1 locs ht hvm hw hB hz1 hk1 hS => ?_)
          obtain ⟨hP, hD1⟩ := hB
          rw [ht] at hP
          obtain ⟨hPm, hD⟩ := kx_jn hPm hD hk1 hFc hD1
          have hP : va_P (dC, dI) vwCl (dWm h qT qC qS qA qF cT cC cS cA cF ad u) H1 := hP
          generalize H1 = H at hP hPm hS ⊢
          have hD : va_D A (dWm h qT qC qS qA qF cT cC cS cA cF ad u ++ rW g qs qm qa qf qk qt qd cs cm ca cf ck ct cd n kd ok cn rc rs an fl t0 t1 t2 t3 t4 t5 th wy) := hD
          refine lv_aload_n hx hb dL_law_176 rfl (lv_at hl 2 rfl) ?_
          refine lv_aload_n hx hb dL_law_177 rfl (lv_at hl 0 rfl) ?_
          refine lv_iload_n hx hb dL_law_178 rfl (lv_at hl 3 rfl) ?_
          refine lv_iconst (v := 1) hx hb dL_law_179 (by decide) ?_
          refine lv_iadd hx hb dL_law_180 ?_
          refine lv_topi (fun z_220 ez_220 => ?_)
          have hh : z_211 = z_220 := ez_211.trans ez_220.symm
          subst hh
          refine va_sld hx hb hX hbl hbA hS hz_211 dL_law_181 ?_
          refine lv_topi (fun v_221 ev_221 => ?_)
          have hh : v_212 = v_221 := ev_212.trans ev_221.symm
          subst hh
          refine lv_aload_n hx hb dL_law_182 rfl (lv_at hl 0 rfl) ?_
          refine lv_iload_n hx hb dL_law_183 rfl (lv_at hl 3 rfl) ?_
          refine lv_iconst (v := 2) hx hb dL_law_184 (by decide) ?_
          refine lv_iadd hx hb dL_law_185 ?_
          refine lv_topi (fun z_222 ez_222 => ?_)
          have hh : z_213 = z_222 := ez_213.trans ez_222.symm
          subst hh
          refine va_sld hx hb hX hbl hbA hS hz_213 dL_law_186 ?_
          refine lv_topi (fun v_223 ev_223 => ?_)
          have hh : v_214 = v_223 := ev_214.trans ev_223.symm
          subst hh
          refine lv_i2l (v := v_214.toInt64) hx hb dL_law_187 rfl ?_
          refine lv_bipush (v := 32) hx hb dL_law_188 (by decide) ?_
          refine lv_lshl (v := v_214.toInt64 <<< ((32 : Int32).toInt64 &&& 63)) hx hb dL_law_190 rfl ?_
          refine lv_aload_n hx hb dL_law_191 rfl (lv_at hl 0 rfl) ?_
          refine lv_iload_n hx hb dL_law_192 rfl (lv_at hl 3 rfl) ?_
          refine lv_iconst (v := 3) hx hb dL_law_193 (by decide) ?_
          refine lv_iadd hx hb dL_law_194 ?_
          refine lv_topi (fun z_224 ez_224 => ?_)
          have hh : z_215 = z_224 := ez_215.trans ez_224.symm
          subst hh
          refine va_sld hx hb hX hbl hbA hS hz_215 dL_law_195 ?_
          refine lv_topi (fun v_225 ev_225 => ?_)
          have hh : v_216 = v_225 := ev_216.trans ev_225.symm
          subst hh
          refine lv_i2l (v := v_216.toInt64) hx hb dL_law_196 rfl ?_
          refine lv_ldc2 (v := 4294967295) hx hb hown hk13 dL_law_197 ?_
          refine lv_land hx hb dL_law_200 ?_
          refine lv_topl (fun z_226 ez_226 => ?_)
          have hh : z_217 = z_226 := ez_217.trans ez_226.symm
          subst hh
          refine lv_lor hx hb dL_law_201 ?_
          refine lv_topl (fun z_227 ez_227 => ?_)
          have hh : z_218 = z_227 := ez_218.trans ez_227.symm
          subst hh
          have hDx := kx_Dc hD
          have hFm := kx_fr (kx_D1 hDx) hS hA
          refine va_calli (va_runV (As := [.int v_212, .long z_218]) (rest := [.int r_219]) ⟨hx, hb, hml, hown, hts⟩ (r_answer l dC dI g qs qm qa qf qk qt qd cs cm ca cf ck ct cd n kd ok cn rc rs an fl t0 t1 t2 t3 t4 t5 th wy  H.size v_212 z_218) (cwV 2 hts gL_law_X2_answer rfl rfl rfl (by decide +kernel) ⟨Nat.le_of_ble_eq_true rfl, Nat.le_of_ble_eq_true rfl⟩) ⟨rQ_bl, va_recv hKm hPm (ci := 2) (q0 := 0) rfl rfl, fun U hU hW => ⟨rfl, rQ_at hU hW hPm hKm (kx_D1 hDx)⟩⟩ rfl rfl hl.1 rfl (lv_room (Nat.le_of_ble_eq_true rfl)) dL_law_202 ⟨(show cc + 0 + 0 ≤ 812163 by omega), (show ss + 0 + 0 ≤ 6665758 by omega)⟩) hS (fun q _ h9 => hFm q h9) hFm (fun r_228 u2 t8 H2 locs ht2 hvm2 hw2 hB2 hz2 hk2 hS => ?_)
          obtain ⟨u2, th2, wy2⟩ := u2
          obtain ⟨hPm, hDm⟩ := hB2
          rw [ht2] at hPm
          obtain ⟨hP, hDz⟩ := kx_jn hP hDx hk2 hFm hDm
          have hD := kx_Dc hDz
          have e1 : r_219 = r_228 := (Prod.mk.inj (hw.trans hw2.symm)).1
          have e2 : u = u2 := (Prod.mk.inj (hw.trans hw2.symm)).2
          subst e2
          have hi : lInv u (t + 1) := by rw [show u = (mAnswer (n, kd, ok, cn, rc, rs, an, fl, t0, t1, t2, t3, t4, t5) v_212 z_218).2 from congrArg Prod.snd hw]; exact inv_answer hI
          refine lv_icmp_eq (tgt := 483) hx hb dL_law_205 (by decide) (fun c_229 => ?_) (fun c_229 => ?_)
          · obtain ⟨i_230, ei_230⟩ : ∃ y : Int32, y = x3 + 5 := ⟨_, rfl⟩
            refine lv_iinc (v := i_230) (lv' := [(3, .int i_230), (0, .ref b), (1, .ref h), (2, .ref g)]) hx hb dL_law_483 hl (k := 3) rfl (by rw [ei_230]; rfl) (by decide) rfl (fun ls hl => ?_)
            refine lv_goto (tgt := 18) hx hb dL_law_486 (by decide) ?_
            exact ih (t + 1) (by omega) (by omega) i_230 (by rw [ei_230, hx3]; exact nI_add (5 * t) 5) u hi ad th2 wy2 H2 locs _ _ (by omega) (by omega) hP hPm hD hS ls (lv_sub hl [1, 2, 3, 0] rfl)
          · exact absurd e1 c_229
        · by_cases hs_231 : z_188 = 2
          · refine lv_tableIn (off := 178) (tgt := 210) hx hb dL_law_32 (by rw [hs_231]; decide) (by rw [hs_231]; decide) (by rw [hs_231]; rfl) (by decide) ?_
            refine lv_aload_n hx hb dL_law_210 rfl (lv_at hl 1 rfl) ?_
            refine lv_aload_n hx hb dL_law_211 rfl (lv_at hl 0 rfl) ?_
            refine lv_iload_n hx hb dL_law_212 rfl (lv_at hl 3 rfl) ?_
            refine lv_iconst (v := 1) hx hb dL_law_213 (by decide) ?_
            refine lv_iadd hx hb dL_law_214 ?_
            refine lv_topi (fun z_232 ez_232 => ?_)
            have hz_232 : vp_in z_232 L := by rw [ez_232, hx3]; exact lw_in (k := 1) hL (by omega)
            refine va_sld hx hb hX hbl hbA hS hz_232 dL_law_215 ?_
            refine lv_topi (fun v_233 ev_233 => ?_)
            refine lv_aload_n hx hb dL_law_216 rfl (lv_at hl 0 rfl) ?_
            refine lv_iload_n hx hb dL_law_217 rfl (lv_at hl 3 rfl) ?_
            refine lv_iconst (v := 2) hx hb dL_law_218 (by decide) ?_
            refine lv_iadd hx hb dL_law_219 ?_
            refine lv_topi (fun z_234 ez_234 => ?_)
            have hz_234 : vp_in z_234 L := by rw [ez_234, hx3]; exact lw_in (k := 2) hL (by omega)
            refine va_sld hx hb hX hbl hbA hS hz_234 dL_law_220 ?_
            refine lv_topi (fun v_235 ev_235 => ?_)
            have hFc := kx_fr (kx_D1 hD) hS hA
            refine va_calli (va_runV (As := [.int v_233, .int v_235]) (rest := []) ⟨hx, hb, hml, hown, hts⟩ (c_fails l dC dI h qT qC qS qA qF cT cC cS cA cF ad n kd ok cn rc rs an fl t0 t1 t2 t3 t4 t5  H.size v_233 v_235) (cwV 2 hts gL_law_X1_fails rfl rfl rfl (by decide +kernel) ⟨Nat.le_of_ble_eq_true rfl, Nat.le_of_ble_eq_true rfl⟩) ⟨dQ_bl, va_recv hK hP (ci := 1) (q0 := 0) rfl rfl, fun U hU hW => ⟨rfl, dQ_at hU hW hP hK (kx_D1 hD) hN⟩⟩ rfl rfl hl.1 rfl (lv_room (Nat.le_of_ble_eq_true rfl)) dL_law_221 ⟨(show cc + 0 ≤ 812163 by omega), (show ss + 0 ≤ 6665758 by omega)⟩) hS (fun q _ h9 => hFc q h9) hFc (fun r_236 u t9 H1 locs ht hvm hw hB hz1 hk1 hS => ?_)
            obtain ⟨hP, hD1⟩ := hB
            rw [ht] at hP
            obtain ⟨hPm, hD⟩ := kx_jn hPm hD hk1 hFc hD1
            have hP : va_P (dC, dI) vwCl (dWm h qT qC qS qA qF cT cC cS cA cF ad u) H1 := hP
            generalize H1 = H at hP hPm hS ⊢
            have hD : va_D A (dWm h qT qC qS qA qF cT cC cS cA cF ad u ++ rW g qs qm qa qf qk qt qd cs cm ca cf ck ct cd n kd ok cn rc rs an fl t0 t1 t2 t3 t4 t5 th wy) := hD
            refine lv_aload_n hx hb dL_law_224 rfl (lv_at hl 2 rfl) ?_
            refine lv_aload_n hx hb dL_law_225 rfl (lv_at hl 0 rfl) ?_
            refine lv_iload_n hx hb dL_law_226 rfl (lv_at hl 3 rfl) ?_
            refine lv_iconst (v := 1) hx hb dL_law_227 (by decide) ?_
            refine lv_iadd hx hb dL_law_228 ?_
            refine lv_topi (fun z_237 ez_237 => ?_)
            have hh : z_232 = z_237 := ez_232.trans ez_237.symm
            subst hh
            refine va_sld hx hb hX hbl hbA hS hz_232 dL_law_229 ?_
            refine lv_topi (fun v_238 ev_238 => ?_)
            have hh : v_233 = v_238 := ev_233.trans ev_238.symm
            subst hh
            refine lv_aload_n hx hb dL_law_230 rfl (lv_at hl 0 rfl) ?_
            refine lv_iload_n hx hb dL_law_231 rfl (lv_at hl 3 rfl) ?_
            refine lv_iconst (v := 2) hx hb dL_law_232 (by decide) ?_
            refine lv_iadd hx hb dL_law_233 ?_
            refine lv_topi (fun z_239 ez_239 => ?_)
            have hh : z_234 = z_239 := ez_234.trans ez_239.symm
            subst hh
            refine va_sld hx hb hX hbl hbA hS hz_234 dL_law_234 ?_
            refine lv_topi (fun v_240 ev_240 => ?_)
            have hh : v_235 = v_240 := ev_235.trans ev_240.symm
            subst hh
            have hDx := kx_Dc hD
            have hFm := kx_fr (kx_D1 hDx) hS hA
            refine va_calli (va_runV (As := [.int v_233, .int v_235]) (rest := [.int r_236]) ⟨hx, hb, hml, hown, hts⟩ (r_fails l dC dI g qs qm qa qf qk qt qd cs cm ca cf ck ct cd n kd ok cn rc rs an fl t0 t1 t2 t3 t4 t5 th wy  H.size v_233 v_235) (cwV 2 hts gL_law_X2_fails rfl rfl rfl (by decide +kernel) ⟨Nat.le_of_ble_eq_true rfl, Nat.le_of_ble_eq_true rfl⟩) ⟨rQ_bl, va_recv hKm hPm (ci := 2) (q0 := 0) rfl rfl, fun U hU hW => ⟨rfl, rQ_at hU hW hPm hKm (kx_D1 hDx)⟩⟩ rfl rfl hl.1 rfl (lv_room (Nat.le_of_ble_eq_true rfl)) dL_law_235 ⟨(show cc + 0 + 0 ≤ 812163 by omega), (show ss + 0 + 0 ≤ 6665758 by omega)⟩) hS (fun q _ h9 => hFm q h9) hFm (fun r_241 u2 t8 H2 locs ht2 hvm2 hw2 hB2 hz2 hk2 hS => ?_)
            obtain ⟨u2, th2, wy2⟩ := u2
            obtain ⟨hPm, hDm⟩ := hB2
            rw [ht2] at hPm
            obtain ⟨hP, hDz⟩ := kx_jn hP hDx hk2 hFm hDm
            have hD := kx_Dc hDz
            have e1 : r_236 = r_241 := (Prod.mk.inj (hw.trans hw2.symm)).1
            have e2 : u = u2 := (Prod.mk.inj (hw.trans hw2.symm)).2
            subst e2
            have hi : lInv u (t + 1) := by rw [show u = (mFails (n, kd, ok, cn, rc, rs, an, fl, t0, t1, t2, t3, t4, t5) v_233 v_235).2 from congrArg Prod.snd hw]; exact inv_fails hI
            refine lv_icmp_eq (tgt := 483) hx hb dL_law_238 (by decide) (fun c_242 => ?_) (fun c_242 => ?_)
            · obtain ⟨i_243, ei_243⟩ : ∃ y : Int32, y = x3 + 5 := ⟨_, rfl⟩
              refine lv_iinc (v := i_243) (lv' := [(3, .int i_243), (0, .ref b), (1, .ref h), (2, .ref g)]) hx hb dL_law_483 hl (k := 3) rfl (by rw [ei_243]; rfl) (by decide) rfl (fun ls hl => ?_)
              refine lv_goto (tgt := 18) hx hb dL_law_486 (by decide) ?_
              exact ih (t + 1) (by omega) (by omega) i_243 (by rw [ei_243, hx3]; exact nI_add (5 * t) 5) u hi ad th2 wy2 H2 locs _ _ (by omega) (by omega) hP hPm hD hS ls (lv_sub hl [1, 2, 3, 0] rfl)
            · exact absurd e1 c_242
          · by_cases hs_244 : z_188 = 3
            · refine lv_tableIn (off := 211) (tgt := 243) hx hb dL_law_32 (by rw [hs_244]; decide) (by rw [hs_244]; decide) (by rw [hs_244]; rfl) (by decide) ?_
              refine lv_aload_n hx hb dL_law_243 rfl (lv_at hl 1 rfl) ?_
              refine lv_aload_n hx hb dL_law_244 rfl (lv_at hl 0 rfl) ?_
              refine lv_iload_n hx hb dL_law_245 rfl (lv_at hl 3 rfl) ?_
              refine lv_iconst (v := 1) hx hb dL_law_246 (by decide) ?_
              refine lv_iadd hx hb dL_law_247 ?_
              refine lv_topi (fun z_245 ez_245 => ?_)
              have hz_245 : vp_in z_245 L := by rw [ez_245, hx3]; exact lw_in (k := 1) hL (by omega)
              refine va_sld hx hb hX hbl hbA hS hz_245 dL_law_248 ?_
              refine lv_topi (fun v_246 ev_246 => ?_)
              have hFc := kx_fr (kx_D1 hD) hS hA
              refine va_calli (va_runV (As := [.int v_246]) (rest := []) ⟨hx, hb, hml, hown, hts⟩ (c_make l dC dI h qT qC qS qA qF cT cC cS cA cF ad n kd ok cn rc rs an fl t0 t1 t2 t3 t4 t5 hI.1 H.size v_246) (cwV 1 hts gL_law_X1_make rfl rfl rfl (by decide +kernel) ⟨Nat.le_of_ble_eq_true rfl, Nat.le_of_ble_eq_true rfl⟩) ⟨dQ_bl, va_recv hK hP (ci := 1) (q0 := 0) rfl rfl, fun U hU hW => ⟨rfl, dQ_at hU hW hP hK (kx_D1 hD) hN⟩⟩ rfl rfl hl.1 rfl (lv_room (Nat.le_of_ble_eq_true rfl)) dL_law_249 ⟨(show cc + 1 ≤ 812163 by omega), (show ss + 3 ≤ 6665758 by omega)⟩) hS (fun q _ h9 => hFc q h9) hFc (fun r_247 u t9 H1 locs ht hvm hw hB hz1 hk1 hS => ?_)
              obtain ⟨u, ad1⟩ := u
              obtain ⟨hP, hD1⟩ := hB
              rw [ht] at hP
              obtain ⟨hPm, hD⟩ := kx_jn hPm hD hk1 hFc hD1
              have hP : va_P (dC, dI) vwCl (dWm h qT qC qS qA qF cT cC cS cA cF ad1 u) H1 := hP
              generalize H1 = H at hP hPm hS ⊢
              have hD : va_D A (dWm h qT qC qS qA qF cT cC cS cA cF ad1 u ++ rW g qs qm qa qf qk qt qd cs cm ca cf ck ct cd n kd ok cn rc rs an fl t0 t1 t2 t3 t4 t5 th wy) := hD
              refine lv_aload_n hx hb dL_law_252 rfl (lv_at hl 2 rfl) ?_
              refine lv_aload_n hx hb dL_law_253 rfl (lv_at hl 0 rfl) ?_
              refine lv_iload_n hx hb dL_law_254 rfl (lv_at hl 3 rfl) ?_
              refine lv_iconst (v := 1) hx hb dL_law_255 (by decide) ?_
              refine lv_iadd hx hb dL_law_256 ?_
              refine lv_topi (fun z_248 ez_248 => ?_)
              have hh : z_245 = z_248 := ez_245.trans ez_248.symm
              subst hh
              refine va_sld hx hb hX hbl hbA hS hz_245 dL_law_257 ?_
              refine lv_topi (fun v_249 ev_249 => ?_)
              have hh : v_246 = v_249 := ev_246.trans ev_249.symm
              subst hh
              have hDx := kx_Dc hD
              have hFm := kx_fr (kx_D1 hDx) hS hA
              refine va_calli (va_runV (As := [.int v_246]) (rest := [.int r_247]) ⟨hx, hb, hml, hown, hts⟩ (r_make l dC dI g qs qm qa qf qk qt qd cs cm ca cf ck ct cd n kd ok cn rc rs an fl t0 t1 t2 t3 t4 t5 th wy hI.1 H.size v_246) (cwV 1 hts gL_law_X2_make rfl rfl rfl (by decide +kernel) ⟨Nat.le_of_ble_eq_true rfl, Nat.le_of_ble_eq_true rfl⟩) ⟨rQ_bl, va_recv hKm hPm (ci := 2) (q0 := 0) rfl rfl, fun U hU hW => ⟨rfl, rQ_at hU hW hPm hKm (kx_D1 hDx)⟩⟩ rfl rfl hl.1 rfl (lv_room (Nat.le_of_ble_eq_true rfl)) dL_law_258 ⟨(show cc + 1 + 0 ≤ 812163 by omega), (show ss + 3 + 0 ≤ 6665758 by omega)⟩) hS (fun q _ h9 => hFm q h9) hFm (fun r_250 u2 t8 H2 locs ht2 hvm2 hw2 hB2 hz2 hk2 hS => ?_)
              obtain ⟨u2, th2, wy2⟩ := u2
              obtain ⟨hPm, hDm⟩ := hB2
              rw [ht2] at hPm
              obtain ⟨hP, hDz⟩ := kx_jn hP hDx hk2 hFm hDm
              have hD := kx_Dc hDz
              have e1 : r_247 = r_250 := (Prod.mk.inj (hw.trans hw2.symm)).1
              have e2 : u = u2 := (Prod.mk.inj (hw.trans hw2.symm)).2
              subst e2
              have hi : lInv u (t + 1) := by rw [show u = (mMake (n, kd, ok, cn, rc, rs, an, fl, t0, t1, t2, t3, t4, t5) v_246).2 from congrArg Prod.snd hw]; exact inv_make hI
              refine lv_icmp_eq (tgt := 483) hx hb dL_law_261 (by decide) (fun c_251 => ?_) (fun c_251 => ?_)
              · obtain ⟨i_252, ei_252⟩ : ∃ y : Int32, y = x3 + 5 := ⟨_, rfl⟩
                refine lv_iinc (v := i_252) (lv' := [(3, .int i_252), (0, .ref b), (1, .ref h), (2, .ref g)]) hx hb dL_law_483 hl (k := 3) rfl (by rw [ei_252]; rfl) (by decide) rfl (fun ls hl => ?_)
                refine lv_goto (tgt := 18) hx hb dL_law_486 (by decide) ?_
                exact ih (t + 1) (by omega) (by omega) i_252 (by rw [ei_252, hx3]; exact nI_add (5 * t) 5) u hi ad1 th2 wy2 H2 locs _ _ (by omega) (by omega) hP hPm hD hS ls (lv_sub hl [1, 2, 3, 0] rfl)
              · exact absurd e1 c_251
            · by_cases hs_253 : z_188 = 4
              · refine lv_tableIn (off := 234) (tgt := 266) hx hb dL_law_32 (by rw [hs_253]; decide) (by rw [hs_253]; decide) (by rw [hs_253]; rfl) (by decide) ?_
                refine lv_aload_n hx hb dL_law_266 rfl (lv_at hl 1 rfl) ?_
                refine lv_aload_n hx hb dL_law_267 rfl (lv_at hl 0 rfl) ?_
                refine lv_iload_n hx hb dL_law_268 rfl (lv_at hl 3 rfl) ?_
                refine lv_iconst (v := 1) hx hb dL_law_269 (by decide) ?_
                refine lv_iadd hx hb dL_law_270 ?_
                refine lv_topi (fun z_254 ez_254 => ?_)
                have hz_254 : vp_in z_254 L := by rw [ez_254, hx3]; exact lw_in (k := 1) hL (by omega)
                refine va_sld hx hb hX hbl hbA hS hz_254 dL_law_271 ?_
                refine lv_topi (fun v_255 ev_255 => ?_)
                refine lv_aload_n hx hb dL_law_272 rfl (lv_at hl 0 rfl) ?_
                refine lv_iload_n hx hb dL_law_273 rfl (lv_at hl 3 rfl) ?_
                refine lv_iconst (v := 2) hx hb dL_law_274 (by decide) ?_
                refine lv_iadd hx hb dL_law_275 ?_
                refine lv_topi (fun z_256 ez_256 => ?_)
                have hz_256 : vp_in z_256 L := by rw [ez_256, hx3]; exact lw_in (k := 2) hL (by omega)
                refine va_sld hx hb hX hbl hbA hS hz_256 dL_law_276 ?_
                refine lv_topi (fun v_257 ev_257 => ?_)
                refine lv_aload_n hx hb dL_law_277 rfl (lv_at hl 0 rfl) ?_
                refine lv_iload_n hx hb dL_law_278 rfl (lv_at hl 3 rfl) ?_
                refine lv_iconst (v := 3) hx hb dL_law_279 (by decide) ?_
                refine lv_iadd hx hb dL_law_280 ?_
                refine lv_topi (fun z_258 ez_258 => ?_)
                have hz_258 : vp_in z_258 L := by rw [ez_258, hx3]; exact lw_in (k := 3) hL (by omega)
                refine va_sld hx hb hX hbl hbA hS hz_258 dL_law_281 ?_
                refine lv_topi (fun v_259 ev_259 => ?_)
                refine lv_i2l (v := v_259.toInt64) hx hb dL_law_282 rfl ?_
                refine lv_bipush (v := 32) hx hb dL_law_283 (by decide) ?_
                refine lv_lshl (v := v_259.toInt64 <<< ((32 : Int32).toInt64 &&& 63)) hx hb dL_law_285 rfl ?_
                refine lv_aload_n hx hb dL_law_286 rfl (lv_at hl 0 rfl) ?_
                refine lv_iload_n hx hb dL_law_287 rfl (lv_at hl 3 rfl) ?_
                refine lv_iconst (v := 4) hx hb dL_law_288 (by decide) ?_
                refine lv_iadd hx hb dL_law_289 ?_
                refine lv_topi (fun z_260 ez_260 => ?_)
                have hz_260 : vp_in z_260 L := by rw [ez_260, hx3]; exact lw_in (k := 4) hL (by omega)
                refine va_sld hx hb hX hbl hbA hS hz_260 dL_law_290 ?_
                refine lv_topi (fun v_261 ev_261 => ?_)
                refine lv_i2l (v := v_261.toInt64) hx hb dL_law_291 rfl ?_
                refine lv_ldc2 (v := 4294967295) hx hb hown hk13 dL_law_292 ?_
                refine lv_land hx hb dL_law_295 ?_
                refine lv_topl (fun z_262 ez_262 => ?_)
                refine lv_lor hx hb dL_law_296 ?_
                refine lv_topl (fun z_263 ez_263 => ?_)
                have hFc := kx_fr (kx_D1 hD) hS hA
                refine va_calll (va_runV (As := [.int v_255, .int v_257, .long z_263]) (rest := []) ⟨hx, hb, hml, hown, hts⟩ (c_call l dC dI h qT qC qS qA qF cT cC cS cA cF ad n kd ok cn rc rs an fl t0 t1 t2 t3 t4 t5 hI.1 H.size v_255 v_257 z_263) (cwV 3 hts gL_law_X1_call rfl rfl rfl (by decide +kernel) ⟨Nat.le_of_ble_eq_true rfl, Nat.le_of_ble_eq_true rfl⟩) ⟨dQ_bl, va_recv hK hP (ci := 1) (q0 := 0) rfl rfl, fun U hU hW => ⟨rfl, dQ_at hU hW hP hK (kx_D1 hD) hN⟩⟩ rfl rfl hl.1 rfl (lv_room (Nat.le_of_ble_eq_true rfl)) dL_law_297 ⟨(show cc + 0 ≤ 812163 by omega), (show ss + 0 ≤ 6665758 by omega)⟩) hS (fun q _ h9 => hFc q h9) hFc (fun r_264 u t9 H1 locs ht hvm hw hB hz1 hk1 hS => ?_)
                obtain ⟨hP, hD1⟩ := hB
                rw [ht] at hP
                obtain ⟨hPm, hD⟩ := kx_jn hPm hD hk1 hFc hD1
                have hP : va_P (dC, dI) vwCl (dWm h qT qC qS qA qF cT cC cS cA cF ad u) H1 := hP
                generalize H1 = H at hP hPm hS ⊢
                have hD : va_D A (dWm h qT qC qS qA qF cT cC cS cA cF ad u ++ rW g qs qm qa qf qk qt qd cs cm ca cf ck ct cd n kd ok cn rc rs an fl t0 t1 t2 t3 t4 t5 th wy) := hD
                refine lv_aload_n hx hb dL_law_300 rfl (lv_at hl 2 rfl) ?_
                refine lv_aload_n hx hb dL_law_301 rfl (lv_at hl 0 rfl) ?_
                refine lv_iload_n hx hb dL_law_302 rfl (lv_at hl 3 rfl) ?_
                refine lv_iconst (v := 1) hx hb dL_law_303 (by decide) ?_
                refine lv_iadd hx hb dL_law_304 ?_
                refine lv_topi (fun z_265 ez_265 => ?_)
                have hh : z_254 = z_265 := ez_254.trans ez_265.symm
                subst hh
                refine va_sld hx hb hX hbl hbA hS hz_254 dL_law_305 ?_
                refine lv_topi (fun v_266 ev_266 => ?_)
                have hh : v_255 = v_266 := ev_255.trans ev_266.symm
                subst hh
                refine lv_aload_n hx hb dL_law_306 rfl (lv_at hl 0 rfl) ?_
                refine lv_iload_n hx hb dL_law_307 rfl (lv_at hl 3 rfl) ?_
                refine lv_iconst (v := 2) hx hb dL_law_308 (by decide) ?_
                refine lv_iadd hx hb dL_law_309 ?_
                refine lv_topi (fun z_267 ez_267 => ?_)
                have hh : z_256 = z_267 := ez_256.trans ez_267.symm
                subst hh
                refine va_sld hx hb hX hbl hbA hS hz_256 dL_law_310 ?_
                refine lv_topi (fun v_268 ev_268 => ?_)
                have hh : v_257 = v_268 := ev_257.trans ev_268.symm
                subst hh
                refine lv_aload_n hx hb dL_law_311 rfl (lv_at hl 0 rfl) ?_
                refine lv_iload_n hx hb dL_law_312 rfl (lv_at hl 3 rfl) ?_
                refine lv_iconst (v := 3) hx hb dL_law_313 (by decide) ?_
                refine lv_iadd hx hb dL_law_314 ?_
                refine lv_topi (fun z_269 ez_269 => ?_)
                have hh : z_258 = z_269 := ez_258.trans ez_269.symm
                subst hh
                refine va_sld hx hb hX hbl hbA hS hz_258 dL_law_315 ?_
                refine lv_topi (fun v_270 ev_270 => ?_)
                have hh : v_259 = v_270 := ev_259.trans ev_270.symm
                subst hh
                refine lv_i2l (v := v_259.toInt64) hx hb dL_law_316 rfl ?_
                refine lv_bipush (v := 32) hx hb dL_law_317 (by decide) ?_
                refine lv_lshl (v := v_259.toInt64 <<< ((32 : Int32).toInt64 &&& 63)) hx hb dL_law_319 rfl ?_
                refine lv_aload_n hx hb dL_law_320 rfl (lv_at hl 0 rfl) ?_
                refine lv_iload_n hx hb dL_law_321 rfl (lv_at hl 3 rfl) ?_
                refine lv_iconst (v := 4) hx hb dL_law_322 (by decide) ?_
                refine lv_iadd hx hb dL_law_323 ?_
                refine lv_topi (fun z_271 ez_271 => ?_)
                have hh : z_260 = z_271 := ez_260.trans ez_271.symm
                subst hh
                refine va_sld hx hb hX hbl hbA hS hz_260 dL_law_324 ?_
                refine lv_topi (fun v_272 ev_272 => ?_)
                have hh : v_261 = v_272 := ev_261.trans ev_272.symm
                subst hh
                refine lv_i2l (v := v_261.toInt64) hx hb dL_law_325 rfl ?_
                refine lv_ldc2 (v := 4294967295) hx hb hown hk13 dL_law_326 ?_
                refine lv_land hx hb dL_law_329 ?_
                refine lv_topl (fun z_273 ez_273 => ?_)
                have hh : z_262 = z_273 := ez_262.trans ez_273.symm
                subst hh
                refine lv_lor hx hb dL_law_330 ?_
                refine lv_topl (fun z_274 ez_274 => ?_)
                have hh : z_263 = z_274 := ez_263.trans ez_274.symm
                subst hh
                have hDx := kx_Dc hD
                have hFm := kx_fr (kx_D1 hDx) hS hA
                refine va_calll (va_runV (As := [.int v_255, .int v_257, .long z_263]) (rest := [.long r_264]) ⟨hx, hb, hml, hown, hts⟩ (r_call l dC dI g qs qm qa qf qk qt qd cs cm ca cf ck ct cd n kd ok cn rc rs an fl t0 t1 t2 t3 t4 t5 th wy hI.1 (inv_cn (by omega) hI.2.2) H.size v_255 v_257 z_263) (cwV 3 hts gL_law_X2_call rfl rfl rfl (by decide +kernel) ⟨Nat.le_of_ble_eq_true rfl, Nat.le_of_ble_eq_true rfl⟩) ⟨rQ_bl, va_recv hKm hPm (ci := 2) (q0 := 0) rfl rfl, fun U hU hW => ⟨rfl, rQ_at hU hW hPm hKm (kx_D1 hDx)⟩⟩ rfl rfl hl.1 rfl (lv_room (Nat.le_of_ble_eq_true rfl)) dL_law_331 ⟨(show cc + 0 + 0 ≤ 812163 by omega), (show ss + 0 + 0 ≤ 6665758 by omega)⟩) hS (fun q _ h9 => hFm q h9) hFm (fun r_275 u2 t8 H2 locs ht2 hvm2 hw2 hB2 hz2 hk2 hS => ?_)
                obtain ⟨u2, th2, wy2⟩ := u2
                obtain ⟨hPm, hDm⟩ := hB2
                rw [ht2] at hPm
                obtain ⟨hP, hDz⟩ := kx_jn hP hDx hk2 hFm hDm
                have hD := kx_Dc hDz
                have e1 : r_264 = r_275 := (Prod.mk.inj (hw.trans hw2.symm)).1
                have e2 : u = u2 := (Prod.mk.inj (hw.trans hw2.symm)).2
                subst e2
                have hi : lInv u (t + 1) := by rw [show u = (mCall (n, kd, ok, cn, rc, rs, an, fl, t0, t1, t2, t3, t4, t5) v_255 v_257 z_263).2 from congrArg Prod.snd hw]; exact inv_call hI
                refine W.lcmp hx hb dL_law_334 ?_
                refine lv_if_eq (tgt := 483) hx hb dL_law_335 (by decide) (fun c_276 => ?_) (fun c_276 => ?_)
                · obtain ⟨i_277, ei_277⟩ : ∃ y : Int32, y = x3 + 5 := ⟨_, rfl⟩
                  refine lv_iinc (v := i_277) (lv' := [(3, .int i_277), (0, .ref b), (1, .ref h), (2, .ref g)]) hx hb dL_law_483 hl (k := 3) rfl (by rw [ei_277]; rfl) (by decide) rfl (fun ls hl => ?_)
                  refine lv_goto (tgt := 18) hx hb dL_law_486 (by decide) ?_
                  exact ih (t + 1) (by omega) (by omega) i_277 (by rw [ei_277, hx3]; exact nI_add (5 * t) 5) u hi ad th2 wy2 H2 locs _ _ (by omega) (by omega) hP hPm hD hS ls (lv_sub hl [1, 2, 3, 0] rfl)
                · exact absurd ((lg_cmp_eq _ _).mpr e1) c_276
              · by_cases hs_278 : z_188 = 5
                · refine lv_tableIn (off := 308) (tgt := 340) hx hb dL_law_32 (by rw [hs_278]; decide) (by rw [hs_278]; decide) (by rw [hs_278]; rfl) (by decide) ?_
                  refine lv_aload_n hx hb dL_law_340 rfl (lv_at hl 1 rfl) ?_
                  refine lv_aload_n hx hb dL_law_341 rfl (lv_at hl 0 rfl) ?_
                  refine lv_iload_n hx hb dL_law_342 rfl (lv_at hl 3 rfl) ?_
                  refine lv_iconst (v := 1) hx hb dL_law_343 (by decide) ?_
                  refine lv_iadd hx hb dL_law_344 ?_
                  refine lv_topi (fun z_279 ez_279 => ?_)
                  have hz_279 : vp_in z_279 L := by rw [ez_279, hx3]; exact lw_in (k := 1) hL (by omega)
                  refine va_sld hx hb hX hbl hbA hS hz_279 dL_law_345 ?_
                  refine lv_topi (fun v_280 ev_280 => ?_)
                  refine vp_callSi (W.runV (As := [.int v_280]) (rest := []) ⟨hx, hb, hml, hown, hts⟩ (c_told l dC dI h qT qC qS qA qF cT cC cS cA cF ad n kd ok cn rc rs an fl t0 t1 t2 t3 t4 t5  v_280) (cwV 1 hts gL_law_X1_told rfl rfl rfl (by decide +kernel) ⟨Nat.le_of_ble_eq_true rfl, Nat.le_of_ble_eq_true rfl⟩) ⟨dP_bl, va_recv hK hP (ci := 1) (q0 := 0) rfl rfl, fun U hU hW => ⟨rfl, dP_at hU hW hP hK hN⟩⟩ rfl rfl hl.1 rfl (lv_room (Nat.le_of_ble_eq_true rfl)) dL_law_346 ⟨(show cc + 0 ≤ 812163 by omega), (show ss + 0 ≤ 6665758 by omega)⟩) (fun r_281 hw => ?_)
                  refine lv_aload_n hx hb dL_law_349 rfl (lv_at hl 2 rfl) ?_
                  refine lv_aload_n hx hb dL_law_350 rfl (lv_at hl 0 rfl) ?_
                  refine lv_iload_n hx hb dL_law_351 rfl (lv_at hl 3 rfl) ?_
                  refine lv_iconst (v := 1) hx hb dL_law_352 (by decide) ?_
                  refine lv_iadd hx hb dL_law_353 ?_
                  refine lv_topi (fun z_282 ez_282 => ?_)
                  have hh : z_279 = z_282 := ez_279.trans ez_282.symm
                  subst hh
                  refine va_sld hx hb hX hbl hbA hS hz_279 dL_law_354 ?_
                  refine lv_topi (fun v_283 ev_283 => ?_)
                  have hh : v_280 = v_283 := ev_280.trans ev_283.symm
                  subst hh
                  have hDx := kx_Dc hD
                  have hFm := kx_fr (kx_D1 hDx) hS hA
                  refine va_calli (va_runV (As := [.int v_280]) (rest := [.int r_281]) ⟨hx, hb, hml, hown, hts⟩ (r_told l dC dI g qs qm qa qf qk qt qd cs cm ca cf ck ct cd n kd ok cn rc rs an fl t0 t1 t2 t3 t4 t5 th wy  H.size v_280) (cwV 1 hts gL_law_X2_told rfl rfl rfl (by decide +kernel) ⟨Nat.le_of_ble_eq_true rfl, Nat.le_of_ble_eq_true rfl⟩) ⟨rQ_bl, va_recv hKm hPm (ci := 2) (q0 := 0) rfl rfl, fun U hU hW => ⟨rfl, rQ_at hU hW hPm hKm (kx_D1 hDx)⟩⟩ rfl rfl hl.1 rfl (lv_room (Nat.le_of_ble_eq_true rfl)) dL_law_355 ⟨(show cc + 0 ≤ 812163 by omega), (show ss + 0 ≤ 6665758 by omega)⟩) hS (fun q _ h9 => hFm q h9) hFm (fun r_284 u2 t8 H2 locs ht2 hvm2 hw2 hB2 hz2 hk2 hS => ?_)
                  obtain ⟨u2, th2, wy2⟩ := u2
                  obtain ⟨hPm, hDm⟩ := hB2
                  rw [ht2] at hPm
                  obtain ⟨hP, hDz⟩ := kx_jn hP hDx hk2 hFm hDm
                  have hD := kx_Dc hDz
                  have e1 : r_281 = r_284 := hw.trans hw2.1.symm
                  have e2 : (n, kd, ok, cn, rc, rs, an, fl, t0, t1, t2, t3, t4, t5) = u2 := hw2.2.symm
                  subst e2
                  have hi : lInv (n, kd, ok, cn, rc, rs, an, fl, t0, t1, t2, t3, t4, t5) (t + 1) := lInv_up hI
                  refine lv_icmp_eq (tgt := 483) hx hb dL_law_358 (by decide) (fun c_285 => ?_) (fun c_285 => ?_)
                  · obtain ⟨i_286, ei_286⟩ : ∃ y : Int32, y = x3 + 5 := ⟨_, rfl⟩
                    refine lv_iinc (v := i_286) (lv' := [(3, .int i_286), (0, .ref b), (1, .ref h), (2, .ref g)]) hx hb dL_law_483 hl (k := 3) rfl (by rw [ei_286]; rfl) (by decide) rfl (fun ls hl => ?_)
                    refine lv_goto (tgt := 18) hx hb dL_law_486 (by decide) ?_
                    exact ih (t + 1) (by omega) (by omega) i_286 (by rw [ei_286, hx3]; exact nI_add (5 * t) 5) (n, kd, ok, cn, rc, rs, an, fl, t0, t1, t2, t3, t4, t5) hi ad th2 wy2 H2 locs _ _ (by omega) (by omega) hP hPm hD hS ls (lv_sub hl [1, 2, 3, 0] rfl)
                  · exact absurd e1 c_285
                · by_cases hs_287 : z_188 = 6
                  · refine lv_tableIn (off := 331) (tgt := 363) hx hb dL_law_32 (by rw [hs_287]; decide) (by rw [hs_287]; decide) (by rw [hs_287]; rfl) (by decide) ?_
                    refine lv_aload_n hx hb dL_law_363 rfl (lv_at hl 1 rfl) ?_
                    refine lv_aload_n hx hb dL_law_364 rfl (lv_at hl 0 rfl) ?_
                    refine lv_iload_n hx hb dL_law_365 rfl (lv_at hl 3 rfl) ?_
                    refine lv_iconst (v := 1) hx hb dL_law_366 (by decide) ?_
                    refine lv_iadd hx hb dL_law_367 ?_
                    refine lv_topi (fun z_288 ez_288 => ?_)
                    have hz_288 : vp_in z_288 L := by rw [ez_288, hx3]; exact lw_in (k := 1) hL (by omega)
                    refine va_sld hx hb hX hbl hbA hS hz_288 dL_law_368 ?_
                    refine lv_topi (fun v_289 ev_289 => ?_)
                    have hFc := kx_fr (kx_D1 hD) hS hA
                    refine va_calli (va_runV (As := [.int v_289]) (rest := []) ⟨hx, hb, hml, hown, hts⟩ (c_drop l dC dI h qT qC qS qA qF cT cC cS cA cF ad n kd ok cn rc rs an fl t0 t1 t2 t3 t4 t5 hI.1 H.size v_289) (cwV 1 hts gL_law_X1_drop rfl rfl rfl (by decide +kernel) ⟨Nat.le_of_ble_eq_true rfl, Nat.le_of_ble_eq_true rfl⟩) ⟨dQ_bl, va_recv hK hP (ci := 1) (q0 := 0) rfl rfl, fun U hU hW => ⟨rfl, dQ_at hU hW hP hK (kx_D1 hD) hN⟩⟩ rfl rfl hl.1 rfl (lv_room (Nat.le_of_ble_eq_true rfl)) dL_law_369 ⟨(show cc + 0 ≤ 812163 by omega), (show ss + 0 ≤ 6665758 by omega)⟩) hS (fun q _ h9 => hFc q h9) hFc (fun r_290 u t9 H1 locs ht hvm hw hB hz1 hk1 hS => ?_)
                    obtain ⟨hP, hD1⟩ := hB
                    rw [ht] at hP
                    obtain ⟨hPm, hD⟩ := kx_jn hPm hD hk1 hFc hD1
                    have hP : va_P (dC, dI) vwCl (dWm h qT qC qS qA qF cT cC cS cA cF ad u) H1 := hP
                    generalize H1 = H at hP hPm hS ⊢
                    have hD : va_D A (dWm h qT qC qS qA qF cT cC cS cA cF ad u ++ rW g qs qm qa qf qk qt qd cs cm ca cf ck ct cd n kd ok cn rc rs an fl t0 t1 t2 t3 t4 t5 th wy) := hD
                    refine lv_aload_n hx hb dL_law_372 rfl (lv_at hl 2 rfl) ?_
                    refine lv_aload_n hx hb dL_law_373 rfl (lv_at hl 0 rfl) ?_
                    refine lv_iload_n hx hb dL_law_374 rfl (lv_at hl 3 rfl) ?_
                    refine lv_iconst (v := 1) hx hb dL_law_375 (by decide) ?_
                    refine lv_iadd hx hb dL_law_376 ?_
                    refine lv_topi (fun z_291 ez_291 => ?_)
                    have hh : z_288 = z_291 := ez_288.trans ez_291.symm
                    subst hh
                    refine va_sld hx hb hX hbl hbA hS hz_288 dL_law_377 ?_
                    refine lv_topi (fun v_292 ev_292 => ?_)
                    have hh : v_289 = v_292 := ev_289.trans ev_292.symm
                    subst hh
                    have hDx := kx_Dc hD
                    have hFm := kx_fr (kx_D1 hDx) hS hA
                    refine va_calli (va_runV (As := [.int v_289]) (rest := [.int r_290]) ⟨hx, hb, hml, hown, hts⟩ (r_drop l dC dI g qs qm qa qf qk qt qd cs cm ca cf ck ct cd n kd ok cn rc rs an fl t0 t1 t2 t3 t4 t5 th wy hI.1 H.size v_289) (cwV 1 hts gL_law_X2_drop rfl rfl rfl (by decide +kernel) ⟨Nat.le_of_ble_eq_true rfl, Nat.le_of_ble_eq_true rfl⟩) ⟨rQ_bl, va_recv hKm hPm (ci := 2) (q0 := 0) rfl rfl, fun U hU hW => ⟨rfl, rQ_at hU hW hPm hKm (kx_D1 hDx)⟩⟩ rfl rfl hl.1 rfl (lv_room (Nat.le_of_ble_eq_true rfl)) dL_law_378 ⟨(show cc + 0 + 0 ≤ 812163 by omega), (show ss + 0 + 0 ≤ 6665758 by omega)⟩) hS (fun q _ h9 => hFm q h9) hFm (fun r_293 u2 t8 H2 locs ht2 hvm2 hw2 hB2 hz2 hk2 hS => ?_)
                    obtain ⟨u2, th2, wy2⟩ := u2
                    obtain ⟨hPm, hDm⟩ := hB2
                    rw [ht2] at hPm
                    obtain ⟨hP, hDz⟩ := kx_jn hP hDx hk2 hFm hDm
                    have hD := kx_Dc hDz
                    have e1 : r_290 = r_293 := (Prod.mk.inj (hw.trans hw2.symm)).1
                    have e2 : u = u2 := (Prod.mk.inj (hw.trans hw2.symm)).2
                    subst e2
                    have hi : lInv u (t + 1) := by rw [show u = (mDrop (n, kd, ok, cn, rc, rs, an, fl, t0, t1, t2, t3, t4, t5) v_289).2 from congrArg Prod.snd hw]; exact inv_drop hI
                    refine lv_icmp_eq (tgt := 483) hx hb dL_law_381 (by decide) (fun c_294 => ?_) (fun c_294 => ?_)
                    · obtain ⟨i_295, ei_295⟩ : ∃ y : Int32, y = x3 + 5 := ⟨_, rfl⟩
                      refine lv_iinc (v := i_295) (lv' := [(3, .int i_295), (0, .ref b), (1, .ref h), (2, .ref g)]) hx hb dL_law_483 hl (k := 3) rfl (by rw [ei_295]; rfl) (by decide) rfl (fun ls hl => ?_)
                      refine lv_goto (tgt := 18) hx hb dL_law_486 (by decide) ?_
                      exact ih (t + 1) (by omega) (by omega) i_295 (by rw [ei_295, hx3]; exact nI_add (5 * t) 5) u hi ad th2 wy2 H2 locs _ _ (by omega) (by omega) hP hPm hD hS ls (lv_sub hl [1, 2, 3, 0] rfl)
                    · exact absurd e1 c_294
                  · by_cases hs_296 : z_188 = 7
                    · refine lv_tableIn (off := 354) (tgt := 386) hx hb dL_law_32 (by rw [hs_296]; decide) (by rw [hs_296]; decide) (by rw [hs_296]; rfl) (by decide) ?_
                      refine lv_aload_n hx hb dL_law_386 rfl (lv_at hl 1 rfl) ?_
                      refine lv_aload_n hx hb dL_law_387 rfl (lv_at hl 0 rfl) ?_
                      refine lv_iload_n hx hb dL_law_388 rfl (lv_at hl 3 rfl) ?_
                      refine lv_iconst (v := 1) hx hb dL_law_389 (by decide) ?_
                      refine lv_iadd hx hb dL_law_390 ?_
                      refine lv_topi (fun z_297 ez_297 => ?_)
                      have hz_297 : vp_in z_297 L := by rw [ez_297, hx3]; exact lw_in (k := 1) hL (by omega)
                      refine va_sld hx hb hX hbl hbA hS hz_297 dL_law_391 ?_
                      refine lv_topi (fun v_298 ev_298 => ?_)
                      refine vp_callSi (W.runV (As := [.int v_298]) (rest := []) ⟨hx, hb, hml, hown, hts⟩ (c_numbers l dC dI h qT qC qS qA qF cT cC cS cA cF ad n kd ok cn rc rs an fl t0 t1 t2 t3 t4 t5 hI.1 v_298) (cwV 1 hts gL_law_X1_numbers rfl rfl rfl (by decide +kernel) ⟨Nat.le_of_ble_eq_true rfl, Nat.le_of_ble_eq_true rfl⟩) ⟨dP_bl, va_recv hK hP (ci := 1) (q0 := 0) rfl rfl, fun U hU hW => ⟨rfl, dP_at hU hW hP hK hN⟩⟩ rfl rfl hl.1 rfl (lv_room (Nat.le_of_ble_eq_true rfl)) dL_law_392 ⟨(show cc + 0 ≤ 812163 by omega), (show ss + 0 ≤ 6665758 by omega)⟩) (fun r_299 hw => ?_)
                      refine lv_aload_n hx hb dL_law_395 rfl (lv_at hl 2 rfl) ?_
                      refine lv_aload_n hx hb dL_law_396 rfl (lv_at hl 0 rfl) ?_
                      refine lv_iload_n hx hb dL_law_397 rfl (lv_at hl 3 rfl) ?_
                      refine lv_iconst (v := 1) hx hb dL_law_398 (by decide) ?_
                      refine lv_iadd hx hb dL_law_399 ?_
                      refine lv_topi (fun z_300 ez_300 => ?_)
                      have hh : z_297 = z_300 := ez_297.trans ez_300.symm
                      subst hh
                      refine va_sld hx hb hX hbl hbA hS hz_297 dL_law_400 ?_
                      refine lv_topi (fun v_301 ev_301 => ?_)
                      have hh : v_298 = v_301 := ev_298.trans ev_301.symm
                      subst hh
                      have hDx := kx_Dc hD
                      have hFm := kx_fr (kx_D1 hDx) hS hA
                      refine va_calli (va_runV (As := [.int v_298]) (rest := [.int r_299]) ⟨hx, hb, hml, hown, hts0⟩ (r_numbers l dC dI g qs qm qa qf qk qt qd cs cm ca cf ck ct cd n kd ok cn rc rs an fl t0 t1 t2 t3 t4 t5 th wy hI.1 H.size v_298) (cwV 1 hts0 gL_law_X2_numbers rfl rfl rfl (by decide +kernel) ⟨Nat.le_of_ble_eq_true rfl, Nat.le_of_ble_eq_true rfl⟩) ⟨rQ_bl, va_recv hKm hPm (ci := 2) (q0 := 0) rfl rfl, fun U hU hW => ⟨rfl, rQ_at hU hW hPm hKm (kx_D1 hDx)⟩⟩ rfl rfl hl.1 rfl (lv_room (Nat.le_of_ble_eq_true rfl)) dL_law_401 ⟨(show cc + 0 ≤ 812163 by omega), (show ss + 0 ≤ 6665758 by omega)⟩) hS (fun q _ h9 => hFm q h9) hFm (fun r_302 u2 t8 H2 locs ht2 hvm2 hw2 hB2 hz2 hk2 hS => ?_)
                      obtain ⟨u2, th2, wy2⟩ := u2
                      obtain ⟨hPm, hDm⟩ := hB2
                      rw [ht2] at hPm
                      obtain ⟨hP, hDz⟩ := kx_jn hP hDx hk2 hFm hDm
                      have hD := kx_Dc hDz
                      have e1 : r_299 = r_302 := hw.trans hw2.1.symm
                      have e2 : (n, kd, ok, cn, rc, rs, an, fl, t0, t1, t2, t3, t4, t5) = u2 := hw2.2.symm
                      subst e2
                      have hi : lInv (n, kd, ok, cn, rc, rs, an, fl, t0, t1, t2, t3, t4, t5) (t + 1) := lInv_up hI
                      refine lv_icmp_eq (tgt := 483) hx hb dL_law_404 (by decide) (fun c_303 => ?_) (fun c_303 => ?_)
                      · obtain ⟨i_304, ei_304⟩ : ∃ y : Int32, y = x3 + 5 := ⟨_, rfl⟩
                        refine lv_iinc (v := i_304) (lv' := [(3, .int i_304), (0, .ref b), (1, .ref h), (2, .ref g)]) hx hb dL_law_483 hl (k := 3) rfl (by rw [ei_304]; rfl) (by decide) rfl (fun ls hl => ?_)
                        refine lv_goto (tgt := 18) hx hb dL_law_486 (by decide) ?_
                        exact ih (t + 1) (by omega) (by omega) i_304 (by rw [ei_304, hx3]; exact nI_add (5 * t) 5) (n, kd, ok, cn, rc, rs, an, fl, t0, t1, t2, t3, t4, t5) hi ad th2 wy2 H2 locs _ _ (by omega) (by omega) hP hPm hD hS ls (lv_sub hl [1, 2, 3, 0] rfl)
                      · exact absurd e1 c_303
                    · by_cases hs_305 : z_188 = 8
                      · refine lv_tableIn (off := 377) (tgt := 409) hx hb dL_law_32 (by rw [hs_305]; decide) (by rw [hs_305]; decide) (by rw [hs_305]; rfl) (by decide) ?_
                        refine lv_aload_n hx hb dL_law_409 rfl (lv_at hl 1 rfl) ?_
                        refine lv_aload_n hx hb dL_law_410 rfl (lv_at hl 0 rfl) ?_
                        refine lv_iload_n hx hb dL_law_411 rfl (lv_at hl 3 rfl) ?_
                        refine lv_iconst (v := 1) hx hb dL_law_412 (by decide) ?_
                        refine lv_iadd hx hb dL_law_413 ?_
                        refine lv_topi (fun z_306 ez_306 => ?_)
                        have hz_306 : vp_in z_306 L := by rw [ez_306, hx3]; exact lw_in (k := 1) hL (by omega)
                        refine va_sld hx hb hX hbl hbA hS hz_306 dL_law_414 ?_
                        refine lv_topi (fun v_307 ev_307 => ?_)
                        refine lv_aload_n hx hb dL_law_415 rfl (lv_at hl 0 rfl) ?_
                        refine lv_iload_n hx hb dL_law_416 rfl (lv_at hl 3 rfl) ?_
                        refine lv_iconst (v := 2) hx hb dL_law_417 (by decide) ?_
                        refine lv_iadd hx hb dL_law_418 ?_
                        refine lv_topi (fun z_308 ez_308 => ?_)
                        have hz_308 : vp_in z_308 L := by rw [ez_308, hx3]; exact lw_in (k := 2) hL (by omega)
                        refine va_sld hx hb hX hbl hbA hS hz_308 dL_law_419 ?_
                        refine lv_topi (fun v_309 ev_309 => ?_)
                        refine lv_aload_n hx hb dL_law_420 rfl (lv_at hl 0 rfl) ?_
                        refine lv_iload_n hx hb dL_law_421 rfl (lv_at hl 3 rfl) ?_
                        refine lv_iconst (v := 3) hx hb dL_law_422 (by decide) ?_
                        refine lv_iadd hx hb dL_law_423 ?_
                        refine lv_topi (fun z_310 ez_310 => ?_)
                        have hz_310 : vp_in z_310 L := by rw [ez_310, hx3]; exact lw_in (k := 3) hL (by omega)
                        refine va_sld hx hb hX hbl hbA hS hz_310 dL_law_424 ?_
                        refine lv_topi (fun v_311 ev_311 => ?_)
                        refine lv_i2l (v := v_311.toInt64) hx hb dL_law_425 rfl ?_
                        refine lv_bipush (v := 32) hx hb dL_law_426 (by decide) ?_
                        refine lv_lshl (v := v_311.toInt64 <<< ((32 : Int32).toInt64 &&& 63)) hx hb dL_law_428 rfl ?_
                        refine lv_aload_n hx hb dL_law_429 rfl (lv_at hl 0 rfl) ?_
                        refine lv_iload_n hx hb dL_law_430 rfl (lv_at hl 3 rfl) ?_
                        refine lv_iconst (v := 4) hx hb dL_law_431 (by decide) ?_
                        refine lv_iadd hx hb dL_law_432 ?_
                        refine lv_topi (fun z_312 ez_312 => ?_)
                        have hz_312 : vp_in z_312 L := by rw [ez_312, hx3]; exact lw_in (k := 4) hL (by omega)
                        refine va_sld hx hb hX hbl hbA hS hz_312 dL_law_433 ?_
                        refine lv_topi (fun v_313 ev_313 => ?_)
                        refine lv_i2l (v := v_313.toInt64) hx hb dL_law_434 rfl ?_
                        refine lv_ldc2 (v := 4294967295) hx hb hown hk13 dL_law_435 ?_
                        refine lv_land hx hb dL_law_438 ?_
                        refine lv_topl (fun z_314 ez_314 => ?_)
                        refine lv_lor hx hb dL_law_439 ?_
                        refine lv_topl (fun z_315 ez_315 => ?_)
                        refine vp_callSl (W.runV (As := [.int v_307, .int v_309, .long z_315]) (rest := []) ⟨hx, hb, hml, hown, hts⟩ (c_again l dC dI h qT qC qS qA qF cT cC cS cA cF ad n kd ok cn rc rs an fl t0 t1 t2 t3 t4 t5 hI.1 v_307 v_309 z_315) (cwV 3 hts gL_law_X1_again rfl rfl rfl (by decide +kernel) ⟨Nat.le_of_ble_eq_true rfl, Nat.le_of_ble_eq_true rfl⟩) ⟨dP_bl, va_recv hK hP (ci := 1) (q0 := 0) rfl rfl, fun U hU hW => ⟨rfl, dP_at hU hW hP hK hN⟩⟩ rfl rfl hl.1 rfl (lv_room (Nat.le_of_ble_eq_true rfl)) dL_law_440 ⟨(show cc + 0 ≤ 812163 by omega), (show ss + 0 ≤ 6665758 by omega)⟩) (fun r_316 hw => ?_)
                        refine lv_aload_n hx hb dL_law_443 rfl (lv_at hl 2 rfl) ?_
                        refine lv_aload_n hx hb dL_law_444 rfl (lv_at hl 0 rfl) ?_
                        refine lv_iload_n hx hb dL_law_445 rfl (lv_at hl 3 rfl) ?_
                        refine lv_iconst (v := 1) hx hb dL_law_446 (by decide) ?_
                        refine lv_iadd hx hb dL_law_447 ?_
                        refine lv_topi (fun z_317 ez_317 => ?_)
                        have hh : z_306 = z_317 := ez_306.trans ez_317.symm
                        subst hh
                        refine va_sld hx hb hX hbl hbA hS hz_306 dL_law_448 ?_
                        refine lv_topi (fun v_318 ev_318 => ?_)
                        have hh : v_307 = v_318 := ev_307.trans ev_318.symm
                        subst hh
                        refine lv_aload_n hx hb dL_law_449 rfl (lv_at hl 0 rfl) ?_
                        refine lv_iload_n hx hb dL_law_450 rfl (lv_at hl 3 rfl) ?_
                        refine lv_iconst (v := 2) hx hb dL_law_451 (by decide) ?_
                        refine lv_iadd hx hb dL_law_452 ?_
                        refine lv_topi (fun z_319 ez_319 => ?_)
                        have hh : z_308 = z_319 := ez_308.trans ez_319.symm
                        subst hh
                        refine va_sld hx hb hX hbl hbA hS hz_308 dL_law_453 ?_
                        refine lv_topi (fun v_320 ev_320 => ?_)
                        have hh : v_309 = v_320 := ev_309.trans ev_320.symm
                        subst hh
                        refine lv_aload_n hx hb dL_law_454 rfl (lv_at hl 0 rfl) ?_
                        refine lv_iload_n hx hb dL_law_455 rfl (lv_at hl 3 rfl) ?_
                        refine lv_iconst (v := 3) hx hb dL_law_456 (by decide) ?_
                        refine lv_iadd hx hb dL_law_457 ?_
                        refine lv_topi (fun z_321 ez_321 => ?_)
                        have hh : z_310 = z_321 := ez_310.trans ez_321.symm
                        subst hh
                        refine va_sld hx hb hX hbl hbA hS hz_310 dL_law_458 ?_
                        refine lv_topi (fun v_322 ev_322 => ?_)
                        have hh : v_311 = v_322 := ev_311.trans ev_322.symm
                        subst hh
                        refine lv_i2l (v := v_311.toInt64) hx hb dL_law_459 rfl ?_
                        refine lv_bipush (v := 32) hx hb dL_law_460 (by decide) ?_
                        refine lv_lshl (v := v_311.toInt64 <<< ((32 : Int32).toInt64 &&& 63)) hx hb dL_law_462 rfl ?_
                        refine lv_aload_n hx hb dL_law_463 rfl (lv_at hl 0 rfl) ?_
                        refine lv_iload_n hx hb dL_law_464 rfl (lv_at hl 3 rfl) ?_
                        refine lv_iconst (v := 4) hx hb dL_law_465 (by decide) ?_
                        refine lv_iadd hx hb dL_law_466 ?_
                        refine lv_topi (fun z_323 ez_323 => ?_)
                        have hh : z_312 = z_323 := ez_312.trans ez_323.symm
                        subst hh
                        refine va_sld hx hb hX hbl hbA hS hz_312 dL_law_467 ?_
                        refine lv_topi (fun v_324 ev_324 => ?_)
                        have hh : v_313 = v_324 := ev_313.trans ev_324.symm
                        subst hh
                        refine lv_i2l (v := v_313.toInt64) hx hb dL_law_468 rfl ?_
                        refine lv_ldc2 (v := 4294967295) hx hb hown hk13 dL_law_469 ?_
                        refine lv_land hx hb dL_law_472 ?_
                        refine lv_topl (fun z_325 ez_325 => ?_)
                        have hh : z_314 = z_325 := ez_314.trans ez_325.symm
                        subst hh
                        refine lv_lor hx hb dL_law_473 ?_
                        refine lv_topl (fun z_326 ez_326 => ?_)
                        have hh : z_315 = z_326 := ez_315.trans ez_326.symm
                        subst hh
                        have hDx := kx_Dc hD
                        have hFm := kx_fr (kx_D1 hDx) hS hA
                        refine va_calll (va_runV (As := [.int v_307, .int v_309, .long z_315]) (rest := [.long r_316]) ⟨hx, hb, hml, hown, hts⟩ (r_again l dC dI g qs qm qa qf qk qt qd cs cm ca cf ck ct cd n kd ok cn rc rs an fl t0 t1 t2 t3 t4 t5 th wy hI.1 H.size v_307 v_309 z_315) (cwV 3 hts gL_law_X2_again rfl rfl rfl (by decide +kernel) ⟨Nat.le_of_ble_eq_true rfl, Nat.le_of_ble_eq_true rfl⟩) ⟨rQ_bl, va_recv hKm hPm (ci := 2) (q0 := 0) rfl rfl, fun U hU hW => ⟨rfl, rQ_at hU hW hPm hKm (kx_D1 hDx)⟩⟩ rfl rfl hl.1 rfl (lv_room (Nat.le_of_ble_eq_true rfl)) dL_law_474 ⟨(show cc + 0 ≤ 812163 by omega), (show ss + 0 ≤ 6665758 by omega)⟩) hS (fun q _ h9 => hFm q h9) hFm (fun r_327 u2 t8 H2 locs ht2 hvm2 hw2 hB2 hz2 hk2 hS => ?_)
                        obtain ⟨u2, th2, wy2⟩ := u2
                        obtain ⟨hPm, hDm⟩ := hB2
                        rw [ht2] at hPm
                        obtain ⟨hP, hDz⟩ := kx_jn hP hDx hk2 hFm hDm
                        have hD := kx_Dc hDz
                        have e1 : r_316 = r_327 := hw.trans hw2.1.symm
                        have e2 : (n, kd, ok, cn, rc, rs, an, fl, t0, t1, t2, t3, t4, t5) = u2 := hw2.2.symm
                        subst e2
                        have hi : lInv (n, kd, ok, cn, rc, rs, an, fl, t0, t1, t2, t3, t4, t5) (t + 1) := lInv_up hI
                        refine W.lcmp hx hb dL_law_477 ?_
                        refine lv_if_eq (tgt := 483) hx hb dL_law_478 (by decide) (fun c_328 => ?_) (fun c_328 => ?_)
                        · obtain ⟨i_329, ei_329⟩ : ∃ y : Int32, y = x3 + 5 := ⟨_, rfl⟩
                          refine lv_iinc (v := i_329) (lv' := [(3, .int i_329), (0, .ref b), (1, .ref h), (2, .ref g)]) hx hb dL_law_483 hl (k := 3) rfl (by rw [ei_329]; rfl) (by decide) rfl (fun ls hl => ?_)
                          refine lv_goto (tgt := 18) hx hb dL_law_486 (by decide) ?_
                          exact ih (t + 1) (by omega) (by omega) i_329 (by rw [ei_329, hx3]; exact nI_add (5 * t) 5) (n, kd, ok, cn, rc, rs, an, fl, t0, t1, t2, t3, t4, t5) hi ad th2 wy2 H2 locs _ _ (by omega) (by omega) hP hPm hD hS ls (lv_sub hl [1, 2, 3, 0] rfl)
                        · exact absurd ((lg_cmp_eq _ _).mpr e1) c_328
                      · have q0 : ¬ z_188.toInt = 0 := lv_neT hs_189 (by decide)
                        have q1 : ¬ z_188.toInt = 1 := lv_neT hs_210 (by decide)
                        have q2 : ¬ z_188.toInt = 2 := lv_neT hs_231 (by decide)
                        have q3 : ¬ z_188.toInt = 3 := lv_neT hs_244 (by decide)
                        have q4 : ¬ z_188.toInt = 4 := lv_neT hs_253 (by decide)
                        have q5 : ¬ z_188.toInt = 5 := lv_neT hs_278 (by decide)
                        have q6 : ¬ z_188.toInt = 6 := lv_neT hs_287 (by decide)
                        have q7 : ¬ z_188.toInt = 7 := lv_neT hs_296 (by decide)
                        have q8 : ¬ z_188.toInt = 8 := lv_neT hs_305 (by decide)
                        refine lv_tableOut (tgt := 483) hx hb dL_law_32 (by omega) (by decide) ?_
                        obtain ⟨i_330, ei_330⟩ : ∃ y : Int32, y = x3 + 5 := ⟨_, rfl⟩
                        refine lv_iinc (v := i_330) (lv' := [(3, .int i_330), (0, .ref b), (1, .ref h), (2, .ref g)]) hx hb dL_law_483 hl (k := 3) rfl (by rw [ei_330]; rfl) (by decide) rfl (fun ls hl => ?_)
                        refine lv_goto (tgt := 18) hx hb dL_law_486 (by decide) ?_
                        exact ih (t + 1) (by omega) (by omega) i_330 (by rw [ei_330, hx3]; exact nI_add (5 * t) 5) (n, kd, ok, cn, rc, rs, an, fl, t0, t1, t2, t3, t4, t5) (lInv_up hI) ad th wy H locs _ _ (by omega) (by omega) hP hPm hD hS ls (lv_sub hl [1, 2, 3, 0] rfl)
