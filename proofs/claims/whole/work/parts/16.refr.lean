set_option maxHeartbeats 1000000 in
set_option maxRecDepth 100000 in
/-- below(i, k) -/
theorem r_below (l : Launch) (i k : Int32) : Met l yX2_below wsX2_below ({ frames := 0, cells := 0, slots := 0, locals := 0 }) (va_Pc [.int i, .int k] (fun _ => True)) (vp_Si (fun r => ((0 ≤ i ∧ i < k) ∧ r = 1) ∨ (¬ (0 ≤ i ∧ i < k) ∧ r = 0))) 0 0 (fun _ => False) := by
  refine Met.ofW (cc := cX2_below) (maxL := 2) (ret := (some .boolean)) (by decide) rfl ?_
  intro p e s m args below meth c s₁ B hml hv
  obtain ⟨rfl, -⟩ := hv
  have hx := B.exec
  have hb := B.bytes
  have hr := B.returns
  have hts := atoms_spec (ws := wsX2_below) B.pre
  have hown : s.vm.findClass RX2 = some m.cls := findClass_of_methodNamed B.named
  have hlocks := B.notSynchronized
  have hl := lv_entry ([.int i, .int k]) (n := 2) (Nat.le_of_ble_eq_true rfl)
  rw [lg_entry_eq]
  generalize (lg_sl ([.int i, .int k]) ++ List.replicate (2 - (lg_sl ([.int i, .int k])).length) Slot.unset).toArray = ls at hl ⊢
  have hl : lv_has ls 2 [(0, .int i), (1, .int k)] := hl
  refine lv_iload_n hx hb dX2_below_0 rfl (lv_at hl 0 rfl) ?_
  refine lv_if_lt (tgt := 13) hx hb dX2_below_1 (by decide) (fun c_106 => ?_) (fun c_106 => ?_)
  · refine lv_iconst (v := 0) hx hb dX2_below_13 (by decide) ?_
    exact W.zret (v := 0) hx hb hr rfl (fun t ht hW => ⟨_, rfl, Or.inr ⟨fun q => Int32.not_le.mpr c_106 q.1, rfl⟩, ht⟩) (fun _ h => absurd h List.not_mem_nil) dX2_below_14
  · refine lv_iload_n hx hb dX2_below_4 rfl (lv_at hl 0 rfl) ?_
    refine lv_iload_n hx hb dX2_below_5 rfl (lv_at hl 1 rfl) ?_
    refine lv_icmp_ge (tgt := 13) hx hb dX2_below_6 (by decide) (fun c_107 => ?_) (fun c_107 => ?_)
    · refine lv_iconst (v := 0) hx hb dX2_below_13 (by decide) ?_
      exact W.zret (v := 0) hx hb hr rfl (fun t ht hW => ⟨_, rfl, Or.inr ⟨fun q => Int32.not_lt.mpr c_107 q.2, rfl⟩, ht⟩) (fun _ h => absurd h List.not_mem_nil) dX2_below_14
    · refine lv_iconst (v := 1) hx hb dX2_below_9 (by decide) ?_
      refine lv_goto (tgt := 14) hx hb dX2_below_10 (by decide) ?_
      exact W.zret (v := 1) hx hb hr rfl (fun t ht hW => ⟨_, rfl, Or.inl ⟨⟨Int32.not_lt.mp c_106, Int32.not_le.mp c_107⟩, rfl⟩, ht⟩) (fun _ h => absurd h List.not_mem_nil) dX2_below_14
set_option maxHeartbeats 1000000 in
set_option maxRecDepth 100000 in
/-- rowOf(c) -/
theorem r_rowOf (l : Launch) (cz : Int32) : Met l yX2_rowOf wsX2_rowOf ({ frames := 0, cells := 0, slots := 0, locals := 0 }) (va_Pc [.int cz] (fun _ => True)) (vp_Si (fun r => (8 ≤ cz ∧ r = mW4 cz) ∨ (¬ 8 ≤ cz ∧ r = -1))) 0 0 (fun _ => False) := by
  refine Met.ofW (cc := cX2_rowOf) (maxL := 1) (ret := (some .int)) (by decide) rfl ?_
  intro p e s m args below meth c s₁ B hml hv
  obtain ⟨rfl, -⟩ := hv
  have hx := B.exec
  have hb := B.bytes
  have hr := B.returns
  have hts := atoms_spec (ws := wsX2_rowOf) B.pre
  have hown : s.vm.findClass RX2 = some m.cls := findClass_of_methodNamed B.named
  have hlocks := B.notSynchronized
  have hl := lv_entry ([.int cz]) (n := 1) (Nat.le_of_ble_eq_true rfl)
  rw [lg_entry_eq]
  generalize (lg_sl ([.int cz]) ++ List.replicate (1 - (lg_sl ([.int cz])).length) Slot.unset).toArray = ls at hl ⊢
  have hl : lv_has ls 1 [(0, .int cz)] := hl
  refine lv_iload_n hx hb dX2_rowOf_0 rfl (lv_at hl 0 rfl) ?_
  refine lv_bipush (v := 8) hx hb dX2_rowOf_1 (by decide) ?_
  refine lv_icmp_ge (tgt := 10) hx hb dX2_rowOf_3 (by decide) (fun c_108 => ?_) (fun c_108 => ?_)
  · refine lv_iload_n hx hb dX2_rowOf_10 rfl (lv_at hl 0 rfl) ?_
    refine lv_iconst (v := 4) hx hb dX2_rowOf_11 (by decide) ?_
    refine lv_irem hx hb dX2_rowOf_12 (by decide) ?_
    refine lv_topi (fun z_109 ez_109 => ?_)
    exact W.iret (v := z_109) hx hb hr (fun t ht hW => ⟨_, rfl, Or.inl ⟨c_108, ez_109⟩, ht⟩) (fun _ h => absurd h List.not_mem_nil) dX2_rowOf_13
  · refine lv_iconst (v := (-1)) hx hb dX2_rowOf_6 (by decide) ?_
    refine lv_goto (tgt := 13) hx hb dX2_rowOf_7 (by decide) ?_
    exact W.iret (v := (-1)) hx hb hr (fun t ht hW => ⟨_, rfl, Or.inr ⟨c_108, rfl⟩, ht⟩) (fun _ h => absurd h List.not_mem_nil) dX2_rowOf_13
theorem iwX2_refusal : ∀ w ∈ wsX20, w ∈ wsX2_refusal := fun _ h => List.mem_cons_of_mem _ (List.mem_append_right _ h)
set_option maxHeartbeats 1000000 in
set_option maxRecDepth 100000 in
/-- refusal(c, x, a) -/
theorem r_refusal (l : Launch) (dC : Nat → ClassId) (dI : Nat → Nat → Nat) (h qs qm qa qf qk qt qd : Nat) (cs cm ca cf ck ct cd : ClassId) (n : Nat) (kd ok cn rc : Nat → Int32) (rs an : Nat → Int64) (fl : Nat → Int32) (t0 t1 t2 t3 t4 t5 th wy : Int32) (hn : n ≤ 200) (cz x : Int32) (a : Int64) : Met l yX2_refusal wsX2_refusal ({ frames := 1, cells := 0, slots := 0, locals := 21 }) (va_Pc [.ref h, .int cz, .int x, .long a] (rP dC dI [(cs, .long), (cm, .int), (ca, .long), (cf, .int), (ck, .int), (ct, .boolean), (cd, .long)] (rW h qs qm qa qf qk qt qd cs cm ca cf ck ct cd n kd ok cn rc rs an fl t0 t1 t2 t3 t4 t5 th wy))) (vp_Si (fun r => r = mRefX n kd ok rc cz x a)) 0 0 (fun _ => False) := by
  refine Met.ofW (cc := cX2_refusal) (maxL := 5) (ret := (some .int)) (by decide) rfl ?_
  intro p e s m args below meth c s₁ B hml hv
  obtain ⟨rfl, hP, hK⟩ := hv
  have hx := B.exec
  have hb := B.bytes
  have hr := B.returns
  have hts := atoms_spec (ws := wsX2_refusal) B.pre
  have hown : s.vm.findClass RX2 = some m.cls := findClass_of_methodNamed B.named
  have hlocks := B.notSynchronized
  have hl := lv_entry ([.ref h, .int cz, .int x, .long a]) (n := 5) (Nat.le_of_ble_eq_true rfl)
  rw [lg_entry_eq]
  generalize (lg_sl ([.ref h, .int cz, .int x, .long a]) ++ List.replicate (5 - (lg_sl ([.ref h, .int cz, .int x, .long a])).length) Slot.unset).toArray = ls at hl ⊢
  have hl : lv_has ls 5 [(0, .ref h), (1, .int cz), (2, .int x), (3, .long a)] := hl
  refine lv_iload_n hx hb dX2_refusal_0 rfl (lv_at hl 1 rfl) ?_
  refine lv_bipush (v := 32) hx hb dX2_refusal_1 (by decide) ?_
  refine vp_callSi (W.runS (As := [.int cz, .int 32]) (rest := []) ⟨hx, hb, hml, hown, hts⟩ (r_below l cz 32) (va_cwS 2 hts gX2_refusal_X2_below rfl rfl rfl (by decide +kernel) ⟨Nat.le_of_ble_eq_true rfl, Nat.le_of_ble_eq_true rfl⟩) ⟨fun _ _ _ _ q => q, fun _ _ _ => ⟨rfl, trivial⟩⟩ rfl rfl hl.1 rfl (lv_room (Nat.le_of_ble_eq_true rfl)) dX2_refusal_3 ⟨Nat.le_of_ble_eq_true rfl, Nat.le_of_ble_eq_true rfl⟩) (fun r9 hr9 => ?_)
  rcases hr9 with ⟨hq_110, rfl⟩ | ⟨hq_110, rfl⟩
  · refine lv_if_eq (tgt := 37) hx hb dX2_refusal_6 (by decide) (fun h => absurd h (by decide)) (fun _ => ?_)
    refine lv_iload_n hx hb dX2_refusal_9 rfl (lv_at hl 2 rfl) ?_
    refine lv_iconst (v := 1) hx hb dX2_refusal_10 (by decide) ?_
    refine lv_icmp_lt (tgt := 37) hx hb dX2_refusal_11 (by decide) (fun c_112 => ?_) (fun c_112 => ?_)
    · refine lv_bipush (v := (-2)) hx hb dX2_refusal_37 (by decide) ?_
      exact W.iret (v := (-2)) hx hb hr (fun t ht hW => ⟨_, rfl, (by unfold mRefX; rw [if_neg (fun q => Int32.not_le.mpr c_112 q.1)]), ht⟩) (fun _ h => absurd h List.not_mem_nil) dX2_refusal_39
    · refine lv_iload_n hx hb dX2_refusal_14 rfl (lv_at hl 2 rfl) ?_
      refine lv_aload_n hx hb dX2_refusal_15 rfl (lv_at hl 0 rfl) ?_
      refine va_get (D := (dC, dI)) (ci := 2) (v := .int (nI n)) (C := RX2) (T := TX2) (N := 16) hx hb hts iwX2_refusal hown hK hP 0 rfl rfl 7 (by decide) (hts (.fieldLink RX2 41 "MainframeDeskModel" "made" "I") (by decide +kernel)) (fun _ h9 => h9) rfl dX2_refusal_16 ?_
      refine lv_icmp_gt (tgt := 37) hx hb dX2_refusal_19 (by decide) (fun c_113 => ?_) (fun c_113 => ?_)
      · refine lv_bipush (v := (-2)) hx hb dX2_refusal_37 (by decide) ?_
        exact W.iret (v := (-2)) hx hb hr (fun t ht hW => ⟨_, rfl, (by unfold mRefX; rw [if_neg (fun q => Int32.not_le.mpr c_113 q.2)]), ht⟩) (fun _ h => absurd h List.not_mem_nil) dX2_refusal_39
      · have hxx : 1 ≤ x ∧ x ≤ nI n := ⟨Int32.not_lt.mp c_112, Int32.not_lt.mp c_113⟩
        refine lv_aload_n hx hb dX2_refusal_22 rfl (lv_at hl 0 rfl) ?_
        refine va_get (D := (dC, dI)) (ci := 2) (v := .ref qk) (C := RX2) (T := TX2) (N := 16) hx hb hts iwX2_refusal hown hK hP 0 rfl rfl 4 (by decide) (hts (.fieldLink RX2 23 "MainframeDeskModel" "kind" "[I") (by decide +kernel)) (fun _ h9 => h9) rfl dX2_refusal_23 ?_
        refine lv_iload_n hx hb dX2_refusal_26 rfl (lv_at hl 2 rfl) ?_
        refine lv_iconst (v := 1) hx hb dX2_refusal_27 (by decide) ?_
        refine lv_isub hx hb dX2_refusal_28 ?_
        refine va_iald hx hb hK hP 5 4 rfl rfl (kx_ix2 hn hxx) dX2_refusal_29 ?_
        refine lv_topi (fun v_114 ev_114 => ?_)
        replace ev_114 : v_114 = kd (mIx x) := ev_114
        refine lv_iload_n hx hb dX2_refusal_30 rfl (lv_at hl 1 rfl) ?_
        refine lv_bipush (v := 8) hx hb dX2_refusal_31 (by decide) ?_
        refine lv_irem hx hb dX2_refusal_33 (by decide) ?_
        refine lv_topi (fun z_115 ez_115 => ?_)
        refine lv_icmp_eq (tgt := 40) hx hb dX2_refusal_34 (by decide) (fun c_116 => ?_) (fun c_116 => ?_)
        · refine lv_lload_n hx hb dX2_refusal_40 rfl (lv_at hl 3 rfl) ?_
          refine lv_lconst (v := 0) hx hb dX2_refusal_41 (by decide) ?_
          refine W.lcmp hx hb dX2_refusal_42 ?_
          refine lv_if_lt (tgt := 54) hx hb dX2_refusal_43 (by decide) (fun c_117 => ?_) (fun c_117 => ?_)
          · refine lv_bipush (v := (-4)) hx hb dX2_refusal_54 (by decide) ?_
            subst ev_114
            subst ez_115
            exact W.iret (v := (-4)) hx hb hr (fun t ht hW => ⟨_, rfl, (by unfold mRefX; rw [if_pos hxx]; unfold mRef; rw [if_pos ⟨hq_110, c_116⟩, if_neg (fun q => Int64.not_le.mpr ((lg_cmp_lt _ _).mp c_117) q.1)]), ht⟩) (fun _ h => absurd h List.not_mem_nil) dX2_refusal_56
          · refine lv_lload_n hx hb dX2_refusal_46 rfl (lv_at hl 3 rfl) ?_
            refine lv_ldc2 (v := 1000000) hx hb hown (hts (.constantLong RX2 44 1000000) (by decide +kernel)) dX2_refusal_47 ?_
            refine W.lcmp hx hb dX2_refusal_50 ?_
            refine lv_if_le (tgt := 57) hx hb dX2_refusal_51 (by decide) (fun c_118 => ?_) (fun c_118 => ?_)
            · refine lv_aload_n hx hb dX2_refusal_57 rfl (lv_at hl 0 rfl) ?_
              refine va_get (D := (dC, dI)) (ci := 2) (v := .ref qt) (C := RX2) (T := TX2) (N := 16) hx hb hts iwX2_refusal hown hK hP 0 rfl rfl 5 (by decide) (hts (.fieldLink RX2 26 "MainframeDeskModel" "there" "[Z") (by decide +kernel)) (fun _ h9 => h9) rfl dX2_refusal_58 ?_
              refine lv_iload_n hx hb dX2_refusal_61 rfl (lv_at hl 2 rfl) ?_
              refine lv_iconst (v := 1) hx hb dX2_refusal_62 (by decide) ?_
              refine lv_isub hx hb dX2_refusal_63 ?_
              refine va_zald hx hb hK hP 6 5 rfl rfl (kx_ix2 hn hxx) dX2_refusal_64 ?_
              refine lv_topi (fun v_119 ev_119 => ?_)
              replace ev_119 : v_119 = ok (mIx x) := ev_119
              refine lv_if_eq (tgt := 86) hx hb dX2_refusal_65 (by decide) (fun c_120 => ?_) (fun c_120 => ?_)
              · refine lv_bipush (v := (-5)) hx hb dX2_refusal_86 (by decide) ?_
                refine lv_goto (tgt := 92) hx hb dX2_refusal_88 (by decide) ?_
                subst ev_114
                subst ez_115
                subst ev_119
                exact W.iret (v := (-5)) hx hb hr (fun t ht hW => ⟨_, rfl, (by unfold mRefX; rw [if_pos hxx]; unfold mRef; rw [if_pos ⟨hq_110, c_116⟩, if_pos ⟨Int64.not_lt.mp (fun q => c_117 ((lg_cmp_lt _ _).mpr q)), (lg_cmp_le _ _).mp c_118⟩, if_pos (Or.inl c_120)]), ht⟩) (fun _ h => absurd h List.not_mem_nil) dX2_refusal_92
              · refine lv_iload_n hx hb dX2_refusal_68 rfl (lv_at hl 1 rfl) ?_
                refine lv_bipush (v := 24) hx hb dX2_refusal_69 (by decide) ?_
                refine lv_icmp_lt (tgt := 91) hx hb dX2_refusal_71 (by decide) (fun c_121 => ?_) (fun c_121 => ?_)
                · refine lv_iconst (v := 0) hx hb dX2_refusal_91 (by decide) ?_
                  subst ev_114
                  subst ez_115
                  subst ev_119
                  exact W.iret (v := 0) hx hb hr (fun t ht hW => ⟨_, rfl, (by unfold mRefX; rw [if_pos hxx]; unfold mRef; rw [if_pos ⟨hq_110, c_116⟩, if_pos ⟨Int64.not_lt.mp (fun q => c_117 ((lg_cmp_lt _ _).mpr q)), (lg_cmp_le _ _).mp c_118⟩, if_neg (fun q => q.elim c_120 (fun w9 => Int32.not_le.mpr c_121 w9.1))]), ht⟩) (fun _ h => absurd h List.not_mem_nil) dX2_refusal_92
                · refine lv_aload_n hx hb dX2_refusal_74 rfl (lv_at hl 0 rfl) ?_
                  refine va_get (D := (dC, dI)) (ci := 2) (v := .ref qm) (C := RX2) (T := TX2) (N := 16) hx hb hts iwX2_refusal hown hK hP 0 rfl rfl 1 (by decide) (hts (.fieldLink RX2 13 "MainframeDeskModel" "many" "[I") (by decide +kernel)) (fun _ h9 => h9) rfl dX2_refusal_75 ?_
                  refine lv_iload_n hx hb dX2_refusal_78 rfl (lv_at hl 1 rfl) ?_
                  refine vp_callSi (W.runS (As := [.int cz]) (rest := [.ref qm]) ⟨hx, hb, hml, hown, hts⟩ (r_rowOf l cz) (va_cwS 1 hts gX2_refusal_X2_rowOf rfl rfl rfl (by decide +kernel) ⟨Nat.le_of_ble_eq_true rfl, Nat.le_of_ble_eq_true rfl⟩) ⟨fun _ _ _ _ q => q, fun _ _ _ => ⟨rfl, trivial⟩⟩ rfl rfl hl.1 rfl (lv_room (Nat.le_of_ble_eq_true rfl)) dX2_refusal_79 ⟨Nat.le_of_ble_eq_true rfl, Nat.le_of_ble_eq_true rfl⟩) (fun r9 hr9 => ?_)
                  rcases hr9 with ⟨h8_122, rfl⟩ | ⟨h8_122, rfl⟩
                  · refine va_iald hx hb hK hP 2 1 rfl rfl (kx_w4 hq_110) dX2_refusal_82 ?_
                    refine lv_topi (fun v_123 ev_123 => ?_)
                    refine lv_if_ne (tgt := 91) hx hb dX2_refusal_83 (by decide) (fun c_124 => ?_) (fun c_124 => ?_)
                    · refine lv_iconst (v := 0) hx hb dX2_refusal_91 (by decide) ?_
                      subst ev_114
                      subst ez_115
                      subst ev_119
                      subst ev_123
                      exact W.iret (v := 0) hx hb hr (fun t ht hW => ⟨_, rfl, (by unfold mRefX; rw [if_pos hxx]; unfold mRef; rw [if_pos ⟨hq_110, c_116⟩, if_pos ⟨Int64.not_lt.mp (fun q => c_117 ((lg_cmp_lt _ _).mpr q)), (lg_cmp_le _ _).mp c_118⟩, if_neg (fun q => q.elim c_120 (fun w9 => c_124 w9.2))]), ht⟩) (fun _ h => absurd h List.not_mem_nil) dX2_refusal_92
                    · refine lv_bipush (v := (-5)) hx hb dX2_refusal_86 (by decide) ?_
                      refine lv_goto (tgt := 92) hx hb dX2_refusal_88 (by decide) ?_
                      subst ev_114
                      subst ez_115
                      subst ev_119
                      subst ev_123
                      exact W.iret (v := (-5)) hx hb hr (fun t ht hW => ⟨_, rfl, (by unfold mRefX; rw [if_pos hxx]; unfold mRef; rw [if_pos ⟨hq_110, c_116⟩, if_pos ⟨Int64.not_lt.mp (fun q => c_117 ((lg_cmp_lt _ _).mpr q)), (lg_cmp_le _ _).mp c_118⟩, if_pos (Or.inr ⟨Int32.not_lt.mp c_121, c_124⟩)]), ht⟩) (fun _ h => absurd h List.not_mem_nil) dX2_refusal_92
                  · exact absurd (Int32.le_trans (by decide) (Int32.not_lt.mp c_121)) h8_122
            · refine lv_bipush (v := (-4)) hx hb dX2_refusal_54 (by decide) ?_
              subst ev_114
              subst ez_115
              exact W.iret (v := (-4)) hx hb hr (fun t ht hW => ⟨_, rfl, (by unfold mRefX; rw [if_pos hxx]; unfold mRef; rw [if_pos ⟨hq_110, c_116⟩, if_neg (fun q => c_118 ((lg_cmp_le _ _).mpr q.2))]), ht⟩) (fun _ h => absurd h List.not_mem_nil) dX2_refusal_56
        · refine lv_bipush (v := (-2)) hx hb dX2_refusal_37 (by decide) ?_
          subst ev_114
          subst ez_115
          exact W.iret (v := (-2)) hx hb hr (fun t ht hW => ⟨_, rfl, (by unfold mRefX; rw [if_pos hxx]; unfold mRef; rw [if_neg (fun q => c_116 q.2)]), ht⟩) (fun _ h => absurd h List.not_mem_nil) dX2_refusal_39
  · refine lv_if_eq (tgt := 37) hx hb dX2_refusal_6 (by decide) (fun _ => ?_) (fun h => absurd h (by decide))
    refine lv_bipush (v := (-2)) hx hb dX2_refusal_37 (by decide) ?_
    exact W.iret (v := (-2)) hx hb hr (fun t ht hW => ⟨_, rfl, (by unfold mRefX; (split <;> first | rfl | (unfold mRef; rw [if_neg (fun q => hq_110 q.1)]))), ht⟩) (fun _ h => absurd h List.not_mem_nil) dX2_refusal_39
