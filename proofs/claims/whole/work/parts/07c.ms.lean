set_option maxHeartbeats 4000000 in
set_option maxRecDepth 100000 in
theorem c_m_regionOf (l : Launch) (a : Int32) : Met l yX1_regionOf wsX1_regionOf ({ frames := 0, cells := 0, slots := 0, locals := 0 }) (va_Pc [.int a] (fun _ => True)) (vp_Si (fun r => m_regionOf a = r)) 0 0 (fun _ => False) := by
  refine Met.ofW (cc := cX1_regionOf) (maxL := 1) (ret := (some .int)) (by decide) rfl ?_
  intro p e s m args below meth c s₁ B hml hv
  obtain ⟨rfl, -⟩ := hv
  have hx := B.exec
  have hb := B.bytes
  have hr := B.returns
  have hts : ∀ w ∈ bX1, w.before _ s = true := fun w h => atoms_spec (ws := wsX1_regionOf) B.pre w (List.mem_cons_of_mem _ h)
  have hown : s.vm.findClass RX1 = some m.cls := findClass_of_methodNamed B.named
  have hlocks := B.notSynchronized
  have hl := lv_entry ([.int a]) (n := 1) (Nat.le_of_ble_eq_true rfl)
  rw [lg_entry_eq]
  generalize (lg_sl ([.int a]) ++ List.replicate (1 - (lg_sl ([.int a])).length) Slot.unset).toArray = ls at hl ⊢
  have hl : lv_has ls 1 [(0, .int a)] := hl
  refine lv_iload_n hx hb dX1_regionOf_0 rfl (lv_at hl 0 rfl) ?_
  refine lv_bipush (v := 14) hx hb dX1_regionOf_1 (by decide) ?_
  refine lv_ishr hx hb dX1_regionOf_3 ?_
  refine lv_iconst (v := 3) hx hb dX1_regionOf_4 (by decide) ?_
  refine lv_iand hx hb dX1_regionOf_5 ?_
  exact W.iret (v := ((a >>> (14 &&& 31)) &&& 3)) hx hb hr (fun t ht _ => ⟨((a >>> (14 &&& 31)) &&& 3), rfl, rfl, ht⟩) t_nil dX1_regionOf_6
set_option maxHeartbeats 4000000 in
set_option maxRecDepth 100000 in
theorem c_m_pageOf (l : Launch) (a : Int32) : Met l yX1_pageOf wsX1_pageOf ({ frames := 0, cells := 0, slots := 0, locals := 0 }) (va_Pc [.int a] (fun _ => True)) (vp_Si (fun r => m_pageOf a = r)) 0 0 (fun _ => False) := by
  refine Met.ofW (cc := cX1_pageOf) (maxL := 1) (ret := (some .int)) (by decide) rfl ?_
  intro p e s m args below meth c s₁ B hml hv
  obtain ⟨rfl, -⟩ := hv
  have hx := B.exec
  have hb := B.bytes
  have hr := B.returns
  have hts : ∀ w ∈ bX1, w.before _ s = true := fun w h => atoms_spec (ws := wsX1_pageOf) B.pre w (List.mem_cons_of_mem _ h)
  have hown : s.vm.findClass RX1 = some m.cls := findClass_of_methodNamed B.named
  have hlocks := B.notSynchronized
  have hl := lv_entry ([.int a]) (n := 1) (Nat.le_of_ble_eq_true rfl)
  rw [lg_entry_eq]
  generalize (lg_sl ([.int a]) ++ List.replicate (1 - (lg_sl ([.int a])).length) Slot.unset).toArray = ls at hl ⊢
  have hl : lv_has ls 1 [(0, .int a)] := hl
  refine lv_iload_n hx hb dX1_pageOf_0 rfl (lv_at hl 0 rfl) ?_
  refine lv_iconst (v := 4) hx hb dX1_pageOf_1 (by decide) ?_
  refine lv_ishr hx hb dX1_pageOf_2 ?_
  refine lv_sipush (v := 1023) hx hb dX1_pageOf_3 (by decide) ?_
  refine lv_iand hx hb dX1_pageOf_6 ?_
  exact W.iret (v := ((a >>> (4 &&& 31)) &&& 1023)) hx hb hr (fun t ht _ => ⟨((a >>> (4 &&& 31)) &&& 1023), rfl, rfl, ht⟩) t_nil dX1_pageOf_7
set_option maxHeartbeats 4000000 in
set_option maxRecDepth 100000 in
theorem c_m_slot (l : Launch) (a : Int32) : Met l yX1_slot wsX1_slot ({ frames := 1, cells := 0, slots := 0, locals := 20 }) (va_Pc [.int a] (fun _ => True)) (vp_Si (fun r => m_slot a = r)) 0 0 (fun _ => False) := by
  refine Met.ofW (cc := cX1_slot) (maxL := 1) (ret := (some .int)) (by decide) rfl ?_
  intro p e s m args below meth c s₁ B hml hv
  obtain ⟨rfl, -⟩ := hv
  have hx := B.exec
  have hb := B.bytes
  have hr := B.returns
  have hts : ∀ w ∈ bX1, w.before _ s = true := fun w h => atoms_spec (ws := wsX1_slot) B.pre w (List.mem_cons_of_mem _ h)
  have hown : s.vm.findClass RX1 = some m.cls := findClass_of_methodNamed B.named
  have hlocks := B.notSynchronized
  have hl := lv_entry ([.int a]) (n := 1) (Nat.le_of_ble_eq_true rfl)
  rw [lg_entry_eq]
  generalize (lg_sl ([.int a]) ++ List.replicate (1 - (lg_sl ([.int a])).length) Slot.unset).toArray = ls at hl ⊢
  have hl : lv_has ls 1 [(0, .int a)] := hl
  refine lv_iload_n hx hb dX1_slot_0 rfl (lv_at hl 0 rfl) ?_
  refine vp_callSi (W.runS (As := [.int a]) (rest := []) ⟨hx, hb, hml, hown, hts⟩ (c_m_regionOf l a ) (va_cwS 1 hts gX1_X1_regionOf rfl rfl rfl (by decide +kernel) ⟨Nat.le_of_ble_eq_true rfl, Nat.le_of_ble_eq_true rfl⟩) (fs_pre) rfl rfl hl.1 rfl (lv_room (Nat.le_of_ble_eq_true rfl)) dX1_slot_1 ⟨Nat.zero_le _, Nat.zero_le _⟩) (fun r er => ?_)
  subst er
  refine lv_iconst (v := 2) hx hb dX1_slot_4 (by decide) ?_
  refine lv_icmp_ne (tgt := 13) hx hb dX1_slot_5 (by decide) (fun c_1 => ?_) (fun c_1 => ?_)
  · refine lv_iconst (v := 0) hx hb dX1_slot_13 (by decide) ?_
    refine lv_iload_n hx hb dX1_slot_14 rfl (lv_at hl 0 rfl) ?_
    refine vp_callSi (W.runS (As := [.int a]) (rest := [.int 0]) ⟨hx, hb, hml, hown, hts⟩ (c_m_pageOf l a ) (va_cwS 1 hts gX1_X1_pageOf rfl rfl rfl (by decide +kernel) ⟨Nat.le_of_ble_eq_true rfl, Nat.le_of_ble_eq_true rfl⟩) (fs_pre) rfl rfl hl.1 rfl (lv_room (Nat.le_of_ble_eq_true rfl)) dX1_slot_15 ⟨Nat.zero_le _, Nat.zero_le _⟩) (fun r er => ?_)
    subst er
    refine lv_bipush (v := 8) hx hb dX1_slot_18 (by decide) ?_
    refine lv_irem hx hb dX1_slot_20 (by decide) ?_
    refine lv_iadd hx hb dX1_slot_21 ?_
    exact W.iret (v := ((0 : Int32) + ((m_pageOf a) - (m_pageOf a) / 8 * 8))) hx hb hr (fun t ht _ => ⟨((0 : Int32) + ((m_pageOf a) - (m_pageOf a) / 8 * 8)), rfl, (if_neg c_1).trans rfl, ht⟩) t_nil dX1_slot_22
  · refine lv_bipush (v := 8) hx hb dX1_slot_8 (by decide) ?_
    refine lv_goto (tgt := 14) hx hb dX1_slot_10 (by decide) ?_
    refine lv_iload_n hx hb dX1_slot_14 rfl (lv_at hl 0 rfl) ?_
    refine vp_callSi (W.runS (As := [.int a]) (rest := [.int 8]) ⟨hx, hb, hml, hown, hts⟩ (c_m_pageOf l a ) (va_cwS 1 hts gX1_X1_pageOf rfl rfl rfl (by decide +kernel) ⟨Nat.le_of_ble_eq_true rfl, Nat.le_of_ble_eq_true rfl⟩) (fs_pre) rfl rfl hl.1 rfl (lv_room (Nat.le_of_ble_eq_true rfl)) dX1_slot_15 ⟨Nat.zero_le _, Nat.zero_le _⟩) (fun r er => ?_)
    subst er
    refine lv_bipush (v := 8) hx hb dX1_slot_18 (by decide) ?_
    refine lv_irem hx hb dX1_slot_20 (by decide) ?_
    refine lv_iadd hx hb dX1_slot_21 ?_
    exact W.iret (v := ((8 : Int32) + ((m_pageOf a) - (m_pageOf a) / 8 * 8))) hx hb hr (fun t ht _ => ⟨((8 : Int32) + ((m_pageOf a) - (m_pageOf a) / 8 * 8)), rfl, (if_pos c_1).trans rfl, ht⟩) t_nil dX1_slot_22
set_option maxHeartbeats 4000000 in
set_option maxRecDepth 100000 in
theorem c_m_isSize (l : Launch) (k : Int32) : Met l yX1_isSize wsX1_isSize ({ frames := 0, cells := 0, slots := 0, locals := 0 }) (va_Pc [.int k] (fun _ => True)) (vp_Si (fun r => m_isSize k = r)) 0 0 (fun _ => False) := by
  refine Met.ofW (cc := cX1_isSize) (maxL := 1) (ret := (some .boolean)) (by decide) rfl ?_
  intro p e s m args below meth c s₁ B hml hv
  obtain ⟨rfl, -⟩ := hv
  have hx := B.exec
  have hb := B.bytes
  have hr := B.returns
  have hts : ∀ w ∈ bX1, w.before _ s = true := fun w h => atoms_spec (ws := wsX1_isSize) B.pre w (List.mem_cons_of_mem _ h)
  have hown : s.vm.findClass RX1 = some m.cls := findClass_of_methodNamed B.named
  have hlocks := B.notSynchronized
  have hl := lv_entry ([.int k]) (n := 1) (Nat.le_of_ble_eq_true rfl)
  rw [lg_entry_eq]
  generalize (lg_sl ([.int k]) ++ List.replicate (1 - (lg_sl ([.int k])).length) Slot.unset).toArray = ls at hl ⊢
  have hl : lv_has ls 1 [(0, .int k)] := hl
  refine lv_iload_n hx hb dX1_isSize_0 rfl (lv_at hl 0 rfl) ?_
  refine lv_iconst (v := 1) hx hb dX1_isSize_1 (by decide) ?_
  refine lv_icmp_eq (tgt := 15) hx hb dX1_isSize_2 (by decide) (fun c_1 => ?_) (fun c_1 => ?_)
  · refine lv_iconst (v := 1) hx hb dX1_isSize_15 (by decide) ?_
    refine lv_goto (tgt := 20) hx hb dX1_isSize_16 (by decide) ?_
    exact W.zret (ty := .boolean) (v := 1) hx hb hr rfl (fun t ht _ => ⟨1, rfl, (if_pos c_1).trans rfl, ht⟩) t_nil dX1_isSize_20
  · refine lv_iload_n hx hb dX1_isSize_5 rfl (lv_at hl 0 rfl) ?_
    refine lv_iconst (v := 2) hx hb dX1_isSize_6 (by decide) ?_
    refine lv_icmp_eq (tgt := 15) hx hb dX1_isSize_7 (by decide) (fun c_2 => ?_) (fun c_2 => ?_)
    · refine lv_iconst (v := 1) hx hb dX1_isSize_15 (by decide) ?_
      refine lv_goto (tgt := 20) hx hb dX1_isSize_16 (by decide) ?_
      exact W.zret (ty := .boolean) (v := 1) hx hb hr rfl (fun t ht _ => ⟨1, rfl, (if_neg c_1).trans ((if_pos c_2).trans rfl), ht⟩) t_nil dX1_isSize_20
    · refine lv_iload_n hx hb dX1_isSize_10 rfl (lv_at hl 0 rfl) ?_
      refine lv_iconst (v := 4) hx hb dX1_isSize_11 (by decide) ?_
      refine lv_icmp_ne (tgt := 19) hx hb dX1_isSize_12 (by decide) (fun c_3 => ?_) (fun c_3 => ?_)
      · refine lv_iconst (v := 0) hx hb dX1_isSize_19 (by decide) ?_
        exact W.zret (ty := .boolean) (v := 0) hx hb hr rfl (fun t ht _ => ⟨0, rfl, (if_neg c_1).trans ((if_neg c_2).trans ((if_neg c_3).trans rfl)), ht⟩) t_nil dX1_isSize_20
      · refine lv_iconst (v := 1) hx hb dX1_isSize_15 (by decide) ?_
        refine lv_goto (tgt := 20) hx hb dX1_isSize_16 (by decide) ?_
        exact W.zret (ty := .boolean) (v := 1) hx hb hr rfl (fun t ht _ => ⟨1, rfl, (if_neg c_1).trans ((if_neg c_2).trans ((if_pos c_3).trans rfl)), ht⟩) t_nil dX1_isSize_20
set_option maxHeartbeats 4000000 in
set_option maxRecDepth 100000 in
theorem c_m_isThere (l : Launch) (dC : Nat → ClassId) (dI : Nat → Nat → Nat) (h : Nat → Nat) (cI : ClassId) (n : Nat) (σ : MS) (a : Int32) : Met l yX1_isThere wsX1_isThere ({ frames := 0, cells := 0, slots := 0, locals := 0 }) (va_Pc [.ref (h 0), .int a] (m_BP dC dI h cI n σ)) (vp_Si (fun r => m_isThere n σ a = r)) 0 0 (fun _ => False) := by
  refine Met.ofW (cc := cX1_isThere) (maxL := 2) (ret := (some .boolean)) (by decide) rfl ?_
  intro p e s m args below meth c s₁ B hml hv
  obtain ⟨rfl, hP, hK⟩ := hv
  have hx := B.exec
  have hb := B.bytes
  have hr := B.returns
  have hts : ∀ w ∈ bX1, w.before _ s = true := fun w h => atoms_spec (ws := wsX1_isThere) B.pre w (List.mem_cons_of_mem _ h)
  have hown : s.vm.findClass RX1 = some m.cls := findClass_of_methodNamed B.named
  have hlocks := B.notSynchronized
  have hl := lv_entry ([.ref (h 0), .int a]) (n := 2) (Nat.le_of_ble_eq_true rfl)
  rw [lg_entry_eq]
  generalize (lg_sl ([.ref (h 0), .int a]) ++ List.replicate (2 - (lg_sl ([.ref (h 0), .int a])).length) Slot.unset).toArray = ls at hl ⊢
  have hl : lv_has ls 2 [(0, .ref (h 0)), (1, .int a)] := hl
  refine lv_iload_n hx hb dX1_isThere_0 rfl (lv_at hl 1 rfl) ?_
  refine lv_if_lt (tgt := 16) hx hb dX1_isThere_1 (by decide) (fun c_1 => ?_) (fun c_1 => ?_)
  · refine lv_iconst (v := 0) hx hb dX1_isThere_16 (by decide) ?_
    exact W.zret (ty := .boolean) (v := 0) hx hb hr rfl (fun t ht _ => ⟨0, rfl, (if_pos c_1).trans rfl, ht⟩) t_nil dX1_isThere_17
  · refine lv_iload_n hx hb dX1_isThere_4 rfl (lv_at hl 1 rfl) ?_
    refine lv_aload_n hx hb dX1_isThere_5 rfl (lv_at hl 0 rfl) ?_
    refine va_get (D := (dC, dI)) (ci := 1) (v := .int (nI n)) (C := RX1) (T := TX1) (N := 14) hx hb hts inbX1 hown hK hP 0 rfl rfl 1 (by decide) (hts _ bX1_1) (fun _ h9 => h9) rfl dX1_isThere_6 ?_
    refine lv_icmp_ge (tgt := 16) hx hb dX1_isThere_9 (by decide) (fun c_2 => ?_) (fun c_2 => ?_)
    · refine lv_iconst (v := 0) hx hb dX1_isThere_16 (by decide) ?_
      exact W.zret (ty := .boolean) (v := 0) hx hb hr rfl (fun t ht _ => ⟨0, rfl, (if_neg c_1).trans ((if_pos c_2).trans rfl), ht⟩) t_nil dX1_isThere_17
    · refine lv_iconst (v := 1) hx hb dX1_isThere_12 (by decide) ?_
      refine lv_goto (tgt := 17) hx hb dX1_isThere_13 (by decide) ?_
      exact W.zret (ty := .boolean) (v := 1) hx hb hr rfl (fun t ht _ => ⟨1, rfl, (if_neg c_1).trans ((if_neg c_2).trans rfl), ht⟩) t_nil dX1_isThere_17
set_option maxHeartbeats 4000000 in
set_option maxRecDepth 100000 in
theorem c_m_areFour (l : Launch) (dC : Nat → ClassId) (dI : Nat → Nat → Nat) (h : Nat → Nat) (cI : ClassId) (n : Nat) (σ : MS) (a : Int32) : Met l yX1_areFour wsX1_areFour ({ frames := 0, cells := 0, slots := 0, locals := 0 }) (va_Pc [.ref (h 0), .int a] (m_BP dC dI h cI n σ)) (vp_Si (fun r => m_areFour n σ a = r)) 0 0 (fun _ => False) := by
  refine Met.ofW (cc := cX1_areFour) (maxL := 2) (ret := (some .boolean)) (by decide) rfl ?_
  intro p e s m args below meth c s₁ B hml hv
  obtain ⟨rfl, hP, hK⟩ := hv
  have hx := B.exec
  have hb := B.bytes
  have hr := B.returns
  have hts : ∀ w ∈ bX1, w.before _ s = true := fun w h => atoms_spec (ws := wsX1_areFour) B.pre w (List.mem_cons_of_mem _ h)
  have hown : s.vm.findClass RX1 = some m.cls := findClass_of_methodNamed B.named
  have hlocks := B.notSynchronized
  have hl := lv_entry ([.ref (h 0), .int a]) (n := 2) (Nat.le_of_ble_eq_true rfl)
  rw [lg_entry_eq]
  generalize (lg_sl ([.ref (h 0), .int a]) ++ List.replicate (2 - (lg_sl ([.ref (h 0), .int a])).length) Slot.unset).toArray = ls at hl ⊢
  have hl : lv_has ls 2 [(0, .ref (h 0)), (1, .int a)] := hl
  refine lv_iload_n hx hb dX1_areFour_0 rfl (lv_at hl 1 rfl) ?_
  refine lv_if_lt (tgt := 18) hx hb dX1_areFour_1 (by decide) (fun c_1 => ?_) (fun c_1 => ?_)
  · refine lv_iconst (v := 0) hx hb dX1_areFour_18 (by decide) ?_
    exact W.zret (ty := .boolean) (v := 0) hx hb hr rfl (fun t ht _ => ⟨0, rfl, (if_pos c_1).trans rfl, ht⟩) t_nil dX1_areFour_19
  · refine lv_iload_n hx hb dX1_areFour_4 rfl (lv_at hl 1 rfl) ?_
    refine lv_aload_n hx hb dX1_areFour_5 rfl (lv_at hl 0 rfl) ?_
    refine va_get (D := (dC, dI)) (ci := 1) (v := .int (nI n)) (C := RX1) (T := TX1) (N := 14) hx hb hts inbX1 hown hK hP 0 rfl rfl 1 (by decide) (hts _ bX1_1) (fun _ h9 => h9) rfl dX1_areFour_6 ?_
    refine lv_iconst (v := 4) hx hb dX1_areFour_9 (by decide) ?_
    refine lv_isub hx hb dX1_areFour_10 ?_
    refine lv_icmp_gt (tgt := 18) hx hb dX1_areFour_11 (by decide) (fun c_2 => ?_) (fun c_2 => ?_)
    · refine lv_iconst (v := 0) hx hb dX1_areFour_18 (by decide) ?_
      exact W.zret (ty := .boolean) (v := 0) hx hb hr rfl (fun t ht _ => ⟨0, rfl, (if_neg c_1).trans ((if_pos c_2).trans rfl), ht⟩) t_nil dX1_areFour_19
    · refine lv_iconst (v := 1) hx hb dX1_areFour_14 (by decide) ?_
      refine lv_goto (tgt := 19) hx hb dX1_areFour_15 (by decide) ?_
      exact W.zret (ty := .boolean) (v := 1) hx hb hr rfl (fun t ht _ => ⟨1, rfl, (if_neg c_1).trans ((if_neg c_2).trans rfl), ht⟩) t_nil dX1_areFour_19
set_option maxHeartbeats 4000000 in
set_option maxRecDepth 100000 in
theorem c_m_four (l : Launch) (dC : Nat → ClassId) (dI : Nat → Nat → Nat) (h : Nat → Nat) (cI : ClassId) (n : Nat) (σ : MS) (a : Int32) (hk : x_in4 2048 a) : Met l yX1_four wsX1_four ({ frames := 0, cells := 0, slots := 0, locals := 0 }) (va_Pc [.ref (h 0), .int a] (m_BP dC dI h cI n σ)) (vp_Si (fun r => m_four n σ a = r)) 0 0 (fun _ => False) := by
  refine Met.ofW (cc := cX1_four) (maxL := 2) (ret := (some .int)) (by decide) rfl ?_
  intro p e s m args below meth c s₁ B hml hv
  obtain ⟨rfl, hP, hK⟩ := hv
  have hx := B.exec
  have hb := B.bytes
  have hr := B.returns
  have hts : ∀ w ∈ bX1, w.before _ s = true := fun w h => atoms_spec (ws := wsX1_four) B.pre w (List.mem_cons_of_mem _ h)
  have hown : s.vm.findClass RX1 = some m.cls := findClass_of_methodNamed B.named
  have hlocks := B.notSynchronized
  have hl := lv_entry ([.ref (h 0), .int a]) (n := 2) (Nat.le_of_ble_eq_true rfl)
  rw [lg_entry_eq]
  generalize (lg_sl ([.ref (h 0), .int a]) ++ List.replicate (2 - (lg_sl ([.ref (h 0), .int a])).length) Slot.unset).toArray = ls at hl ⊢
  have hl : lv_has ls 2 [(0, .ref (h 0)), (1, .int a)] := hl
  refine lv_aload_n hx hb dX1_four_0 rfl (lv_at hl 0 rfl) ?_
  refine va_get (D := (dC, dI)) (ci := 1) (v := .ref (h 1)) (C := RX1) (T := TX1) (N := 14) hx hb hts inbX1 hown hK hP 0 rfl rfl 0 (by decide) (hts _ bX1_0) (fun _ h9 => h9) rfl dX1_four_1 ?_
  refine lv_iload_n hx hb dX1_four_4 rfl (lv_at hl 1 rfl) ?_
  refine va_iald hx hb hK hP 1 0 rfl rfl hk.1 dX1_four_5 ?_
  refine lv_aload_n hx hb dX1_four_6 rfl (lv_at hl 0 rfl) ?_
  refine va_get (D := (dC, dI)) (ci := 1) (v := .ref (h 1)) (C := RX1) (T := TX1) (N := 14) hx hb hts inbX1 hown hK hP 0 rfl rfl 0 (by decide) (hts _ bX1_0) (fun _ h9 => h9) rfl dX1_four_7 ?_
  refine lv_iload_n hx hb dX1_four_10 rfl (lv_at hl 1 rfl) ?_
  refine lv_iconst (v := 1) hx hb dX1_four_11 (by decide) ?_
  refine lv_iadd hx hb dX1_four_12 ?_
  refine va_iald hx hb hK hP 1 0 rfl rfl hk.2.1 dX1_four_13 ?_
  refine lv_bipush (v := 8) hx hb dX1_four_14 (by decide) ?_
  refine lv_ishl hx hb dX1_four_16 ?_
  refine lv_ior hx hb dX1_four_17 ?_
  refine lv_aload_n hx hb dX1_four_18 rfl (lv_at hl 0 rfl) ?_
  refine va_get (D := (dC, dI)) (ci := 1) (v := .ref (h 1)) (C := RX1) (T := TX1) (N := 14) hx hb hts inbX1 hown hK hP 0 rfl rfl 0 (by decide) (hts _ bX1_0) (fun _ h9 => h9) rfl dX1_four_19 ?_
  refine lv_iload_n hx hb dX1_four_22 rfl (lv_at hl 1 rfl) ?_
  refine lv_iconst (v := 2) hx hb dX1_four_23 (by decide) ?_
  refine lv_iadd hx hb dX1_four_24 ?_
  refine va_iald hx hb hK hP 1 0 rfl rfl hk.2.2.1 dX1_four_25 ?_
  refine lv_bipush (v := 16) hx hb dX1_four_26 (by decide) ?_
  refine lv_ishl hx hb dX1_four_28 ?_
  refine lv_ior hx hb dX1_four_29 ?_
  refine lv_aload_n hx hb dX1_four_30 rfl (lv_at hl 0 rfl) ?_
  refine va_get (D := (dC, dI)) (ci := 1) (v := .ref (h 1)) (C := RX1) (T := TX1) (N := 14) hx hb hts inbX1 hown hK hP 0 rfl rfl 0 (by decide) (hts _ bX1_0) (fun _ h9 => h9) rfl dX1_four_31 ?_
  refine lv_iload_n hx hb dX1_four_34 rfl (lv_at hl 1 rfl) ?_
  refine lv_iconst (v := 3) hx hb dX1_four_35 (by decide) ?_
  refine lv_iadd hx hb dX1_four_36 ?_
  refine va_iald hx hb hK hP 1 0 rfl rfl hk.2.2.2 dX1_four_37 ?_
  refine lv_bipush (v := 24) hx hb dX1_four_38 (by decide) ?_
  refine lv_ishl hx hb dX1_four_40 ?_
  refine lv_ior hx hb dX1_four_41 ?_
  exact W.iret (v := ((((m_mem σ (a).toNatClampNeg) ||| ((m_mem σ ((a + 1)).toNatClampNeg) <<< (8 &&& 31))) ||| ((m_mem σ ((a + 2)).toNatClampNeg) <<< (16 &&& 31))) ||| ((m_mem σ ((a + 3)).toNatClampNeg) <<< (24 &&& 31)))) hx hb hr (fun t ht _ => ⟨((((m_mem σ (a).toNatClampNeg) ||| ((m_mem σ ((a + 1)).toNatClampNeg) <<< (8 &&& 31))) ||| ((m_mem σ ((a + 2)).toNatClampNeg) <<< (16 &&& 31))) ||| ((m_mem σ ((a + 3)).toNatClampNeg) <<< (24 &&& 31))), rfl, rfl, ht⟩) t_nil dX1_four_42
set_option maxHeartbeats 4000000 in
set_option maxRecDepth 100000 in
theorem c_m_isKept (l : Launch) (dC : Nat → ClassId) (dI : Nat → Nat → Nat) (h : Nat → Nat) (cI : ClassId) (n : Nat) (σ : MS) (a : Int32) : Met l yX1_isKept wsX1_isKept ({ frames := 2, cells := 0, slots := 0, locals := 40 }) (va_Pc [.ref (h 0), .int a] (m_BP dC dI h cI n σ)) (vp_Si (fun r => m_isKept n σ a = r)) 0 0 (fun _ => False) := by
  refine Met.ofW (cc := cX1_isKept) (maxL := 2) (ret := (some .boolean)) (by decide) rfl ?_
  intro p e s m args below meth c s₁ B hml hv
  obtain ⟨rfl, hP, hK⟩ := hv
  have hx := B.exec
  have hb := B.bytes
  have hr := B.returns
  have hts : ∀ w ∈ bX1, w.before _ s = true := fun w h => atoms_spec (ws := wsX1_isKept) B.pre w (List.mem_cons_of_mem _ h)
  have hown : s.vm.findClass RX1 = some m.cls := findClass_of_methodNamed B.named
  have hlocks := B.notSynchronized
  have hl := lv_entry ([.ref (h 0), .int a]) (n := 2) (Nat.le_of_ble_eq_true rfl)
  rw [lg_entry_eq]
  generalize (lg_sl ([.ref (h 0), .int a]) ++ List.replicate (2 - (lg_sl ([.ref (h 0), .int a])).length) Slot.unset).toArray = ls at hl ⊢
  have hl : lv_has ls 2 [(0, .ref (h 0)), (1, .int a)] := hl
  refine lv_aload_n hx hb dX1_isKept_0 rfl (lv_at hl 0 rfl) ?_
  refine va_get (D := (dC, dI)) (ci := 1) (v := .ref (h 4)) (C := RX1) (T := TX1) (N := 14) hx hb hts inbX1 hown hK hP 0 rfl rfl 5 (by decide) (hts _ bX1_5) (fun _ h9 => h9) rfl dX1_isKept_1 ?_
  refine lv_iload_n hx hb dX1_isKept_4 rfl (lv_at hl 1 rfl) ?_
  refine vp_callSi (W.runS (As := [.int a]) (rest := [.ref (h 4)]) ⟨hx, hb, hml, hown, hts⟩ (c_m_slot l a ) (va_cwS 1 hts gX1_X1_slot rfl rfl rfl (by decide +kernel) ⟨Nat.le_of_ble_eq_true rfl, Nat.le_of_ble_eq_true rfl⟩) (fs_pre) rfl rfl hl.1 rfl (lv_room (Nat.le_of_ble_eq_true rfl)) dX1_isKept_5 ⟨Nat.zero_le _, Nat.zero_le _⟩) (fun r er => ?_)
  subst er
  refine va_iald hx hb hK hP 4 0 rfl rfl (m_slot_in a) dX1_isKept_8 ?_
  refine lv_iload_n hx hb dX1_isKept_9 rfl (lv_at hl 1 rfl) ?_
  refine lv_ldc (v := 65520) hx hb hown (hts _ bX1_17) dX1_isKept_10 ?_
  refine lv_iand hx hb dX1_isKept_12 ?_
  refine lv_icmp_ne (tgt := 20) hx hb dX1_isKept_13 (by decide) (fun c_1 => ?_) (fun c_1 => ?_)
  · refine lv_iconst (v := 0) hx hb dX1_isKept_20 (by decide) ?_
    exact W.zret (ty := .boolean) (v := 0) hx hb hr rfl (fun t ht _ => ⟨0, rfl, (if_neg c_1).trans rfl, ht⟩) t_nil dX1_isKept_21
  · refine lv_iconst (v := 1) hx hb dX1_isKept_16 (by decide) ?_
    refine lv_goto (tgt := 21) hx hb dX1_isKept_17 (by decide) ?_
    exact W.zret (ty := .boolean) (v := 1) hx hb hr rfl (fun t ht _ => ⟨1, rfl, (if_pos c_1).trans rfl, ht⟩) t_nil dX1_isKept_21
set_option maxHeartbeats 4000000 in
set_option maxRecDepth 100000 in
theorem c_m_isInside (l : Launch) (dC : Nat → ClassId) (dI : Nat → Nat → Nat) (h : Nat → Nat) (cI : ClassId) (n : Nat) (σ : MS) (a : Int32) : Met l yX1_isInside wsX1_isInside ({ frames := 1, cells := 0, slots := 0, locals := 20 }) (va_Pc [.ref (h 0), .int a] (m_BP dC dI h cI n σ)) (vp_Si (fun r => m_isInside n σ a = r)) 0 0 (fun _ => False) := by
  refine Met.ofW (cc := cX1_isInside) (maxL := 3) (ret := (some .boolean)) (by decide) rfl ?_
  intro p e s m args below meth c s₁ B hml hv
  obtain ⟨rfl, hP, hK⟩ := hv
  have hx := B.exec
  have hb := B.bytes
  have hr := B.returns
  have hts : ∀ w ∈ bX1, w.before _ s = true := fun w h => atoms_spec (ws := wsX1_isInside) B.pre w (List.mem_cons_of_mem _ h)
  have hown : s.vm.findClass RX1 = some m.cls := findClass_of_methodNamed B.named
  have hlocks := B.notSynchronized
  have hl := lv_entry ([.ref (h 0), .int a]) (n := 3) (Nat.le_of_ble_eq_true rfl)
  rw [lg_entry_eq]
  generalize (lg_sl ([.ref (h 0), .int a]) ++ List.replicate (3 - (lg_sl ([.ref (h 0), .int a])).length) Slot.unset).toArray = ls at hl ⊢
  have hl : lv_has ls 3 [(0, .ref (h 0)), (1, .int a)] := hl
  refine lv_iload_n hx hb dX1_isInside_0 rfl (lv_at hl 1 rfl) ?_
  refine vp_callSi (W.runS (As := [.int a]) (rest := []) ⟨hx, hb, hml, hown, hts⟩ (c_m_regionOf l a ) (va_cwS 1 hts gX1_X1_regionOf rfl rfl rfl (by decide +kernel) ⟨Nat.le_of_ble_eq_true rfl, Nat.le_of_ble_eq_true rfl⟩) (fs_pre) rfl rfl hl.1 rfl (lv_room (Nat.le_of_ble_eq_true rfl)) dX1_isInside_1 ⟨Nat.zero_le _, Nat.zero_le _⟩) (fun r er => ?_)
  subst er
  refine lv_istore_n (lv' := [(2, .int (m_regionOf a)), (0, .ref (h 0)), (1, .int a)]) hx hb dX1_isInside_4 rfl hl (by decide) rfl (fun ls hl => ?_)
  refine lv_iload_n hx hb dX1_isInside_5 rfl (lv_at hl 0 rfl) ?_
  refine lv_iconst (v := 1) hx hb dX1_isInside_6 (by decide) ?_
  refine lv_icmp_ne (tgt := 29) hx hb dX1_isInside_7 (by decide) (fun c_1 => ?_) (fun c_1 => ?_)
  · refine lv_iload_n hx hb dX1_isInside_29 rfl (lv_at hl 0 rfl) ?_
    refine lv_iconst (v := 3) hx hb dX1_isInside_30 (by decide) ?_
    refine lv_icmp_eq (tgt := 51) hx hb dX1_isInside_31 (by decide) (fun c_2 => ?_) (fun c_2 => ?_)
    · refine lv_iconst (v := 0) hx hb dX1_isInside_51 (by decide) ?_
      exact W.zret (ty := .boolean) (v := 0) hx hb hr rfl (fun t ht _ => ⟨0, rfl, (if_neg c_1).trans ((if_pos c_2).trans rfl), ht⟩) t_nil dX1_isInside_52
    · refine lv_iload_n hx hb dX1_isInside_34 rfl (lv_at hl 2 rfl) ?_
      refine vp_callSi (W.runS (As := [.int a]) (rest := []) ⟨hx, hb, hml, hown, hts⟩ (c_m_pageOf l a ) (va_cwS 1 hts gX1_X1_pageOf rfl rfl rfl (by decide +kernel) ⟨Nat.le_of_ble_eq_true rfl, Nat.le_of_ble_eq_true rfl⟩) (fs_pre) rfl rfl hl.1 rfl (lv_room (Nat.le_of_ble_eq_true rfl)) dX1_isInside_35 ⟨Nat.zero_le _, Nat.zero_le _⟩) (fun r er => ?_)
      subst er
      refine lv_aload_n hx hb dX1_isInside_38 rfl (lv_at hl 1 rfl) ?_
      refine va_get (D := (dC, dI)) (ci := 1) (v := .ref (h 3)) (C := RX1) (T := TX1) (N := 14) hx hb hts inbX1 hown hK hP 0 rfl rfl 3 (by decide) (hts _ bX1_3) (fun _ h9 => h9) rfl dX1_isInside_39 ?_
      refine lv_iload_n hx hb dX1_isInside_42 rfl (lv_at hl 0 rfl) ?_
      refine va_iald hx hb hK hP 3 0 rfl rfl (m_r3 (m_region_in a) c_2) dX1_isInside_43 ?_
      refine lv_icmp_ge (tgt := 51) hx hb dX1_isInside_44 (by decide) (fun c_3 => ?_) (fun c_3 => ?_)
      · refine lv_iconst (v := 0) hx hb dX1_isInside_51 (by decide) ?_
        exact W.zret (ty := .boolean) (v := 0) hx hb hr rfl (fun t ht _ => ⟨0, rfl, (if_neg c_1).trans ((if_neg c_2).trans ((if_pos c_3).trans rfl)), ht⟩) t_nil dX1_isInside_52
      · refine lv_iconst (v := 1) hx hb dX1_isInside_47 (by decide) ?_
        refine lv_goto (tgt := 52) hx hb dX1_isInside_48 (by decide) ?_
        exact W.zret (ty := .boolean) (v := 1) hx hb hr rfl (fun t ht _ => ⟨1, rfl, (if_neg c_1).trans ((if_neg c_2).trans ((if_neg c_3).trans rfl)), ht⟩) t_nil dX1_isInside_52
  · refine lv_iload_n hx hb dX1_isInside_10 rfl (lv_at hl 2 rfl) ?_
    refine vp_callSi (W.runS (As := [.int a]) (rest := []) ⟨hx, hb, hml, hown, hts⟩ (c_m_pageOf l a ) (va_cwS 1 hts gX1_X1_pageOf rfl rfl rfl (by decide +kernel) ⟨Nat.le_of_ble_eq_true rfl, Nat.le_of_ble_eq_true rfl⟩) (fs_pre) rfl rfl hl.1 rfl (lv_room (Nat.le_of_ble_eq_true rfl)) dX1_isInside_11 ⟨Nat.zero_le _, Nat.zero_le _⟩) (fun r er => ?_)
    subst er
    refine lv_aload_n hx hb dX1_isInside_14 rfl (lv_at hl 1 rfl) ?_
    refine va_get (D := (dC, dI)) (ci := 1) (v := .ref (h 3)) (C := RX1) (T := TX1) (N := 14) hx hb hts inbX1 hown hK hP 0 rfl rfl 3 (by decide) (hts _ bX1_3) (fun _ h9 => h9) rfl dX1_isInside_15 ?_
    refine lv_iconst (v := 1) hx hb dX1_isInside_18 (by decide) ?_
    refine va_iald hx hb hK hP 3 0 rfl rfl (vp_in_nI (n := 1) (by decide) (by decide)) dX1_isInside_19 ?_
    refine lv_icmp_lt (tgt := 27) hx hb dX1_isInside_20 (by decide) (fun c_4 => ?_) (fun c_4 => ?_)
    · refine lv_iconst (v := 0) hx hb dX1_isInside_27 (by decide) ?_
      exact W.zret (ty := .boolean) (v := 0) hx hb hr rfl (fun t ht _ => ⟨0, rfl, (if_pos c_1).trans ((if_pos c_4).trans rfl), ht⟩) t_nil dX1_isInside_28
    · refine lv_iconst (v := 1) hx hb dX1_isInside_23 (by decide) ?_
      refine lv_goto (tgt := 28) hx hb dX1_isInside_24 (by decide) ?_
      exact W.zret (ty := .boolean) (v := 1) hx hb hr rfl (fun t ht _ => ⟨1, rfl, (if_pos c_1).trans ((if_neg c_4).trans rfl), ht⟩) t_nil dX1_isInside_28
set_option maxHeartbeats 4000000 in
set_option maxRecDepth 100000 in
theorem c_m_isRight (l : Launch) (dC : Nat → ClassId) (dI : Nat → Nat → Nat) (h : Nat → Nat) (cI : ClassId) (n : Nat) (σ : MS) (md : Int32) (b : Int32) : Met l yX1_isRight wsX1_isRight ({ frames := 0, cells := 0, slots := 0, locals := 0 }) (va_Pc [.ref (h 0), .int md, .int b] (m_BP dC dI h cI n σ)) (vp_Si (fun r => m_isRight n σ md b = r)) 0 0 (fun _ => False) := by
  refine Met.ofW (cc := cX1_isRight) (maxL := 4) (ret := (some .boolean)) (by decide) rfl ?_
  intro p e s m args below meth c s₁ B hml hv
  obtain ⟨rfl, hP, hK⟩ := hv
  have hx := B.exec
  have hb := B.bytes
  have hr := B.returns
  have hts : ∀ w ∈ bX1, w.before _ s = true := fun w h => atoms_spec (ws := wsX1_isRight) B.pre w (List.mem_cons_of_mem _ h)
  have hown : s.vm.findClass RX1 = some m.cls := findClass_of_methodNamed B.named
  have hlocks := B.notSynchronized
  have hl := lv_entry ([.ref (h 0), .int md, .int b]) (n := 4) (Nat.le_of_ble_eq_true rfl)
  rw [lg_entry_eq]
  generalize (lg_sl ([.ref (h 0), .int md, .int b]) ++ List.replicate (4 - (lg_sl ([.ref (h 0), .int md, .int b])).length) Slot.unset).toArray = ls at hl ⊢
  have hl : lv_has ls 4 [(0, .ref (h 0)), (1, .int md), (2, .int b)] := hl
  refine lv_aload_n hx hb dX1_isRight_0 rfl (lv_at hl 0 rfl) ?_
  refine va_get (D := (dC, dI)) (ci := 1) (v := .int (m_lk σ)) (C := RX1) (T := TX1) (N := 14) hx hb hts inbX1 hown hK hP 0 rfl rfl 12 (by decide) (hts _ bX1_12) (fun _ h9 => h9) rfl dX1_isRight_1 ?_
  refine lv_bipush (v := 27) hx hb dX1_isRight_4 (by decide) ?_
  refine lv_ishr hx hb dX1_isRight_6 ?_
  refine lv_bipush (v := 15) hx hb dX1_isRight_7 (by decide) ?_
  refine lv_iand hx hb dX1_isRight_9 ?_
  refine lv_istore_n (lv' := [(3, .int (((m_lk σ) >>> (27 &&& 31)) &&& 15)), (0, .ref (h 0)), (1, .int md), (2, .int b)]) hx hb dX1_isRight_10 rfl hl (by decide) rfl (fun ls hl => ?_)
  refine lv_iload_n hx hb dX1_isRight_11 rfl (lv_at hl 2 rfl) ?_
  refine lv_iload_n hx hb dX1_isRight_12 rfl (lv_at hl 3 rfl) ?_
  refine lv_if_eq (tgt := 25) hx hb dX1_isRight_13 (by decide) (fun c_1 => ?_) (fun c_1 => ?_)
  · refine lv_aload_n hx hb dX1_isRight_25 rfl (lv_at hl 1 rfl) ?_
    refine va_get (D := (dC, dI)) (ci := 1) (v := .ref (h 8)) (C := RX1) (T := TX1) (N := 14) hx hb hts inbX1 hown hK hP 0 rfl rfl 9 (by decide) (hts _ bX1_9) (fun _ h9 => h9) rfl dX1_isRight_26 ?_
    refine lv_iload_n hx hb dX1_isRight_29 rfl (lv_at hl 0 rfl) ?_
    refine va_iald hx hb hK hP 8 0 rfl rfl (m_code_in _) dX1_isRight_30 ?_
    refine lv_icmp_ge (tgt := 38) hx hb dX1_isRight_31 (by decide) (fun c_2 => ?_) (fun c_2 => ?_)
    · refine lv_iconst (v := 0) hx hb dX1_isRight_38 (by decide) ?_
      exact W.zret (ty := .boolean) (v := 0) hx hb hr rfl (fun t ht _ => ⟨0, rfl, (if_pos c_1).trans ((if_pos c_2).trans rfl), ht⟩) t_nil dX1_isRight_39
    · refine lv_iconst (v := 1) hx hb dX1_isRight_34 (by decide) ?_
      refine lv_goto (tgt := 39) hx hb dX1_isRight_35 (by decide) ?_
      exact W.zret (ty := .boolean) (v := 1) hx hb hr rfl (fun t ht _ => ⟨1, rfl, (if_pos c_1).trans ((if_neg c_2).trans rfl), ht⟩) t_nil dX1_isRight_39
  · refine lv_aload_n hx hb dX1_isRight_16 rfl (lv_at hl 1 rfl) ?_
    refine va_get (D := (dC, dI)) (ci := 1) (v := .ref (h 7)) (C := RX1) (T := TX1) (N := 14) hx hb hts inbX1 hown hK hP 0 rfl rfl 8 (by decide) (hts _ bX1_8) (fun _ h9 => h9) rfl dX1_isRight_17 ?_
    refine lv_iload_n hx hb dX1_isRight_20 rfl (lv_at hl 0 rfl) ?_
    refine va_iald hx hb hK hP 7 0 rfl rfl (m_code_in _) dX1_isRight_21 ?_
    refine lv_goto (tgt := 31) hx hb dX1_isRight_22 (by decide) ?_
    refine lv_icmp_ge (tgt := 38) hx hb dX1_isRight_31 (by decide) (fun c_3 => ?_) (fun c_3 => ?_)
    · refine lv_iconst (v := 0) hx hb dX1_isRight_38 (by decide) ?_
      exact W.zret (ty := .boolean) (v := 0) hx hb hr rfl (fun t ht _ => ⟨0, rfl, (if_neg c_1).trans ((if_pos c_3).trans rfl), ht⟩) t_nil dX1_isRight_39
    · refine lv_iconst (v := 1) hx hb dX1_isRight_34 (by decide) ?_
      refine lv_goto (tgt := 39) hx hb dX1_isRight_35 (by decide) ?_
      exact W.zret (ty := .boolean) (v := 1) hx hb hr rfl (fun t ht _ => ⟨1, rfl, (if_neg c_1).trans ((if_neg c_3).trans rfl), ht⟩) t_nil dX1_isRight_39
set_option maxHeartbeats 4000000 in
set_option maxRecDepth 100000 in
theorem c_m_entryOf (l : Launch) (dC : Nat → ClassId) (dI : Nat → Nat → Nat) (h : Nat → Nat) (cI : ClassId) (n : Nat) (σ : MS) (a : Int32) (hn : n ≤ 2048) : Met l yX1_entryOf wsX1_entryOf ({ frames := 1, cells := 0, slots := 0, locals := 21 }) (va_Pc [.ref (h 0), .int a] (m_BP dC dI h cI n σ)) (vp_Sl (fun r => m_entryOf n σ a = r)) 0 0 (fun _ => False) := by
  refine Met.ofW (cc := cX1_entryOf) (maxL := 2) (ret := (some .long)) (by decide) rfl ?_
  intro p e s m args below meth c s₁ B hml hv
  obtain ⟨rfl, hP, hK⟩ := hv
  have hx := B.exec
  have hb := B.bytes
  have hr := B.returns
  have hts : ∀ w ∈ bX1, w.before _ s = true := fun w h => atoms_spec (ws := wsX1_entryOf) B.pre w (List.mem_cons_of_mem _ h)
  have hown : s.vm.findClass RX1 = some m.cls := findClass_of_methodNamed B.named
  have hlocks := B.notSynchronized
  have hl := lv_entry ([.ref (h 0), .int a]) (n := 2) (Nat.le_of_ble_eq_true rfl)
  rw [lg_entry_eq]
  generalize (lg_sl ([.ref (h 0), .int a]) ++ List.replicate (2 - (lg_sl ([.ref (h 0), .int a])).length) Slot.unset).toArray = ls at hl ⊢
  have hl : lv_has ls 2 [(0, .ref (h 0)), (1, .int a)] := hl
  refine lv_aload_n hx hb dX1_entryOf_0 rfl (lv_at hl 0 rfl) ?_
  refine lv_iload_n hx hb dX1_entryOf_1 rfl (lv_at hl 1 rfl) ?_
  refine vp_callSi (W.runV (C := RX1) (As := [.int a]) (rest := []) ⟨hx, hb, hml, hown, hts⟩ (c_m_areFour l dC dI h cI n σ a ) (cwV 1 hts gX1_X1_areFour rfl rfl rfl (by decide +kernel) ⟨Nat.le_of_ble_eq_true rfl, Nat.le_of_ble_eq_true rfl⟩) (m_preP hK hP) rfl rfl hl.1 rfl (lv_room (Nat.le_of_ble_eq_true rfl)) dX1_entryOf_2 ⟨Nat.zero_le _, Nat.zero_le _⟩) (fun r er => ?_)
  subst er
  refine lv_if_eq (tgt := 21) hx hb dX1_entryOf_5 (by decide) (fun c_1 => ?_) (fun c_1 => ?_)
  · refine lv_ldc2 (v := (-1)) hx hb hown (hts _ bX1_15) dX1_entryOf_21 ?_
    exact W.lret (v := (-1)) hx hb hr (fun t ht _ => ⟨(-1), rfl, (if_pos c_1).trans rfl, ht⟩) t_nil dX1_entryOf_24
  · refine lv_aload_n hx hb dX1_entryOf_8 rfl (lv_at hl 0 rfl) ?_
    refine lv_iload_n hx hb dX1_entryOf_9 rfl (lv_at hl 1 rfl) ?_
    refine vp_callSi (W.runV (C := RX1) (As := [.int a]) (rest := []) ⟨hx, hb, hml, hown, hts⟩ (c_m_four l dC dI h cI n σ a (m_af hn c_1)) (cwV 1 hts gX1_X1_four rfl rfl rfl (by decide +kernel) ⟨Nat.le_of_ble_eq_true rfl, Nat.le_of_ble_eq_true rfl⟩) (m_preP hK hP) rfl rfl hl.1 rfl (lv_room (Nat.le_of_ble_eq_true rfl)) dX1_entryOf_10 ⟨Nat.zero_le _, Nat.zero_le _⟩) (fun r er => ?_)
    subst er
    refine lv_i2l (v := (((m_four n σ a)).toInt64)) hx hb dX1_entryOf_13 rfl ?_
    refine lv_ldc2 (v := 4294967295) hx hb hown (hts _ bX1_14) dX1_entryOf_14 ?_
    refine lv_land hx hb dX1_entryOf_17 ?_
    refine lv_goto (tgt := 24) hx hb dX1_entryOf_18 (by decide) ?_
    exact W.lret (v := ((((m_four n σ a)).toInt64) &&& 4294967295)) hx hb hr (fun t ht _ => ⟨((((m_four n σ a)).toInt64) &&& 4294967295), rfl, (if_neg c_1).trans rfl, ht⟩) t_nil dX1_entryOf_24
set_option maxHeartbeats 4000000 in
set_option maxRecDepth 100000 in
theorem c_m_kept (l : Launch) (dC : Nat → ClassId) (dI : Nat → Nat → Nat) (h : Nat → Nat) (cI : ClassId) (n : Nat) (σ : MS) (i : Int32) (k : Int32) : Met l yX1_kept wsX1_kept ({ frames := 0, cells := 0, slots := 0, locals := 0 }) (va_Pc [.ref (h 0), .int i, .int k] (m_BP dC dI h cI n σ)) (vp_Sl (fun r => m_kept n σ i k = r)) 0 0 (fun _ => False) := by
  refine Met.ofW (cc := cX1_kept) (maxL := 4) (ret := (some .long)) (by decide) rfl ?_
  intro p e s m args below meth c s₁ B hml hv
  obtain ⟨rfl, hP, hK⟩ := hv
  have hx := B.exec
  have hb := B.bytes
  have hr := B.returns
  have hts : ∀ w ∈ bX1, w.before _ s = true := fun w h => atoms_spec (ws := wsX1_kept) B.pre w (List.mem_cons_of_mem _ h)
  have hown : s.vm.findClass RX1 = some m.cls := findClass_of_methodNamed B.named
  have hlocks := B.notSynchronized
  have hl := lv_entry ([.ref (h 0), .int i, .int k]) (n := 4) (Nat.le_of_ble_eq_true rfl)
  rw [lg_entry_eq]
  generalize (lg_sl ([.ref (h 0), .int i, .int k]) ++ List.replicate (4 - (lg_sl ([.ref (h 0), .int i, .int k])).length) Slot.unset).toArray = ls at hl ⊢
  have hl : lv_has ls 4 [(0, .ref (h 0)), (1, .int i), (2, .int k)] := hl
  refine lv_iload_n hx hb dX1_kept_0 rfl (lv_at hl 1 rfl) ?_
  refine lv_if_lt (tgt := 19) hx hb dX1_kept_1 (by decide) (fun c_1 => ?_) (fun c_1 => ?_)
  · refine lv_ldc2 (v := (-1)) hx hb hown (hts _ bX1_15) dX1_kept_19 ?_
    exact W.lret (v := (-1)) hx hb hr (fun t ht _ => ⟨(-1), rfl, (if_pos c_1).trans rfl, ht⟩) t_nil dX1_kept_22
  · refine lv_iload_n hx hb dX1_kept_4 rfl (lv_at hl 1 rfl) ?_
    refine lv_bipush (v := 16) hx hb dX1_kept_5 (by decide) ?_
    refine lv_icmp_ge (tgt := 19) hx hb dX1_kept_7 (by decide) (fun c_2 => ?_) (fun c_2 => ?_)
    · refine lv_ldc2 (v := (-1)) hx hb hown (hts _ bX1_15) dX1_kept_19 ?_
      exact W.lret (v := (-1)) hx hb hr (fun t ht _ => ⟨(-1), rfl, (if_neg c_1).trans ((if_pos c_2).trans rfl), ht⟩) t_nil dX1_kept_22
    · refine lv_iload_n hx hb dX1_kept_10 rfl (lv_at hl 2 rfl) ?_
      refine lv_if_lt (tgt := 19) hx hb dX1_kept_11 (by decide) (fun c_3 => ?_) (fun c_3 => ?_)
      · refine lv_ldc2 (v := (-1)) hx hb hown (hts _ bX1_15) dX1_kept_19 ?_
        exact W.lret (v := (-1)) hx hb hr (fun t ht _ => ⟨(-1), rfl, (if_neg c_1).trans ((if_neg c_2).trans ((if_pos c_3).trans rfl)), ht⟩) t_nil dX1_kept_22
      · refine lv_iload_n hx hb dX1_kept_14 rfl (lv_at hl 2 rfl) ?_
        refine lv_iconst (v := 2) hx hb dX1_kept_15 (by decide) ?_
        refine lv_icmp_le (tgt := 23) hx hb dX1_kept_16 (by decide) (fun c_4 => ?_) (fun c_4 => ?_)
        · refine lv_aload_n hx hb dX1_kept_23 rfl (lv_at hl 0 rfl) ?_
          refine va_get (D := (dC, dI)) (ci := 1) (v := .ref (h 4)) (C := RX1) (T := TX1) (N := 14) hx hb hts inbX1 hown hK hP 0 rfl rfl 5 (by decide) (hts _ bX1_5) (fun _ h9 => h9) rfl dX1_kept_24 ?_
          refine lv_iload_n hx hb dX1_kept_27 rfl (lv_at hl 1 rfl) ?_
          refine va_iald hx hb hK hP 4 0 rfl rfl (x_i16 c_1 c_2) dX1_kept_28 ?_
          refine lv_if_lt (tgt := 36) hx hb dX1_kept_29 (by decide) (fun c_5 => ?_) (fun c_5 => ?_)
          · refine lv_iconst (v := 0) hx hb dX1_kept_36 (by decide) ?_
            refine lv_istore_n (lv' := [(3, .int 0), (0, .ref (h 0)), (1, .int i), (2, .int k)]) hx hb dX1_kept_37 rfl hl (by decide) rfl (fun ls hl => ?_)
            refine lv_iload_n hx hb dX1_kept_38 rfl (lv_at hl 3 rfl) ?_
            refine lv_if_ne (tgt := 52) hx hb dX1_kept_39 (by decide) (fun c_6 => ?_) (fun c_6 => ?_)
            · refine lv_iload_n hx hb dX1_kept_52 rfl (lv_at hl 0 rfl) ?_
              refine lv_if_ne (tgt := 60) hx hb dX1_kept_53 (by decide) (fun c_7 => absurd (by decide) c_7) (fun _ => ?_)
              refine lv_ldc2 (v := (-1)) hx hb hown (hts _ bX1_15) dX1_kept_56 ?_
              exact W.lret (v := (-1)) hx hb hr (fun t ht _ => ⟨(-1), rfl, (if_neg c_1).trans ((if_neg c_2).trans ((if_neg c_3).trans ((if_pos c_4).trans ((if_pos c_5).trans ((if_neg c_6).trans rfl))))), ht⟩) t_nil dX1_kept_59
            · refine lv_iload_n hx hb dX1_kept_42 rfl (lv_at hl 0 rfl) ?_
              refine lv_if_eq (tgt := 50) hx hb dX1_kept_43 (by decide) (fun _ => ?_) (fun c_8 => absurd (by decide) c_8)
              refine lv_lconst (v := 0) hx hb dX1_kept_50 (by decide) ?_
              exact W.lret (v := 0) hx hb hr (fun t ht _ => ⟨0, rfl, (if_neg c_1).trans ((if_neg c_2).trans ((if_neg c_3).trans ((if_pos c_4).trans ((if_pos c_5).trans ((if_pos c_6).trans rfl))))), ht⟩) t_nil dX1_kept_51
          · refine lv_iconst (v := 1) hx hb dX1_kept_32 (by decide) ?_
            refine lv_goto (tgt := 37) hx hb dX1_kept_33 (by decide) ?_
            refine lv_istore_n (lv' := [(3, .int 1), (0, .ref (h 0)), (1, .int i), (2, .int k)]) hx hb dX1_kept_37 rfl hl (by decide) rfl (fun ls hl => ?_)
            refine lv_iload_n hx hb dX1_kept_38 rfl (lv_at hl 3 rfl) ?_
            refine lv_if_ne (tgt := 52) hx hb dX1_kept_39 (by decide) (fun c_9 => ?_) (fun c_9 => ?_)
            · refine lv_iload_n hx hb dX1_kept_52 rfl (lv_at hl 0 rfl) ?_
              refine lv_if_ne (tgt := 60) hx hb dX1_kept_53 (by decide) (fun _ => ?_) (fun c_10 => absurd c_10 (by decide))
              refine lv_iload_n hx hb dX1_kept_60 rfl (lv_at hl 3 rfl) ?_
              refine lv_iconst (v := 1) hx hb dX1_kept_61 (by decide) ?_
              refine lv_icmp_ne (tgt := 75) hx hb dX1_kept_62 (by decide) (fun c_11 => ?_) (fun c_11 => ?_)
              · refine lv_aload_n hx hb dX1_kept_75 rfl (lv_at hl 1 rfl) ?_
                refine va_get (D := (dC, dI)) (ci := 1) (v := .ref (h 5)) (C := RX1) (T := TX1) (N := 14) hx hb hts inbX1 hown hK hP 0 rfl rfl 6 (by decide) (hts _ bX1_6) (fun _ h9 => h9) rfl dX1_kept_76 ?_
                refine lv_iload_n hx hb dX1_kept_79 rfl (lv_at hl 2 rfl) ?_
                refine va_iald hx hb hK hP 5 0 rfl rfl (x_i16 c_1 c_2) dX1_kept_80 ?_
                refine lv_i2l (v := (((m_en σ (i).toNatClampNeg)).toInt64)) hx hb dX1_kept_81 rfl ?_
                refine lv_ldc2 (v := 4294967295) hx hb hown (hts _ bX1_14) dX1_kept_82 ?_
                refine lv_land hx hb dX1_kept_85 ?_
                exact W.lret (v := ((((m_en σ (i).toNatClampNeg)).toInt64) &&& 4294967295)) hx hb hr (fun t ht _ => ⟨((((m_en σ (i).toNatClampNeg)).toInt64) &&& 4294967295), rfl, (if_neg c_1).trans ((if_neg c_2).trans ((if_neg c_3).trans ((if_pos c_4).trans ((if_neg c_5).trans ((if_neg c_9).trans ((if_neg c_11).trans rfl)))))), ht⟩) t_nil dX1_kept_86
              · refine lv_aload_n hx hb dX1_kept_65 rfl (lv_at hl 1 rfl) ?_
                refine va_get (D := (dC, dI)) (ci := 1) (v := .ref (h 4)) (C := RX1) (T := TX1) (N := 14) hx hb hts inbX1 hown hK hP 0 rfl rfl 5 (by decide) (hts _ bX1_5) (fun _ h9 => h9) rfl dX1_kept_66 ?_
                refine lv_iload_n hx hb dX1_kept_69 rfl (lv_at hl 2 rfl) ?_
                refine va_iald hx hb hK hP 4 0 rfl rfl (x_i16 c_1 c_2) dX1_kept_70 ?_
                refine lv_i2l (v := (((m_pg σ (i).toNatClampNeg)).toInt64)) hx hb dX1_kept_71 rfl ?_
                refine lv_goto (tgt := 86) hx hb dX1_kept_72 (by decide) ?_
                exact W.lret (v := (((m_pg σ (i).toNatClampNeg)).toInt64)) hx hb hr (fun t ht _ => ⟨(((m_pg σ (i).toNatClampNeg)).toInt64), rfl, (if_neg c_1).trans ((if_neg c_2).trans ((if_neg c_3).trans ((if_pos c_4).trans ((if_neg c_5).trans ((if_neg c_9).trans ((if_pos c_11).trans rfl)))))), ht⟩) t_nil dX1_kept_86
            · refine lv_iload_n hx hb dX1_kept_42 rfl (lv_at hl 0 rfl) ?_
              refine lv_if_eq (tgt := 50) hx hb dX1_kept_43 (by decide) (fun c_12 => absurd c_12 (by decide)) (fun _ => ?_)
              refine lv_lconst (v := 1) hx hb dX1_kept_46 (by decide) ?_
              refine lv_goto (tgt := 51) hx hb dX1_kept_47 (by decide) ?_
              exact W.lret (v := 1) hx hb hr (fun t ht _ => ⟨1, rfl, (if_neg c_1).trans ((if_neg c_2).trans ((if_neg c_3).trans ((if_pos c_4).trans ((if_neg c_5).trans ((if_pos c_9).trans rfl))))), ht⟩) t_nil dX1_kept_51
        · refine lv_ldc2 (v := (-1)) hx hb hown (hts _ bX1_15) dX1_kept_19 ?_
          exact W.lret (v := (-1)) hx hb hr (fun t ht _ => ⟨(-1), rfl, (if_neg c_1).trans ((if_neg c_2).trans ((if_neg c_3).trans ((if_neg c_4).trans rfl))), ht⟩) t_nil dX1_kept_22
set_option maxHeartbeats 4000000 in
set_option maxRecDepth 100000 in
theorem c_m_failed (l : Launch) (dC : Nat → ClassId) (dI : Nat → Nat → Nat) (h : Nat → Nat) (cI : ClassId) (n : Nat) (σ : MS)  : Met l yX1_failed wsX1_failed ({ frames := 0, cells := 0, slots := 0, locals := 0 }) (va_Pc [.ref (h 0)] (m_BP dC dI h cI n σ)) (vp_Si (fun r => m_failed n σ = r)) 0 0 (fun _ => False) := by
  refine Met.ofW (cc := cX1_failed) (maxL := 1) (ret := (some .int)) (by decide) rfl ?_
  intro p e s m args below meth c s₁ B hml hv
  obtain ⟨rfl, hP, hK⟩ := hv
  have hx := B.exec
  have hb := B.bytes
  have hr := B.returns
  have hts : ∀ w ∈ bX1, w.before _ s = true := fun w h => atoms_spec (ws := wsX1_failed) B.pre w (List.mem_cons_of_mem _ h)
  have hown : s.vm.findClass RX1 = some m.cls := findClass_of_methodNamed B.named
  have hlocks := B.notSynchronized
  have hl := lv_entry ([.ref (h 0)]) (n := 1) (Nat.le_of_ble_eq_true rfl)
  rw [lg_entry_eq]
  generalize (lg_sl ([.ref (h 0)]) ++ List.replicate (1 - (lg_sl ([.ref (h 0)])).length) Slot.unset).toArray = ls at hl ⊢
  have hl : lv_has ls 1 [(0, .ref (h 0))] := hl
  refine lv_aload_n hx hb dX1_failed_0 rfl (lv_at hl 0 rfl) ?_
  refine va_get (D := (dC, dI)) (ci := 1) (v := .int (m_fa σ)) (C := RX1) (T := TX1) (N := 14) hx hb hts inbX1 hown hK hP 0 rfl rfl 11 (by decide) (hts _ bX1_11) (fun _ h9 => h9) rfl dX1_failed_1 ?_
  exact W.iret (v := (m_fa σ)) hx hb hr (fun t ht _ => ⟨(m_fa σ), rfl, rfl, ht⟩) t_nil dX1_failed_4
