set_option maxHeartbeats 4000000 in
set_option maxRecDepth 100000 in
theorem c_x_regionOf (l : Launch) (a : Int32) : Met l yX0_regionOf wsX0_regionOf ({ frames := 0, cells := 0, slots := 0, locals := 0 }) (va_Pc [.int a] (fun _ => True)) (vp_Si (fun r => x_regionOf a = r)) 0 0 (fun _ => False) := by
  refine Met.ofW (cc := cX0_regionOf) (maxL := 1) (ret := (some .int)) (by decide) rfl ?_
  intro p e s m args below meth c s₁ B hml hv
  obtain ⟨rfl, -⟩ := hv
  have hx := B.exec
  have hb := B.bytes
  have hr := B.returns
  have hts : ∀ w ∈ bX0, w.before _ s = true := fun w h => atoms_spec (ws := wsX0_regionOf) B.pre w (List.mem_cons_of_mem _ h)
  have hown : s.vm.findClass RX0 = some m.cls := findClass_of_methodNamed B.named
  have hlocks := B.notSynchronized
  have hl := lv_entry ([.int a]) (n := 1) (Nat.le_of_ble_eq_true rfl)
  rw [lg_entry_eq]
  generalize (lg_sl ([.int a]) ++ List.replicate (1 - (lg_sl ([.int a])).length) Slot.unset).toArray = ls at hl ⊢
  have hl : lv_has ls 1 [(0, .int a)] := hl
  refine lv_iload_n hx hb dX0_regionOf_0 rfl (lv_at hl 0 rfl) ?_
  refine lv_bipush (v := 14) hx hb dX0_regionOf_1 (by decide) ?_
  refine lv_iushr (v := (jushr a 14)) hx hb dX0_regionOf_3 rfl ?_
  refine lv_iconst (v := 3) hx hb dX0_regionOf_4 (by decide) ?_
  refine lv_iand hx hb dX0_regionOf_5 ?_
  exact W.iret (v := ((jushr a 14) &&& 3)) hx hb hr (fun t ht _ => ⟨((jushr a 14) &&& 3), rfl, rfl, ht⟩) t_nil dX0_regionOf_6
set_option maxHeartbeats 4000000 in
set_option maxRecDepth 100000 in
theorem c_x_pageOf (l : Launch) (a : Int32) : Met l yX0_pageOf wsX0_pageOf ({ frames := 0, cells := 0, slots := 0, locals := 0 }) (va_Pc [.int a] (fun _ => True)) (vp_Si (fun r => x_pageOf a = r)) 0 0 (fun _ => False) := by
  refine Met.ofW (cc := cX0_pageOf) (maxL := 1) (ret := (some .int)) (by decide) rfl ?_
  intro p e s m args below meth c s₁ B hml hv
  obtain ⟨rfl, -⟩ := hv
  have hx := B.exec
  have hb := B.bytes
  have hr := B.returns
  have hts : ∀ w ∈ bX0, w.before _ s = true := fun w h => atoms_spec (ws := wsX0_pageOf) B.pre w (List.mem_cons_of_mem _ h)
  have hown : s.vm.findClass RX0 = some m.cls := findClass_of_methodNamed B.named
  have hlocks := B.notSynchronized
  have hl := lv_entry ([.int a]) (n := 1) (Nat.le_of_ble_eq_true rfl)
  rw [lg_entry_eq]
  generalize (lg_sl ([.int a]) ++ List.replicate (1 - (lg_sl ([.int a])).length) Slot.unset).toArray = ls at hl ⊢
  have hl : lv_has ls 1 [(0, .int a)] := hl
  refine lv_iload_n hx hb dX0_pageOf_0 rfl (lv_at hl 0 rfl) ?_
  refine lv_iconst (v := 4) hx hb dX0_pageOf_1 (by decide) ?_
  refine lv_iushr (v := (jushr a 4)) hx hb dX0_pageOf_2 rfl ?_
  refine lv_sipush (v := 1023) hx hb dX0_pageOf_3 (by decide) ?_
  refine lv_iand hx hb dX0_pageOf_6 ?_
  exact W.iret (v := ((jushr a 4) &&& 1023)) hx hb hr (fun t ht _ => ⟨((jushr a 4) &&& 1023), rfl, rfl, ht⟩) t_nil dX0_pageOf_7
set_option maxHeartbeats 4000000 in
set_option maxRecDepth 100000 in
theorem c_x_placeInPage (l : Launch) (a : Int32) : Met l yX0_placeInPage wsX0_placeInPage ({ frames := 0, cells := 0, slots := 0, locals := 0 }) (va_Pc [.int a] (fun _ => True)) (vp_Si (fun r => x_placeInPage a = r)) 0 0 (fun _ => False) := by
  refine Met.ofW (cc := cX0_placeInPage) (maxL := 1) (ret := (some .int)) (by decide) rfl ?_
  intro p e s m args below meth c s₁ B hml hv
  obtain ⟨rfl, -⟩ := hv
  have hx := B.exec
  have hb := B.bytes
  have hr := B.returns
  have hts : ∀ w ∈ bX0, w.before _ s = true := fun w h => atoms_spec (ws := wsX0_placeInPage) B.pre w (List.mem_cons_of_mem _ h)
  have hown : s.vm.findClass RX0 = some m.cls := findClass_of_methodNamed B.named
  have hlocks := B.notSynchronized
  have hl := lv_entry ([.int a]) (n := 1) (Nat.le_of_ble_eq_true rfl)
  rw [lg_entry_eq]
  generalize (lg_sl ([.int a]) ++ List.replicate (1 - (lg_sl ([.int a])).length) Slot.unset).toArray = ls at hl ⊢
  have hl : lv_has ls 1 [(0, .int a)] := hl
  refine lv_iload_n hx hb dX0_placeInPage_0 rfl (lv_at hl 0 rfl) ?_
  refine lv_bipush (v := 15) hx hb dX0_placeInPage_1 (by decide) ?_
  refine lv_iand hx hb dX0_placeInPage_3 ?_
  exact W.iret (v := (a &&& 15)) hx hb hr (fun t ht _ => ⟨(a &&& 15), rfl, rfl, ht⟩) t_nil dX0_placeInPage_4
set_option maxHeartbeats 4000000 in
set_option maxRecDepth 100000 in
theorem c_x_slotOf (l : Launch) (a : Int32) : Met l yX0_slotOf wsX0_slotOf ({ frames := 1, cells := 0, slots := 0, locals := 20 }) (va_Pc [.int a] (fun _ => True)) (vp_Si (fun r => x_slotOf a = r)) 0 0 (fun _ => False) := by
  refine Met.ofW (cc := cX0_slotOf) (maxL := 2) (ret := (some .int)) (by decide) rfl ?_
  intro p e s m args below meth c s₁ B hml hv
  obtain ⟨rfl, -⟩ := hv
  have hx := B.exec
  have hb := B.bytes
  have hr := B.returns
  have hts : ∀ w ∈ bX0, w.before _ s = true := fun w h => atoms_spec (ws := wsX0_slotOf) B.pre w (List.mem_cons_of_mem _ h)
  have hown : s.vm.findClass RX0 = some m.cls := findClass_of_methodNamed B.named
  have hlocks := B.notSynchronized
  have hl := lv_entry ([.int a]) (n := 2) (Nat.le_of_ble_eq_true rfl)
  rw [lg_entry_eq]
  generalize (lg_sl ([.int a]) ++ List.replicate (2 - (lg_sl ([.int a])).length) Slot.unset).toArray = ls at hl ⊢
  have hl : lv_has ls 2 [(0, .int a)] := hl
  refine lv_iload_n hx hb dX0_slotOf_0 rfl (lv_at hl 0 rfl) ?_
  refine vp_callSi (W.runS (As := [.int a]) (rest := []) ⟨hx, hb, hml, hown, hts⟩ (c_x_pageOf l a ) (va_cwS 1 hts gX0_X0_pageOf rfl rfl rfl (by decide +kernel) ⟨Nat.le_of_ble_eq_true rfl, Nat.le_of_ble_eq_true rfl⟩) (fs_pre) rfl rfl hl.1 rfl (lv_room (Nat.le_of_ble_eq_true rfl)) dX0_slotOf_1 ⟨Nat.zero_le _, Nat.zero_le _⟩) (fun r er => ?_)
  subst er
  refine lv_bipush (v := 8) hx hb dX0_slotOf_4 (by decide) ?_
  refine lv_irem hx hb dX0_slotOf_6 (by decide) ?_
  refine lv_istore_n (lv' := [(1, .int ((x_pageOf a) - (x_pageOf a) / 8 * 8)), (0, .int a)]) hx hb dX0_slotOf_7 rfl hl (by decide) rfl (fun ls hl => ?_)
  refine lv_iload_n hx hb dX0_slotOf_8 rfl (lv_at hl 1 rfl) ?_
  refine vp_callSi (W.runS (As := [.int a]) (rest := []) ⟨hx, hb, hml, hown, hts⟩ (c_x_regionOf l a ) (va_cwS 1 hts gX0_X0_regionOf rfl rfl rfl (by decide +kernel) ⟨Nat.le_of_ble_eq_true rfl, Nat.le_of_ble_eq_true rfl⟩) (fs_pre) rfl rfl hl.1 rfl (lv_room (Nat.le_of_ble_eq_true rfl)) dX0_slotOf_9 ⟨Nat.zero_le _, Nat.zero_le _⟩) (fun r er => ?_)
  subst er
  refine lv_iconst (v := 2) hx hb dX0_slotOf_12 (by decide) ?_
  refine lv_icmp_lt (tgt := 23) hx hb dX0_slotOf_13 (by decide) (fun c_1 => ?_) (fun c_1 => ?_)
  · refine lv_iload_n hx hb dX0_slotOf_23 rfl (lv_at hl 0 rfl) ?_
    exact W.iret (v := ((x_pageOf a) - (x_pageOf a) / 8 * 8)) hx hb hr (fun t ht _ => ⟨((x_pageOf a) - (x_pageOf a) / 8 * 8), rfl, (if_pos c_1).trans rfl, ht⟩) t_nil dX0_slotOf_24
  · refine lv_bipush (v := 8) hx hb dX0_slotOf_16 (by decide) ?_
    refine lv_iload_n hx hb dX0_slotOf_18 rfl (lv_at hl 0 rfl) ?_
    refine lv_iadd hx hb dX0_slotOf_19 ?_
    refine lv_goto (tgt := 24) hx hb dX0_slotOf_20 (by decide) ?_
    exact W.iret (v := ((8 : Int32) + ((x_pageOf a) - (x_pageOf a) / 8 * 8))) hx hb hr (fun t ht _ => ⟨((8 : Int32) + ((x_pageOf a) - (x_pageOf a) / 8 * 8)), rfl, (if_neg c_1).trans rfl, ht⟩) t_nil dX0_slotOf_24
set_option maxHeartbeats 4000000 in
set_option maxRecDepth 100000 in
theorem c_x_isValid (l : Launch) (v : Int32) : Met l yX0_isValid wsX0_isValid ({ frames := 0, cells := 0, slots := 0, locals := 0 }) (va_Pc [.int v] (fun _ => True)) (vp_Si (fun r => x_isValid v = r)) 0 0 (fun _ => False) := by
  refine Met.ofW (cc := cX0_isValid) (maxL := 1) (ret := (some .boolean)) (by decide) rfl ?_
  intro p e s m args below meth c s₁ B hml hv
  obtain ⟨rfl, -⟩ := hv
  have hx := B.exec
  have hb := B.bytes
  have hr := B.returns
  have hts : ∀ w ∈ bX0, w.before _ s = true := fun w h => atoms_spec (ws := wsX0_isValid) B.pre w (List.mem_cons_of_mem _ h)
  have hown : s.vm.findClass RX0 = some m.cls := findClass_of_methodNamed B.named
  have hlocks := B.notSynchronized
  have hl := lv_entry ([.int v]) (n := 1) (Nat.le_of_ble_eq_true rfl)
  rw [lg_entry_eq]
  generalize (lg_sl ([.int v]) ++ List.replicate (1 - (lg_sl ([.int v])).length) Slot.unset).toArray = ls at hl ⊢
  have hl : lv_has ls 1 [(0, .int v)] := hl
  refine lv_iload_n hx hb dX0_isValid_0 rfl (lv_at hl 0 rfl) ?_
  refine lv_ldc (v := (-2147483648)) hx hb hown (hts _ bX0_13) dX0_isValid_1 ?_
  refine lv_iand hx hb dX0_isValid_3 ?_
  refine lv_if_eq (tgt := 11) hx hb dX0_isValid_4 (by decide) (fun c_1 => ?_) (fun c_1 => ?_)
  · refine lv_iconst (v := 0) hx hb dX0_isValid_11 (by decide) ?_
    exact W.zret (ty := .boolean) (v := 0) hx hb hr rfl (fun t ht _ => ⟨0, rfl, (if_pos c_1).trans rfl, ht⟩) t_nil dX0_isValid_12
  · refine lv_iconst (v := 1) hx hb dX0_isValid_7 (by decide) ?_
    refine lv_goto (tgt := 12) hx hb dX0_isValid_8 (by decide) ?_
    exact W.zret (ty := .boolean) (v := 1) hx hb hr rfl (fun t ht _ => ⟨1, rfl, (if_neg c_1).trans rfl, ht⟩) t_nil dX0_isValid_12
set_option maxHeartbeats 4000000 in
set_option maxRecDepth 100000 in
theorem c_x_physical (l : Launch) (v : Int32) (a : Int32) : Met l yX0_physical wsX0_physical ({ frames := 1, cells := 0, slots := 0, locals := 20 }) (va_Pc [.int v, .int a] (fun _ => True)) (vp_Si (fun r => x_physical v a = r)) 0 0 (fun _ => False) := by
  refine Met.ofW (cc := cX0_physical) (maxL := 2) (ret := (some .int)) (by decide) rfl ?_
  intro p e s m args below meth c s₁ B hml hv
  obtain ⟨rfl, -⟩ := hv
  have hx := B.exec
  have hb := B.bytes
  have hr := B.returns
  have hts : ∀ w ∈ bX0, w.before _ s = true := fun w h => atoms_spec (ws := wsX0_physical) B.pre w (List.mem_cons_of_mem _ h)
  have hown : s.vm.findClass RX0 = some m.cls := findClass_of_methodNamed B.named
  have hlocks := B.notSynchronized
  have hl := lv_entry ([.int v, .int a]) (n := 2) (Nat.le_of_ble_eq_true rfl)
  rw [lg_entry_eq]
  generalize (lg_sl ([.int v, .int a]) ++ List.replicate (2 - (lg_sl ([.int v, .int a])).length) Slot.unset).toArray = ls at hl ⊢
  have hl : lv_has ls 2 [(0, .int v), (1, .int a)] := hl
  refine lv_iload_n hx hb dX0_physical_0 rfl (lv_at hl 0 rfl) ?_
  refine lv_sipush (v := 4095) hx hb dX0_physical_1 (by decide) ?_
  refine lv_iand hx hb dX0_physical_4 ?_
  refine lv_bipush (v := 16) hx hb dX0_physical_5 (by decide) ?_
  refine lv_imul hx hb dX0_physical_7 ?_
  refine lv_iload_n hx hb dX0_physical_8 rfl (lv_at hl 1 rfl) ?_
  refine vp_callSi (W.runS (As := [.int a]) (rest := [.int ((v &&& 4095) * 16)]) ⟨hx, hb, hml, hown, hts⟩ (c_x_placeInPage l a ) (va_cwS 1 hts gX0_X0_placeInPage rfl rfl rfl (by decide +kernel) ⟨Nat.le_of_ble_eq_true rfl, Nat.le_of_ble_eq_true rfl⟩) (fs_pre) rfl rfl hl.1 rfl (lv_room (Nat.le_of_ble_eq_true rfl)) dX0_physical_9 ⟨Nat.zero_le _, Nat.zero_le _⟩) (fun r er => ?_)
  subst er
  refine lv_iadd hx hb dX0_physical_12 ?_
  exact W.iret (v := (((v &&& 4095) * 16) + (x_placeInPage a))) hx hb hr (fun t ht _ => ⟨(((v &&& 4095) * 16) + (x_placeInPage a)), rfl, rfl, ht⟩) t_nil dX0_physical_13
set_option maxHeartbeats 4000000 in
set_option maxRecDepth 100000 in
theorem c_x_isCount (l : Launch) (k : Int32) : Met l yX0_isCount wsX0_isCount ({ frames := 0, cells := 0, slots := 0, locals := 0 }) (va_Pc [.int k] (fun _ => True)) (vp_Si (fun r => x_isCount k = r)) 0 0 (fun _ => False) := by
  refine Met.ofW (cc := cX0_isCount) (maxL := 1) (ret := (some .boolean)) (by decide) rfl ?_
  intro p e s m args below meth c s₁ B hml hv
  obtain ⟨rfl, -⟩ := hv
  have hx := B.exec
  have hb := B.bytes
  have hr := B.returns
  have hts : ∀ w ∈ bX0, w.before _ s = true := fun w h => atoms_spec (ws := wsX0_isCount) B.pre w (List.mem_cons_of_mem _ h)
  have hown : s.vm.findClass RX0 = some m.cls := findClass_of_methodNamed B.named
  have hlocks := B.notSynchronized
  have hl := lv_entry ([.int k]) (n := 1) (Nat.le_of_ble_eq_true rfl)
  rw [lg_entry_eq]
  generalize (lg_sl ([.int k]) ++ List.replicate (1 - (lg_sl ([.int k])).length) Slot.unset).toArray = ls at hl ⊢
  have hl : lv_has ls 1 [(0, .int k)] := hl
  refine lv_iload_n hx hb dX0_isCount_0 rfl (lv_at hl 0 rfl) ?_
  refine lv_iconst (v := 1) hx hb dX0_isCount_1 (by decide) ?_
  refine lv_icmp_eq (tgt := 15) hx hb dX0_isCount_2 (by decide) (fun c_1 => ?_) (fun c_1 => ?_)
  · refine lv_iconst (v := 1) hx hb dX0_isCount_15 (by decide) ?_
    refine lv_goto (tgt := 20) hx hb dX0_isCount_16 (by decide) ?_
    exact W.zret (ty := .boolean) (v := 1) hx hb hr rfl (fun t ht _ => ⟨1, rfl, (if_pos c_1).trans rfl, ht⟩) t_nil dX0_isCount_20
  · refine lv_iload_n hx hb dX0_isCount_5 rfl (lv_at hl 0 rfl) ?_
    refine lv_iconst (v := 2) hx hb dX0_isCount_6 (by decide) ?_
    refine lv_icmp_eq (tgt := 15) hx hb dX0_isCount_7 (by decide) (fun c_2 => ?_) (fun c_2 => ?_)
    · refine lv_iconst (v := 1) hx hb dX0_isCount_15 (by decide) ?_
      refine lv_goto (tgt := 20) hx hb dX0_isCount_16 (by decide) ?_
      exact W.zret (ty := .boolean) (v := 1) hx hb hr rfl (fun t ht _ => ⟨1, rfl, (if_neg c_1).trans ((if_pos c_2).trans rfl), ht⟩) t_nil dX0_isCount_20
    · refine lv_iload_n hx hb dX0_isCount_10 rfl (lv_at hl 0 rfl) ?_
      refine lv_iconst (v := 4) hx hb dX0_isCount_11 (by decide) ?_
      refine lv_icmp_ne (tgt := 19) hx hb dX0_isCount_12 (by decide) (fun c_3 => ?_) (fun c_3 => ?_)
      · refine lv_iconst (v := 0) hx hb dX0_isCount_19 (by decide) ?_
        exact W.zret (ty := .boolean) (v := 0) hx hb hr rfl (fun t ht _ => ⟨0, rfl, (if_neg c_1).trans ((if_neg c_2).trans ((if_neg c_3).trans rfl)), ht⟩) t_nil dX0_isCount_20
      · refine lv_iconst (v := 1) hx hb dX0_isCount_15 (by decide) ?_
        refine lv_goto (tgt := 20) hx hb dX0_isCount_16 (by decide) ?_
        exact W.zret (ty := .boolean) (v := 1) hx hb hr rfl (fun t ht _ => ⟨1, rfl, (if_neg c_1).trans ((if_neg c_2).trans ((if_pos c_3).trans rfl)), ht⟩) t_nil dX0_isCount_20
set_option maxHeartbeats 4000000 in
set_option maxRecDepth 100000 in
theorem c_x_access (l : Launch) (k : Int32) (b : Int32) : Met l yX0_access wsX0_access ({ frames := 0, cells := 0, slots := 0, locals := 0 }) (va_Pc [.int k, .int b] (fun _ => True)) (vp_Si (fun r => x_access k b = r)) 0 0 (fun _ => False) := by
  refine Met.ofW (cc := cX0_access) (maxL := 2) (ret := (some .int)) (by decide) rfl ?_
  intro p e s m args below meth c s₁ B hml hv
  obtain ⟨rfl, -⟩ := hv
  have hx := B.exec
  have hb := B.bytes
  have hr := B.returns
  have hts : ∀ w ∈ bX0, w.before _ s = true := fun w h => atoms_spec (ws := wsX0_access) B.pre w (List.mem_cons_of_mem _ h)
  have hown : s.vm.findClass RX0 = some m.cls := findClass_of_methodNamed B.named
  have hlocks := B.notSynchronized
  have hl := lv_entry ([.int k, .int b]) (n := 2) (Nat.le_of_ble_eq_true rfl)
  rw [lg_entry_eq]
  generalize (lg_sl ([.int k, .int b]) ++ List.replicate (2 - (lg_sl ([.int k, .int b])).length) Slot.unset).toArray = ls at hl ⊢
  have hl : lv_has ls 2 [(0, .int k), (1, .int b)] := hl
  refine lv_iconst (v := (-1)) hx hb dX0_access_0 (by decide) ?_
  refine lv_iload_n hx hb dX0_access_1 rfl (lv_at hl 0 rfl) ?_
  refine lv_isub hx hb dX0_access_2 ?_
  refine lv_iload_n hx hb dX0_access_3 rfl (lv_at hl 1 rfl) ?_
  refine lv_if_eq (tgt := 11) hx hb dX0_access_4 (by decide) (fun c_1 => ?_) (fun c_1 => ?_)
  · refine lv_iconst (v := 0) hx hb dX0_access_11 (by decide) ?_
    refine lv_isub hx hb dX0_access_12 ?_
    exact W.iret (v := ((((-1) : Int32) - k) - 0)) hx hb hr (fun t ht _ => ⟨((((-1) : Int32) - k) - 0), rfl, (if_pos c_1).trans rfl, ht⟩) t_nil dX0_access_13
  · refine lv_iconst (v := 4) hx hb dX0_access_7 (by decide) ?_
    refine lv_goto (tgt := 12) hx hb dX0_access_8 (by decide) ?_
    refine lv_isub hx hb dX0_access_12 ?_
    exact W.iret (v := ((((-1) : Int32) - k) - 4)) hx hb hr (fun t ht _ => ⟨((((-1) : Int32) - k) - 4), rfl, (if_neg c_1).trans rfl, ht⟩) t_nil dX0_access_13
set_option maxHeartbeats 4000000 in
set_option maxRecDepth 100000 in
theorem c_x_missing (l : Launch) (k : Int32) (b : Int32) : Met l yX0_missing wsX0_missing ({ frames := 0, cells := 0, slots := 0, locals := 0 }) (va_Pc [.int k, .int b] (fun _ => True)) (vp_Si (fun r => x_missing k b = r)) 0 0 (fun _ => False) := by
  refine Met.ofW (cc := cX0_missing) (maxL := 2) (ret := (some .int)) (by decide) rfl ?_
  intro p e s m args below meth c s₁ B hml hv
  obtain ⟨rfl, -⟩ := hv
  have hx := B.exec
  have hb := B.bytes
  have hr := B.returns
  have hts : ∀ w ∈ bX0, w.before _ s = true := fun w h => atoms_spec (ws := wsX0_missing) B.pre w (List.mem_cons_of_mem _ h)
  have hown : s.vm.findClass RX0 = some m.cls := findClass_of_methodNamed B.named
  have hlocks := B.notSynchronized
  have hl := lv_entry ([.int k, .int b]) (n := 2) (Nat.le_of_ble_eq_true rfl)
  rw [lg_entry_eq]
  generalize (lg_sl ([.int k, .int b]) ++ List.replicate (2 - (lg_sl ([.int k, .int b])).length) Slot.unset).toArray = ls at hl ⊢
  have hl : lv_has ls 2 [(0, .int k), (1, .int b)] := hl
  refine lv_bipush (v := (-11)) hx hb dX0_missing_0 (by decide) ?_
  refine lv_iload_n hx hb dX0_missing_2 rfl (lv_at hl 0 rfl) ?_
  refine lv_isub hx hb dX0_missing_3 ?_
  refine lv_iload_n hx hb dX0_missing_4 rfl (lv_at hl 1 rfl) ?_
  refine lv_if_eq (tgt := 12) hx hb dX0_missing_5 (by decide) (fun c_1 => ?_) (fun c_1 => ?_)
  · refine lv_iconst (v := 0) hx hb dX0_missing_12 (by decide) ?_
    refine lv_isub hx hb dX0_missing_13 ?_
    exact W.iret (v := ((((-11) : Int32) - k) - 0)) hx hb hr (fun t ht _ => ⟨((((-11) : Int32) - k) - 0), rfl, (if_pos c_1).trans rfl, ht⟩) t_nil dX0_missing_14
  · refine lv_iconst (v := 4) hx hb dX0_missing_8 (by decide) ?_
    refine lv_goto (tgt := 13) hx hb dX0_missing_9 (by decide) ?_
    refine lv_isub hx hb dX0_missing_13 ?_
    exact W.iret (v := ((((-11) : Int32) - k) - 4)) hx hb hr (fun t ht _ => ⟨((((-11) : Int32) - k) - 4), rfl, (if_neg c_1).trans rfl, ht⟩) t_nil dX0_missing_14
set_option maxHeartbeats 4000000 in
set_option maxRecDepth 100000 in
theorem c_x_isAccess (l : Launch) (k : Int32) : Met l yX0_isAccess wsX0_isAccess ({ frames := 0, cells := 0, slots := 0, locals := 0 }) (va_Pc [.int k] (fun _ => True)) (vp_Si (fun r => x_isAccess k = r)) 0 0 (fun _ => False) := by
  refine Met.ofW (cc := cX0_isAccess) (maxL := 1) (ret := (some .boolean)) (by decide) rfl ?_
  intro p e s m args below meth c s₁ B hml hv
  obtain ⟨rfl, -⟩ := hv
  have hx := B.exec
  have hb := B.bytes
  have hr := B.returns
  have hts : ∀ w ∈ bX0, w.before _ s = true := fun w h => atoms_spec (ws := wsX0_isAccess) B.pre w (List.mem_cons_of_mem _ h)
  have hown : s.vm.findClass RX0 = some m.cls := findClass_of_methodNamed B.named
  have hlocks := B.notSynchronized
  have hl := lv_entry ([.int k]) (n := 1) (Nat.le_of_ble_eq_true rfl)
  rw [lg_entry_eq]
  generalize (lg_sl ([.int k]) ++ List.replicate (1 - (lg_sl ([.int k])).length) Slot.unset).toArray = ls at hl ⊢
  have hl : lv_has ls 1 [(0, .int k)] := hl
  refine lv_iload_n hx hb dX0_isAccess_0 rfl (lv_at hl 0 rfl) ?_
  refine lv_iconst (v := (-1)) hx hb dX0_isAccess_1 (by decide) ?_
  refine lv_icmp_gt (tgt := 15) hx hb dX0_isAccess_2 (by decide) (fun c_1 => ?_) (fun c_1 => ?_)
  · refine lv_iconst (v := 0) hx hb dX0_isAccess_15 (by decide) ?_
    exact W.zret (ty := .boolean) (v := 0) hx hb hr rfl (fun t ht _ => ⟨0, rfl, (if_pos c_1).trans rfl, ht⟩) t_nil dX0_isAccess_16
  · refine lv_iload_n hx hb dX0_isAccess_5 rfl (lv_at hl 0 rfl) ?_
    refine lv_bipush (v := (-11)) hx hb dX0_isAccess_6 (by decide) ?_
    refine lv_icmp_le (tgt := 15) hx hb dX0_isAccess_8 (by decide) (fun c_2 => ?_) (fun c_2 => ?_)
    · refine lv_iconst (v := 0) hx hb dX0_isAccess_15 (by decide) ?_
      exact W.zret (ty := .boolean) (v := 0) hx hb hr rfl (fun t ht _ => ⟨0, rfl, (if_neg c_1).trans ((if_pos c_2).trans rfl), ht⟩) t_nil dX0_isAccess_16
    · refine lv_iconst (v := 1) hx hb dX0_isAccess_11 (by decide) ?_
      refine lv_goto (tgt := 16) hx hb dX0_isAccess_12 (by decide) ?_
      exact W.zret (ty := .boolean) (v := 1) hx hb hr rfl (fun t ht _ => ⟨1, rfl, (if_neg c_1).trans ((if_neg c_2).trans rfl), ht⟩) t_nil dX0_isAccess_16
set_option maxHeartbeats 4000000 in
set_option maxRecDepth 100000 in
theorem c_x_gives (l : Launch) (tw tr : Nat) (v : Int32) (md : Int32) (b : Int32) : Met l yX0_gives wsX0_gives ({ frames := 0, cells := 0, slots := 0, locals := 0 }) (va_Pc [.int v, .int md, .int b] (x_BS tw tr)) (vp_Si (fun r => x_gives v md b = r)) 0 0 (fun _ => False) := by
  refine Met.ofW (cc := cX0_gives) (maxL := 5) (ret := (some .boolean)) (by decide) rfl ?_
  intro p e s m args below meth c s₁ B hml hv
  obtain ⟨rfl, hST⟩ := hv
  have hx := B.exec
  have hb := B.bytes
  have hr := B.returns
  have hts : ∀ w ∈ bX0, w.before _ s = true := fun w h => atoms_spec (ws := wsX0_gives) B.pre w (List.mem_cons_of_mem _ h)
  have hown : s.vm.findClass RX0 = some m.cls := findClass_of_methodNamed B.named
  have hlocks := B.notSynchronized
  have hS : va_S (fun _ => False) s.heap s.heap [] := va_S.rf
  have hl := lv_entry ([.int v, .int md, .int b]) (n := 5) (Nat.le_of_ble_eq_true rfl)
  rw [lg_entry_eq]
  generalize (lg_sl ([.int v, .int md, .int b]) ++ List.replicate (5 - (lg_sl ([.int v, .int md, .int b])).length) Slot.unset).toArray = ls at hl ⊢
  have hl : lv_has ls 5 [(0, .int v), (1, .int md), (2, .int b)] := hl
  refine lv_iload_n hx hb dX0_gives_0 rfl (lv_at hl 0 rfl) ?_
  refine lv_bipush (v := 27) hx hb dX0_gives_1 (by decide) ?_
  refine lv_iushr (v := (jushr v 27)) hx hb dX0_gives_3 rfl ?_
  refine lv_bipush (v := 15) hx hb dX0_gives_4 (by decide) ?_
  refine lv_iand hx hb dX0_gives_6 ?_
  refine lv_istore_n (lv' := [(3, .int ((jushr v 27) &&& 15)), (0, .int v), (1, .int md), (2, .int b)]) hx hb dX0_gives_7 rfl hl (by decide) rfl (fun ls hl => ?_)
  refine lv_iload_n hx hb dX0_gives_8 rfl (lv_at hl 3 rfl) ?_
  refine lv_if_eq (tgt := 20) hx hb dX0_gives_9 (by decide) (fun c_1 => ?_) (fun c_1 => ?_)
  · refine va_gets hx hb hST.2.2.1 hS hown (hts _ bX0_15) (fun _ h9 => h9) dX0_gives_20 ?_
    refine lv_iload_n hx hb dX0_gives_23 rfl (lv_at hl 0 rfl) ?_
    refine va_ti (v := .int (x_mr (((jushr v 27) &&& 15)).toNatClampNeg)) hx hb hST.2.2.2 hS (x_code_in v) rfl dX0_gives_24 ?_
    refine lv_istore (lv' := [(4, .int (x_mr (((jushr v 27) &&& 15)).toNatClampNeg)), (3, .int ((jushr v 27) &&& 15)), (0, .int v), (1, .int md), (2, .int b)]) hx hb dX0_gives_25 hl (by decide) rfl (fun ls hl => ?_)
    refine lv_iload_n hx hb dX0_gives_27 rfl (lv_at hl 3 rfl) ?_
    refine lv_iconst (v := 3) hx hb dX0_gives_28 (by decide) ?_
    refine lv_iand hx hb dX0_gives_29 ?_
    refine lv_iload hx hb dX0_gives_30 (lv_at hl 0 rfl) ?_
    refine lv_icmp_gt (tgt := 39) hx hb dX0_gives_32 (by decide) (fun c_2 => ?_) (fun c_2 => ?_)
    · refine lv_iconst (v := 0) hx hb dX0_gives_39 (by decide) ?_
      exact W.zret (ty := .boolean) (v := 0) hx hb hr rfl (fun t ht _ => ⟨0, rfl, (if_pos c_1).trans ((if_pos c_2).trans rfl), ht⟩) t_nil dX0_gives_40
    · refine lv_iconst (v := 1) hx hb dX0_gives_35 (by decide) ?_
      refine lv_goto (tgt := 40) hx hb dX0_gives_36 (by decide) ?_
      exact W.zret (ty := .boolean) (v := 1) hx hb hr rfl (fun t ht _ => ⟨1, rfl, (if_pos c_1).trans ((if_neg c_2).trans rfl), ht⟩) t_nil dX0_gives_40
  · refine va_gets hx hb hST.1 hS hown (hts _ bX0_14) (fun _ h9 => h9) dX0_gives_12 ?_
    refine lv_iload_n hx hb dX0_gives_15 rfl (lv_at hl 0 rfl) ?_
    refine va_ti (v := .int (x_mw (((jushr v 27) &&& 15)).toNatClampNeg)) hx hb hST.2.1 hS (x_code_in v) rfl dX0_gives_16 ?_
    refine lv_goto (tgt := 25) hx hb dX0_gives_17 (by decide) ?_
    refine lv_istore (lv' := [(4, .int (x_mw (((jushr v 27) &&& 15)).toNatClampNeg)), (3, .int ((jushr v 27) &&& 15)), (0, .int v), (1, .int md), (2, .int b)]) hx hb dX0_gives_25 hl (by decide) rfl (fun ls hl => ?_)
    refine lv_iload_n hx hb dX0_gives_27 rfl (lv_at hl 3 rfl) ?_
    refine lv_iconst (v := 3) hx hb dX0_gives_28 (by decide) ?_
    refine lv_iand hx hb dX0_gives_29 ?_
    refine lv_iload hx hb dX0_gives_30 (lv_at hl 0 rfl) ?_
    refine lv_icmp_gt (tgt := 39) hx hb dX0_gives_32 (by decide) (fun c_3 => ?_) (fun c_3 => ?_)
    · refine lv_iconst (v := 0) hx hb dX0_gives_39 (by decide) ?_
      exact W.zret (ty := .boolean) (v := 0) hx hb hr rfl (fun t ht _ => ⟨0, rfl, (if_neg c_1).trans ((if_pos c_3).trans rfl), ht⟩) t_nil dX0_gives_40
    · refine lv_iconst (v := 1) hx hb dX0_gives_35 (by decide) ?_
      refine lv_goto (tgt := 40) hx hb dX0_gives_36 (by decide) ?_
      exact W.zret (ty := .boolean) (v := 1) hx hb hr rfl (fun t ht _ => ⟨1, rfl, (if_neg c_1).trans ((if_neg c_3).trans rfl), ht⟩) t_nil dX0_gives_40
set_option maxHeartbeats 4000000 in
set_option maxRecDepth 100000 in
theorem c_x_counts (l : Launch) (dC : Nat → ClassId) (dI : Nat → Nat → Nat) (h : Nat → Nat) (cB cI : ClassId) (n : Nat) (σ : XS) (k : Int32) (a : Int32) (hk : vp_in k 16) : Met l yX0_counts wsX0_counts ({ frames := 0, cells := 0, slots := 0, locals := 0 }) (va_Pc [.ref (h 0), .int k, .int a] (x_BP dC dI h cB cI n σ)) (vp_Si (fun r => x_counts n σ k a = r)) 0 0 (fun _ => False) := by
  refine Met.ofW (cc := cX0_counts) (maxL := 3) (ret := (some .boolean)) (by decide) rfl ?_
  intro p e s m args below meth c s₁ B hml hv
  obtain ⟨rfl, hP, hK⟩ := hv
  have hx := B.exec
  have hb := B.bytes
  have hr := B.returns
  have hts : ∀ w ∈ bX0, w.before _ s = true := fun w h => atoms_spec (ws := wsX0_counts) B.pre w (List.mem_cons_of_mem _ h)
  have hown : s.vm.findClass RX0 = some m.cls := findClass_of_methodNamed B.named
  have hlocks := B.notSynchronized
  have hl := lv_entry ([.ref (h 0), .int k, .int a]) (n := 3) (Nat.le_of_ble_eq_true rfl)
  rw [lg_entry_eq]
  generalize (lg_sl ([.ref (h 0), .int k, .int a]) ++ List.replicate (3 - (lg_sl ([.ref (h 0), .int k, .int a])).length) Slot.unset).toArray = ls at hl ⊢
  have hl : lv_has ls 3 [(0, .ref (h 0)), (1, .int k), (2, .int a)] := hl
  refine lv_aload_n hx hb dX0_counts_0 rfl (lv_at hl 0 rfl) ?_
  refine va_get (D := (dC, dI)) (ci := 0) (v := .ref (h 4)) (C := RX0) (T := TX0) (N := 9) hx hb hts inbX0 hown hK hP 0 rfl rfl 5 (by decide) (hts _ bX0_5) (fun _ h9 => h9) rfl dX0_counts_1 ?_
  refine lv_iload_n hx hb dX0_counts_4 rfl (lv_at hl 1 rfl) ?_
  refine va_iald hx hb hK hP 4 1 rfl rfl hk dX0_counts_5 ?_
  refine lv_iload_n hx hb dX0_counts_6 rfl (lv_at hl 2 rfl) ?_
  refine lv_bipush (v := 16) hx hb dX0_counts_7 (by decide) ?_
  refine lv_idiv hx hb dX0_counts_9 (by decide) ?_
  refine lv_icmp_ne (tgt := 17) hx hb dX0_counts_10 (by decide) (fun c_1 => ?_) (fun c_1 => ?_)
  · refine lv_iconst (v := 0) hx hb dX0_counts_17 (by decide) ?_
    exact W.zret (ty := .boolean) (v := 0) hx hb hr rfl (fun t ht _ => ⟨0, rfl, (if_neg c_1).trans rfl, ht⟩) t_nil dX0_counts_18
  · refine lv_iconst (v := 1) hx hb dX0_counts_13 (by decide) ?_
    refine lv_goto (tgt := 18) hx hb dX0_counts_14 (by decide) ?_
    exact W.zret (ty := .boolean) (v := 1) hx hb hr rfl (fun t ht _ => ⟨1, rfl, (if_pos c_1).trans rfl, ht⟩) t_nil dX0_counts_18
set_option maxHeartbeats 4000000 in
set_option maxRecDepth 100000 in
theorem c_x_inside (l : Launch) (dC : Nat → ClassId) (dI : Nat → Nat → Nat) (h : Nat → Nat) (cB cI : ClassId) (n : Nat) (σ : XS) (rg : Int32) (g : Int32) (hk : vp_in rg 4) : Met l yX0_inside wsX0_inside ({ frames := 0, cells := 0, slots := 0, locals := 0 }) (va_Pc [.ref (h 0), .int rg, .int g] (x_BP dC dI h cB cI n σ)) (vp_Si (fun r => x_inside n σ rg g = r)) 0 0 (fun _ => False) := by
  refine Met.ofW (cc := cX0_inside) (maxL := 3) (ret := (some .boolean)) (by decide) rfl ?_
  intro p e s m args below meth c s₁ B hml hv
  obtain ⟨rfl, hP, hK⟩ := hv
  have hx := B.exec
  have hb := B.bytes
  have hr := B.returns
  have hts : ∀ w ∈ bX0, w.before _ s = true := fun w h => atoms_spec (ws := wsX0_inside) B.pre w (List.mem_cons_of_mem _ h)
  have hown : s.vm.findClass RX0 = some m.cls := findClass_of_methodNamed B.named
  have hlocks := B.notSynchronized
  have hl := lv_entry ([.ref (h 0), .int rg, .int g]) (n := 3) (Nat.le_of_ble_eq_true rfl)
  rw [lg_entry_eq]
  generalize (lg_sl ([.ref (h 0), .int rg, .int g]) ++ List.replicate (3 - (lg_sl ([.ref (h 0), .int rg, .int g])).length) Slot.unset).toArray = ls at hl ⊢
  have hl : lv_has ls 3 [(0, .ref (h 0)), (1, .int rg), (2, .int g)] := hl
  refine lv_iload_n hx hb dX0_inside_0 rfl (lv_at hl 1 rfl) ?_
  refine lv_iconst (v := 3) hx hb dX0_inside_1 (by decide) ?_
  refine lv_icmp_lt (tgt := 7) hx hb dX0_inside_2 (by decide) (fun c_1 => ?_) (fun c_1 => ?_)
  · refine lv_iload_n hx hb dX0_inside_7 rfl (lv_at hl 1 rfl) ?_
    refine lv_iconst (v := 1) hx hb dX0_inside_8 (by decide) ?_
    refine lv_icmp_ne (tgt := 30) hx hb dX0_inside_9 (by decide) (fun c_2 => ?_) (fun c_2 => ?_)
    · refine lv_iload_n hx hb dX0_inside_30 rfl (lv_at hl 2 rfl) ?_
      refine lv_aload_n hx hb dX0_inside_31 rfl (lv_at hl 0 rfl) ?_
      refine va_get (D := (dC, dI)) (ci := 0) (v := .ref (h 3)) (C := RX0) (T := TX0) (N := 9) hx hb hts inbX0 hown hK hP 0 rfl rfl 2 (by decide) (hts _ bX0_2) (fun _ h9 => h9) rfl dX0_inside_32 ?_
      refine lv_iload_n hx hb dX0_inside_35 rfl (lv_at hl 1 rfl) ?_
      refine va_iald hx hb hK hP 3 1 rfl rfl (x_r3 hk c_1) dX0_inside_36 ?_
      refine lv_icmp_ge (tgt := 44) hx hb dX0_inside_37 (by decide) (fun c_3 => ?_) (fun c_3 => ?_)
      · refine lv_iconst (v := 0) hx hb dX0_inside_44 (by decide) ?_
        exact W.zret (ty := .boolean) (v := 0) hx hb hr rfl (fun t ht _ => ⟨0, rfl, (if_pos c_1).trans ((if_neg c_2).trans ((if_pos c_3).trans rfl)), ht⟩) t_nil dX0_inside_45
      · refine lv_iconst (v := 1) hx hb dX0_inside_40 (by decide) ?_
        refine lv_goto (tgt := 45) hx hb dX0_inside_41 (by decide) ?_
        exact W.zret (ty := .boolean) (v := 1) hx hb hr rfl (fun t ht _ => ⟨1, rfl, (if_pos c_1).trans ((if_neg c_2).trans ((if_neg c_3).trans rfl)), ht⟩) t_nil dX0_inside_45
    · refine lv_iload_n hx hb dX0_inside_12 rfl (lv_at hl 2 rfl) ?_
      refine lv_aload_n hx hb dX0_inside_13 rfl (lv_at hl 0 rfl) ?_
      refine va_get (D := (dC, dI)) (ci := 0) (v := .ref (h 3)) (C := RX0) (T := TX0) (N := 9) hx hb hts inbX0 hown hK hP 0 rfl rfl 2 (by decide) (hts _ bX0_2) (fun _ h9 => h9) rfl dX0_inside_14 ?_
      refine lv_iload_n hx hb dX0_inside_17 rfl (lv_at hl 1 rfl) ?_
      refine va_iald hx hb hK hP 3 1 rfl rfl (x_r3 hk c_1) dX0_inside_18 ?_
      refine lv_icmp_lt (tgt := 26) hx hb dX0_inside_19 (by decide) (fun c_4 => ?_) (fun c_4 => ?_)
      · refine lv_iconst (v := 0) hx hb dX0_inside_26 (by decide) ?_
        refine lv_goto (tgt := 45) hx hb dX0_inside_27 (by decide) ?_
        exact W.zret (ty := .boolean) (v := 0) hx hb hr rfl (fun t ht _ => ⟨0, rfl, (if_pos c_1).trans ((if_pos c_2).trans ((if_pos c_4).trans rfl)), ht⟩) t_nil dX0_inside_45
      · refine lv_iconst (v := 1) hx hb dX0_inside_22 (by decide) ?_
        refine lv_goto (tgt := 45) hx hb dX0_inside_23 (by decide) ?_
        exact W.zret (ty := .boolean) (v := 1) hx hb hr rfl (fun t ht _ => ⟨1, rfl, (if_pos c_1).trans ((if_pos c_2).trans ((if_neg c_4).trans rfl)), ht⟩) t_nil dX0_inside_45
  · refine lv_iconst (v := 0) hx hb dX0_inside_5 (by decide) ?_
    exact W.zret (ty := .boolean) (v := 0) hx hb hr rfl (fun t ht _ => ⟨0, rfl, (if_neg c_1).trans rfl, ht⟩) t_nil dX0_inside_6
set_option maxHeartbeats 4000000 in
set_option maxRecDepth 100000 in
theorem c_x_inMemory (l : Launch) (dC : Nat → ClassId) (dI : Nat → Nat → Nat) (h : Nat → Nat) (cB cI : ClassId) (n : Nat) (σ : XS) (a : Int32) (k : Int32) : Met l yX0_inMemory wsX0_inMemory ({ frames := 0, cells := 0, slots := 0, locals := 0 }) (va_Pc [.ref (h 0), .int a, .int k] (x_BP dC dI h cB cI n σ)) (vp_Si (fun r => x_inMemory n σ a k = r)) 0 0 (fun _ => False) := by
  refine Met.ofW (cc := cX0_inMemory) (maxL := 3) (ret := (some .boolean)) (by decide) rfl ?_
  intro p e s m args below meth c s₁ B hml hv
  obtain ⟨rfl, hP, hK⟩ := hv
  have hx := B.exec
  have hb := B.bytes
  have hr := B.returns
  have hts : ∀ w ∈ bX0, w.before _ s = true := fun w h => atoms_spec (ws := wsX0_inMemory) B.pre w (List.mem_cons_of_mem _ h)
  have hown : s.vm.findClass RX0 = some m.cls := findClass_of_methodNamed B.named
  have hlocks := B.notSynchronized
  have hl := lv_entry ([.ref (h 0), .int a, .int k]) (n := 3) (Nat.le_of_ble_eq_true rfl)
  rw [lg_entry_eq]
  generalize (lg_sl ([.ref (h 0), .int a, .int k]) ++ List.replicate (3 - (lg_sl ([.ref (h 0), .int a, .int k])).length) Slot.unset).toArray = ls at hl ⊢
  have hl : lv_has ls 3 [(0, .ref (h 0)), (1, .int a), (2, .int k)] := hl
  refine lv_iload_n hx hb dX0_inMemory_0 rfl (lv_at hl 1 rfl) ?_
  refine lv_if_lt (tgt := 19) hx hb dX0_inMemory_1 (by decide) (fun c_1 => ?_) (fun c_1 => ?_)
  · refine lv_iconst (v := 0) hx hb dX0_inMemory_19 (by decide) ?_
    exact W.zret (ty := .boolean) (v := 0) hx hb hr rfl (fun t ht _ => ⟨0, rfl, (if_pos c_1).trans rfl, ht⟩) t_nil dX0_inMemory_20
  · refine lv_iload_n hx hb dX0_inMemory_4 rfl (lv_at hl 1 rfl) ?_
    refine lv_aload_n hx hb dX0_inMemory_5 rfl (lv_at hl 0 rfl) ?_
    refine va_get (D := (dC, dI)) (ci := 0) (v := .ref (h 1)) (C := RX0) (T := TX0) (N := 9) hx hb hts inbX0 hown hK hP 0 rfl rfl 0 (by decide) (hts _ bX0_0) (fun _ h9 => h9) rfl dX0_inMemory_6 ?_
    refine va_alen (v := (nI n)) hx hb hK hP 1 0 rfl rfl rfl dX0_inMemory_9 ?_
    refine lv_iload_n hx hb dX0_inMemory_10 rfl (lv_at hl 2 rfl) ?_
    refine lv_isub hx hb dX0_inMemory_11 ?_
    refine lv_icmp_gt (tgt := 19) hx hb dX0_inMemory_12 (by decide) (fun c_2 => ?_) (fun c_2 => ?_)
    · refine lv_iconst (v := 0) hx hb dX0_inMemory_19 (by decide) ?_
      exact W.zret (ty := .boolean) (v := 0) hx hb hr rfl (fun t ht _ => ⟨0, rfl, (if_neg c_1).trans ((if_pos c_2).trans rfl), ht⟩) t_nil dX0_inMemory_20
    · refine lv_iconst (v := 1) hx hb dX0_inMemory_15 (by decide) ?_
      refine lv_goto (tgt := 20) hx hb dX0_inMemory_16 (by decide) ?_
      exact W.zret (ty := .boolean) (v := 1) hx hb hr rfl (fun t ht _ => ⟨1, rfl, (if_neg c_1).trans ((if_neg c_2).trans rfl), ht⟩) t_nil dX0_inMemory_20
set_option maxHeartbeats 4000000 in
set_option maxRecDepth 100000 in
theorem c_x_byteAt (l : Launch) (dC : Nat → ClassId) (dI : Nat → Nat → Nat) (h : Nat → Nat) (cB cI : ClassId) (n : Nat) (σ : XS) (a : Int32) (hk : vp_in a n) : Met l yX0_byteAt wsX0_byteAt ({ frames := 0, cells := 0, slots := 0, locals := 0 }) (va_Pc [.ref (h 0), .int a] (x_BP dC dI h cB cI n σ)) (vp_Si (fun r => x_byteAt n σ a = r)) 0 0 (fun _ => False) := by
  refine Met.ofW (cc := cX0_byteAt) (maxL := 2) (ret := (some .int)) (by decide) rfl ?_
  intro p e s m args below meth c s₁ B hml hv
  obtain ⟨rfl, hP, hK⟩ := hv
  have hx := B.exec
  have hb := B.bytes
  have hr := B.returns
  have hts : ∀ w ∈ bX0, w.before _ s = true := fun w h => atoms_spec (ws := wsX0_byteAt) B.pre w (List.mem_cons_of_mem _ h)
  have hown : s.vm.findClass RX0 = some m.cls := findClass_of_methodNamed B.named
  have hlocks := B.notSynchronized
  have hl := lv_entry ([.ref (h 0), .int a]) (n := 2) (Nat.le_of_ble_eq_true rfl)
  rw [lg_entry_eq]
  generalize (lg_sl ([.ref (h 0), .int a]) ++ List.replicate (2 - (lg_sl ([.ref (h 0), .int a])).length) Slot.unset).toArray = ls at hl ⊢
  have hl : lv_has ls 2 [(0, .ref (h 0)), (1, .int a)] := hl
  refine lv_aload_n hx hb dX0_byteAt_0 rfl (lv_at hl 0 rfl) ?_
  refine va_get (D := (dC, dI)) (ci := 0) (v := .ref (h 1)) (C := RX0) (T := TX0) (N := 9) hx hb hts inbX0 hown hK hP 0 rfl rfl 0 (by decide) (hts _ bX0_0) (fun _ h9 => h9) rfl dX0_byteAt_1 ?_
  refine lv_iload_n hx hb dX0_byteAt_4 rfl (lv_at hl 1 rfl) ?_
  refine va_bald hx hb hK hP 1 0 rfl rfl hk dX0_byteAt_5 ?_
  refine lv_sipush (v := 255) hx hb dX0_byteAt_6 (by decide) ?_
  refine lv_iand hx hb dX0_byteAt_9 ?_
  exact W.iret (v := ((x_mem σ (a).toNatClampNeg) &&& 255)) hx hb hr (fun t ht _ => ⟨((x_mem σ (a).toNatClampNeg) &&& 255), rfl, rfl, ht⟩) t_nil dX0_byteAt_10
set_option maxHeartbeats 4000000 in
set_option maxRecDepth 100000 in
theorem c_x_entryAt (l : Launch) (dC : Nat → ClassId) (dI : Nat → Nat → Nat) (h : Nat → Nat) (cB cI : ClassId) (n : Nat) (σ : XS) (a : Int32) (hk : x_in4 n a) : Met l yX0_entryAt wsX0_entryAt ({ frames := 1, cells := 0, slots := 0, locals := 21 }) (va_Pc [.ref (h 0), .int a] (x_BP dC dI h cB cI n σ)) (vp_Si (fun r => x_entryAt n σ a = r)) 0 0 (fun _ => False) := by
  refine Met.ofW (cc := cX0_entryAt) (maxL := 2) (ret := (some .int)) (by decide) rfl ?_
  intro p e s m args below meth c s₁ B hml hv
  obtain ⟨rfl, hP, hK⟩ := hv
  have hx := B.exec
  have hb := B.bytes
  have hr := B.returns
  have hts : ∀ w ∈ bX0, w.before _ s = true := fun w h => atoms_spec (ws := wsX0_entryAt) B.pre w (List.mem_cons_of_mem _ h)
  have hown : s.vm.findClass RX0 = some m.cls := findClass_of_methodNamed B.named
  have hlocks := B.notSynchronized
  have hl := lv_entry ([.ref (h 0), .int a]) (n := 2) (Nat.le_of_ble_eq_true rfl)
  rw [lg_entry_eq]
  generalize (lg_sl ([.ref (h 0), .int a]) ++ List.replicate (2 - (lg_sl ([.ref (h 0), .int a])).length) Slot.unset).toArray = ls at hl ⊢
  have hl : lv_has ls 2 [(0, .ref (h 0)), (1, .int a)] := hl
  refine lv_aload_n hx hb dX0_entryAt_0 rfl (lv_at hl 0 rfl) ?_
  refine lv_iload_n hx hb dX0_entryAt_1 rfl (lv_at hl 1 rfl) ?_
  refine vp_callSi (W.runV (C := RX0) (As := [.int a]) (rest := []) ⟨hx, hb, hml, hown, hts⟩ (c_x_byteAt l dC dI h cB cI n σ a hk.1) (cwV 1 hts gX0_X0_byteAt rfl rfl rfl (by decide +kernel) ⟨Nat.le_of_ble_eq_true rfl, Nat.le_of_ble_eq_true rfl⟩) (x_preP hK hP) rfl rfl hl.1 rfl (lv_room (Nat.le_of_ble_eq_true rfl)) dX0_entryAt_2 ⟨Nat.zero_le _, Nat.zero_le _⟩) (fun r er => ?_)
  subst er
  refine lv_aload_n hx hb dX0_entryAt_5 rfl (lv_at hl 0 rfl) ?_
  refine lv_iload_n hx hb dX0_entryAt_6 rfl (lv_at hl 1 rfl) ?_
  refine lv_iconst (v := 1) hx hb dX0_entryAt_7 (by decide) ?_
  refine lv_iadd hx hb dX0_entryAt_8 ?_
  refine vp_callSi (W.runV (C := RX0) (As := [.int (a + 1)]) (rest := [.int (x_byteAt n σ a)]) ⟨hx, hb, hml, hown, hts⟩ (c_x_byteAt l dC dI h cB cI n σ (a + 1) hk.2.1) (cwV 1 hts gX0_X0_byteAt rfl rfl rfl (by decide +kernel) ⟨Nat.le_of_ble_eq_true rfl, Nat.le_of_ble_eq_true rfl⟩) (x_preP hK hP) rfl rfl hl.1 rfl (lv_room (Nat.le_of_ble_eq_true rfl)) dX0_entryAt_9 ⟨Nat.zero_le _, Nat.zero_le _⟩) (fun r er => ?_)
  subst er
  refine lv_bipush (v := 8) hx hb dX0_entryAt_12 (by decide) ?_
  refine lv_ishl hx hb dX0_entryAt_14 ?_
  refine lv_ior hx hb dX0_entryAt_15 ?_
  refine lv_aload_n hx hb dX0_entryAt_16 rfl (lv_at hl 0 rfl) ?_
  refine lv_iload_n hx hb dX0_entryAt_17 rfl (lv_at hl 1 rfl) ?_
  refine lv_iconst (v := 2) hx hb dX0_entryAt_18 (by decide) ?_
  refine lv_iadd hx hb dX0_entryAt_19 ?_
  refine vp_callSi (W.runV (C := RX0) (As := [.int (a + 2)]) (rest := [.int ((x_byteAt n σ a) ||| ((x_byteAt n σ (a + 1)) <<< (8 &&& 31)))]) ⟨hx, hb, hml, hown, hts⟩ (c_x_byteAt l dC dI h cB cI n σ (a + 2) hk.2.2.1) (cwV 1 hts gX0_X0_byteAt rfl rfl rfl (by decide +kernel) ⟨Nat.le_of_ble_eq_true rfl, Nat.le_of_ble_eq_true rfl⟩) (x_preP hK hP) rfl rfl hl.1 rfl (lv_room (Nat.le_of_ble_eq_true rfl)) dX0_entryAt_20 ⟨Nat.zero_le _, Nat.zero_le _⟩) (fun r er => ?_)
  subst er
  refine lv_bipush (v := 16) hx hb dX0_entryAt_23 (by decide) ?_
  refine lv_ishl hx hb dX0_entryAt_25 ?_
  refine lv_ior hx hb dX0_entryAt_26 ?_
  refine lv_aload_n hx hb dX0_entryAt_27 rfl (lv_at hl 0 rfl) ?_
  refine lv_iload_n hx hb dX0_entryAt_28 rfl (lv_at hl 1 rfl) ?_
  refine lv_iconst (v := 3) hx hb dX0_entryAt_29 (by decide) ?_
  refine lv_iadd hx hb dX0_entryAt_30 ?_
  refine vp_callSi (W.runV (C := RX0) (As := [.int (a + 3)]) (rest := [.int (((x_byteAt n σ a) ||| ((x_byteAt n σ (a + 1)) <<< (8 &&& 31))) ||| ((x_byteAt n σ (a + 2)) <<< (16 &&& 31)))]) ⟨hx, hb, hml, hown, hts⟩ (c_x_byteAt l dC dI h cB cI n σ (a + 3) hk.2.2.2) (cwV 1 hts gX0_X0_byteAt rfl rfl rfl (by decide +kernel) ⟨Nat.le_of_ble_eq_true rfl, Nat.le_of_ble_eq_true rfl⟩) (x_preP hK hP) rfl rfl hl.1 rfl (lv_room (Nat.le_of_ble_eq_true rfl)) dX0_entryAt_31 ⟨Nat.zero_le _, Nat.zero_le _⟩) (fun r er => ?_)
  subst er
  refine lv_bipush (v := 24) hx hb dX0_entryAt_34 (by decide) ?_
  refine lv_ishl hx hb dX0_entryAt_36 ?_
  refine lv_ior hx hb dX0_entryAt_37 ?_
  exact W.iret (v := ((((x_byteAt n σ a) ||| ((x_byteAt n σ (a + 1)) <<< (8 &&& 31))) ||| ((x_byteAt n σ (a + 2)) <<< (16 &&& 31))) ||| ((x_byteAt n σ (a + 3)) <<< (24 &&& 31)))) hx hb hr (fun t ht _ => ⟨((((x_byteAt n σ a) ||| ((x_byteAt n σ (a + 1)) <<< (8 &&& 31))) ||| ((x_byteAt n σ (a + 2)) <<< (16 &&& 31))) ||| ((x_byteAt n σ (a + 3)) <<< (24 &&& 31))), rfl, rfl, ht⟩) t_nil dX0_entryAt_38
set_option maxHeartbeats 4000000 in
set_option maxRecDepth 100000 in
theorem c_x_entryOf (l : Launch) (dC : Nat → ClassId) (dI : Nat → Nat → Nat) (h : Nat → Nat) (cB cI : ClassId) (n : Nat) (σ : XS) (a : Int32) (hn : n ≤ 2048) : Met l yX0_entryOf wsX0_entryOf ({ frames := 2, cells := 0, slots := 0, locals := 42 }) (va_Pc [.ref (h 0), .int a] (x_BP dC dI h cB cI n σ)) (vp_Sl (fun r => x_entryOf n σ a = r)) 0 0 (fun _ => False) := by
  refine Met.ofW (cc := cX0_entryOf) (maxL := 2) (ret := (some .long)) (by decide) rfl ?_
  intro p e s m args below meth c s₁ B hml hv
  obtain ⟨rfl, hP, hK⟩ := hv
  have hx := B.exec
  have hb := B.bytes
  have hr := B.returns
  have hts : ∀ w ∈ bX0, w.before _ s = true := fun w h => atoms_spec (ws := wsX0_entryOf) B.pre w (List.mem_cons_of_mem _ h)
  have hown : s.vm.findClass RX0 = some m.cls := findClass_of_methodNamed B.named
  have hlocks := B.notSynchronized
  have hl := lv_entry ([.ref (h 0), .int a]) (n := 2) (Nat.le_of_ble_eq_true rfl)
  rw [lg_entry_eq]
  generalize (lg_sl ([.ref (h 0), .int a]) ++ List.replicate (2 - (lg_sl ([.ref (h 0), .int a])).length) Slot.unset).toArray = ls at hl ⊢
  have hl : lv_has ls 2 [(0, .ref (h 0)), (1, .int a)] := hl
  refine lv_aload_n hx hb dX0_entryOf_0 rfl (lv_at hl 0 rfl) ?_
  refine lv_iload_n hx hb dX0_entryOf_1 rfl (lv_at hl 1 rfl) ?_
  refine lv_iconst (v := 4) hx hb dX0_entryOf_2 (by decide) ?_
  refine vp_callSi (W.runV (C := RX0) (As := [.int a, .int 4]) (rest := []) ⟨hx, hb, hml, hown, hts⟩ (c_x_inMemory l dC dI h cB cI n σ a 4 ) (cwV 2 hts gX0_X0_inMemory rfl rfl rfl (by decide +kernel) ⟨Nat.le_of_ble_eq_true rfl, Nat.le_of_ble_eq_true rfl⟩) (x_preP hK hP) rfl rfl hl.1 rfl (lv_room (Nat.le_of_ble_eq_true rfl)) dX0_entryOf_3 ⟨Nat.zero_le _, Nat.zero_le _⟩) (fun r er => ?_)
  subst er
  refine lv_if_eq (tgt := 22) hx hb dX0_entryOf_6 (by decide) (fun c_1 => ?_) (fun c_1 => ?_)
  · refine lv_ldc2 (v := (-1)) hx hb hown (hts _ bX0_10) dX0_entryOf_22 ?_
    exact W.lret (v := (-1)) hx hb hr (fun t ht _ => ⟨(-1), rfl, (if_pos c_1).trans rfl, ht⟩) t_nil dX0_entryOf_25
  · refine lv_aload_n hx hb dX0_entryOf_9 rfl (lv_at hl 0 rfl) ?_
    refine lv_iload_n hx hb dX0_entryOf_10 rfl (lv_at hl 1 rfl) ?_
    refine vp_callSi (W.runV (C := RX0) (As := [.int a]) (rest := []) ⟨hx, hb, hml, hown, hts⟩ (c_x_entryAt l dC dI h cB cI n σ a (x_inM4 hn c_1)) (cwV 1 hts gX0_X0_entryAt rfl rfl rfl (by decide +kernel) ⟨Nat.le_of_ble_eq_true rfl, Nat.le_of_ble_eq_true rfl⟩) (x_preP hK hP) rfl rfl hl.1 rfl (lv_room (Nat.le_of_ble_eq_true rfl)) dX0_entryOf_11 ⟨Nat.zero_le _, Nat.zero_le _⟩) (fun r er => ?_)
    subst er
    refine lv_i2l (v := (((x_entryAt n σ a)).toInt64)) hx hb dX0_entryOf_14 rfl ?_
    refine lv_ldc2 (v := 4294967295) hx hb hown (hts _ bX0_9) dX0_entryOf_15 ?_
    refine lv_land hx hb dX0_entryOf_18 ?_
    refine lv_goto (tgt := 25) hx hb dX0_entryOf_19 (by decide) ?_
    exact W.lret (v := ((((x_entryAt n σ a)).toInt64) &&& 4294967295)) hx hb hr (fun t ht _ => ⟨((((x_entryAt n σ a)).toInt64) &&& 4294967295), rfl, (if_neg c_1).trans rfl, ht⟩) t_nil dX0_entryOf_25
set_option maxHeartbeats 4000000 in
set_option maxRecDepth 100000 in
theorem c_x_kept (l : Launch) (dC : Nat → ClassId) (dI : Nat → Nat → Nat) (h : Nat → Nat) (cB cI : ClassId) (n : Nat) (σ : XS) (i : Int32) (k : Int32) : Met l yX0_kept wsX0_kept ({ frames := 0, cells := 0, slots := 0, locals := 0 }) (va_Pc [.ref (h 0), .int i, .int k] (x_BP dC dI h cB cI n σ)) (vp_Sl (fun r => x_kept n σ i k = r)) 0 0 (fun _ => False) := by
  refine Met.ofW (cc := cX0_kept) (maxL := 4) (ret := (some .long)) (by decide) rfl ?_
  intro p e s m args below meth c s₁ B hml hv
  obtain ⟨rfl, hP, hK⟩ := hv
  have hx := B.exec
  have hb := B.bytes
  have hr := B.returns
  have hts : ∀ w ∈ bX0, w.before _ s = true := fun w h => atoms_spec (ws := wsX0_kept) B.pre w (List.mem_cons_of_mem _ h)
  have hown : s.vm.findClass RX0 = some m.cls := findClass_of_methodNamed B.named
  have hlocks := B.notSynchronized
  have hl := lv_entry ([.ref (h 0), .int i, .int k]) (n := 4) (Nat.le_of_ble_eq_true rfl)
  rw [lg_entry_eq]
  generalize (lg_sl ([.ref (h 0), .int i, .int k]) ++ List.replicate (4 - (lg_sl ([.ref (h 0), .int i, .int k])).length) Slot.unset).toArray = ls at hl ⊢
  have hl : lv_has ls 4 [(0, .ref (h 0)), (1, .int i), (2, .int k)] := hl
  refine lv_iload_n hx hb dX0_kept_0 rfl (lv_at hl 1 rfl) ?_
  refine lv_if_lt (tgt := 19) hx hb dX0_kept_1 (by decide) (fun c_1 => ?_) (fun c_1 => ?_)
  · refine lv_ldc2 (v := (-1)) hx hb hown (hts _ bX0_10) dX0_kept_19 ?_
    exact W.lret (v := (-1)) hx hb hr (fun t ht _ => ⟨(-1), rfl, (if_pos c_1).trans rfl, ht⟩) t_nil dX0_kept_22
  · refine lv_iload_n hx hb dX0_kept_4 rfl (lv_at hl 1 rfl) ?_
    refine lv_bipush (v := 16) hx hb dX0_kept_5 (by decide) ?_
    refine lv_icmp_ge (tgt := 19) hx hb dX0_kept_7 (by decide) (fun c_2 => ?_) (fun c_2 => ?_)
    · refine lv_ldc2 (v := (-1)) hx hb hown (hts _ bX0_10) dX0_kept_19 ?_
      exact W.lret (v := (-1)) hx hb hr (fun t ht _ => ⟨(-1), rfl, (if_neg c_1).trans ((if_pos c_2).trans rfl), ht⟩) t_nil dX0_kept_22
    · refine lv_iload_n hx hb dX0_kept_10 rfl (lv_at hl 2 rfl) ?_
      refine lv_if_lt (tgt := 19) hx hb dX0_kept_11 (by decide) (fun c_3 => ?_) (fun c_3 => ?_)
      · refine lv_ldc2 (v := (-1)) hx hb hown (hts _ bX0_10) dX0_kept_19 ?_
        exact W.lret (v := (-1)) hx hb hr (fun t ht _ => ⟨(-1), rfl, (if_neg c_1).trans ((if_neg c_2).trans ((if_pos c_3).trans rfl)), ht⟩) t_nil dX0_kept_22
      · refine lv_iload_n hx hb dX0_kept_14 rfl (lv_at hl 2 rfl) ?_
        refine lv_iconst (v := 2) hx hb dX0_kept_15 (by decide) ?_
        refine lv_icmp_le (tgt := 23) hx hb dX0_kept_16 (by decide) (fun c_4 => ?_) (fun c_4 => ?_)
        · refine lv_aload_n hx hb dX0_kept_23 rfl (lv_at hl 0 rfl) ?_
          refine va_get (D := (dC, dI)) (ci := 0) (v := .ref (h 4)) (C := RX0) (T := TX0) (N := 9) hx hb hts inbX0 hown hK hP 0 rfl rfl 5 (by decide) (hts _ bX0_5) (fun _ h9 => h9) rfl dX0_kept_24 ?_
          refine lv_iload_n hx hb dX0_kept_27 rfl (lv_at hl 1 rfl) ?_
          refine va_iald hx hb hK hP 4 1 rfl rfl (x_i16 c_1 c_2) dX0_kept_28 ?_
          refine lv_iconst (v := (-1)) hx hb dX0_kept_29 (by decide) ?_
          refine lv_icmp_eq (tgt := 37) hx hb dX0_kept_30 (by decide) (fun c_5 => ?_) (fun c_5 => ?_)
          · refine lv_iconst (v := 0) hx hb dX0_kept_37 (by decide) ?_
            refine lv_istore_n (lv' := [(3, .int 0), (0, .ref (h 0)), (1, .int i), (2, .int k)]) hx hb dX0_kept_38 rfl hl (by decide) rfl (fun ls hl => ?_)
            refine lv_iload_n hx hb dX0_kept_39 rfl (lv_at hl 3 rfl) ?_
            refine lv_if_ne (tgt := 53) hx hb dX0_kept_40 (by decide) (fun c_6 => ?_) (fun c_6 => ?_)
            · refine lv_iload_n hx hb dX0_kept_53 rfl (lv_at hl 0 rfl) ?_
              refine lv_if_ne (tgt := 61) hx hb dX0_kept_54 (by decide) (fun c_7 => absurd (by decide) c_7) (fun _ => ?_)
              refine lv_ldc2 (v := (-1)) hx hb hown (hts _ bX0_10) dX0_kept_57 ?_
              exact W.lret (v := (-1)) hx hb hr (fun t ht _ => ⟨(-1), rfl, (if_neg c_1).trans ((if_neg c_2).trans ((if_neg c_3).trans ((if_pos c_4).trans ((if_pos c_5).trans ((if_neg c_6).trans rfl))))), ht⟩) t_nil dX0_kept_60
            · refine lv_iload_n hx hb dX0_kept_43 rfl (lv_at hl 0 rfl) ?_
              refine lv_if_eq (tgt := 51) hx hb dX0_kept_44 (by decide) (fun _ => ?_) (fun c_8 => absurd (by decide) c_8)
              refine lv_lconst (v := 0) hx hb dX0_kept_51 (by decide) ?_
              exact W.lret (v := 0) hx hb hr (fun t ht _ => ⟨0, rfl, (if_neg c_1).trans ((if_neg c_2).trans ((if_neg c_3).trans ((if_pos c_4).trans ((if_pos c_5).trans ((if_pos c_6).trans rfl))))), ht⟩) t_nil dX0_kept_52
          · refine lv_iconst (v := 1) hx hb dX0_kept_33 (by decide) ?_
            refine lv_goto (tgt := 38) hx hb dX0_kept_34 (by decide) ?_
            refine lv_istore_n (lv' := [(3, .int 1), (0, .ref (h 0)), (1, .int i), (2, .int k)]) hx hb dX0_kept_38 rfl hl (by decide) rfl (fun ls hl => ?_)
            refine lv_iload_n hx hb dX0_kept_39 rfl (lv_at hl 3 rfl) ?_
            refine lv_if_ne (tgt := 53) hx hb dX0_kept_40 (by decide) (fun c_9 => ?_) (fun c_9 => ?_)
            · refine lv_iload_n hx hb dX0_kept_53 rfl (lv_at hl 0 rfl) ?_
              refine lv_if_ne (tgt := 61) hx hb dX0_kept_54 (by decide) (fun _ => ?_) (fun c_10 => absurd c_10 (by decide))
              refine lv_iload_n hx hb dX0_kept_61 rfl (lv_at hl 3 rfl) ?_
              refine lv_iconst (v := 1) hx hb dX0_kept_62 (by decide) ?_
              refine lv_icmp_ne (tgt := 79) hx hb dX0_kept_63 (by decide) (fun c_11 => ?_) (fun c_11 => ?_)
              · refine lv_aload_n hx hb dX0_kept_79 rfl (lv_at hl 1 rfl) ?_
                refine va_get (D := (dC, dI)) (ci := 0) (v := .ref (h 5)) (C := RX0) (T := TX0) (N := 9) hx hb hts inbX0 hown hK hP 0 rfl rfl 6 (by decide) (hts _ bX0_6) (fun _ h9 => h9) rfl dX0_kept_80 ?_
                refine lv_iload_n hx hb dX0_kept_83 rfl (lv_at hl 2 rfl) ?_
                refine va_iald hx hb hK hP 5 1 rfl rfl (x_i16 c_1 c_2) dX0_kept_84 ?_
                refine lv_i2l (v := (((x_ke σ (i).toNatClampNeg)).toInt64)) hx hb dX0_kept_85 rfl ?_
                refine lv_ldc2 (v := 4294967295) hx hb hown (hts _ bX0_9) dX0_kept_86 ?_
                refine lv_land hx hb dX0_kept_89 ?_
                exact W.lret (v := ((((x_ke σ (i).toNatClampNeg)).toInt64) &&& 4294967295)) hx hb hr (fun t ht _ => ⟨((((x_ke σ (i).toNatClampNeg)).toInt64) &&& 4294967295), rfl, (if_neg c_1).trans ((if_neg c_2).trans ((if_neg c_3).trans ((if_pos c_4).trans ((if_neg c_5).trans ((if_neg c_9).trans ((if_neg c_11).trans rfl)))))), ht⟩) t_nil dX0_kept_90
              · refine lv_aload_n hx hb dX0_kept_66 rfl (lv_at hl 1 rfl) ?_
                refine va_get (D := (dC, dI)) (ci := 0) (v := .ref (h 4)) (C := RX0) (T := TX0) (N := 9) hx hb hts inbX0 hown hK hP 0 rfl rfl 5 (by decide) (hts _ bX0_5) (fun _ h9 => h9) rfl dX0_kept_67 ?_
                refine lv_iload_n hx hb dX0_kept_70 rfl (lv_at hl 2 rfl) ?_
                refine va_iald hx hb hK hP 4 1 rfl rfl (x_i16 c_1 c_2) dX0_kept_71 ?_
                refine lv_bipush (v := 16) hx hb dX0_kept_72 (by decide) ?_
                refine lv_imul hx hb dX0_kept_74 ?_
                refine lv_i2l (v := ((((x_kp σ (i).toNatClampNeg) * 16)).toInt64)) hx hb dX0_kept_75 rfl ?_
                refine lv_goto (tgt := 90) hx hb dX0_kept_76 (by decide) ?_
                exact W.lret (v := ((((x_kp σ (i).toNatClampNeg) * 16)).toInt64)) hx hb hr (fun t ht _ => ⟨((((x_kp σ (i).toNatClampNeg) * 16)).toInt64), rfl, (if_neg c_1).trans ((if_neg c_2).trans ((if_neg c_3).trans ((if_pos c_4).trans ((if_neg c_5).trans ((if_neg c_9).trans ((if_pos c_11).trans rfl)))))), ht⟩) t_nil dX0_kept_90
            · refine lv_iload_n hx hb dX0_kept_43 rfl (lv_at hl 0 rfl) ?_
              refine lv_if_eq (tgt := 51) hx hb dX0_kept_44 (by decide) (fun c_12 => absurd c_12 (by decide)) (fun _ => ?_)
              refine lv_lconst (v := 1) hx hb dX0_kept_47 (by decide) ?_
              refine lv_goto (tgt := 52) hx hb dX0_kept_48 (by decide) ?_
              exact W.lret (v := 1) hx hb hr (fun t ht _ => ⟨1, rfl, (if_neg c_1).trans ((if_neg c_2).trans ((if_neg c_3).trans ((if_pos c_4).trans ((if_neg c_5).trans ((if_pos c_9).trans rfl))))), ht⟩) t_nil dX0_kept_52
        · refine lv_ldc2 (v := (-1)) hx hb hown (hts _ bX0_10) dX0_kept_19 ?_
          exact W.lret (v := (-1)) hx hb hr (fun t ht _ => ⟨(-1), rfl, (if_neg c_1).trans ((if_neg c_2).trans ((if_neg c_3).trans ((if_neg c_4).trans rfl))), ht⟩) t_nil dX0_kept_22
set_option maxHeartbeats 4000000 in
set_option maxRecDepth 100000 in
theorem c_x_failed (l : Launch) (dC : Nat → ClassId) (dI : Nat → Nat → Nat) (h : Nat → Nat) (cB cI : ClassId) (n : Nat) (σ : XS)  : Met l yX0_failed wsX0_failed ({ frames := 0, cells := 0, slots := 0, locals := 0 }) (va_Pc [.ref (h 0)] (x_BP dC dI h cB cI n σ)) (vp_Si (fun r => x_failed n σ = r)) 0 0 (fun _ => False) := by
  refine Met.ofW (cc := cX0_failed) (maxL := 1) (ret := (some .int)) (by decide) rfl ?_
  intro p e s m args below meth c s₁ B hml hv
  obtain ⟨rfl, hP, hK⟩ := hv
  have hx := B.exec
  have hb := B.bytes
  have hr := B.returns
  have hts : ∀ w ∈ bX0, w.before _ s = true := fun w h => atoms_spec (ws := wsX0_failed) B.pre w (List.mem_cons_of_mem _ h)
  have hown : s.vm.findClass RX0 = some m.cls := findClass_of_methodNamed B.named
  have hlocks := B.notSynchronized
  have hl := lv_entry ([.ref (h 0)]) (n := 1) (Nat.le_of_ble_eq_true rfl)
  rw [lg_entry_eq]
  generalize (lg_sl ([.ref (h 0)]) ++ List.replicate (1 - (lg_sl ([.ref (h 0)])).length) Slot.unset).toArray = ls at hl ⊢
  have hl : lv_has ls 1 [(0, .ref (h 0))] := hl
  refine lv_aload_n hx hb dX0_failed_0 rfl (lv_at hl 0 rfl) ?_
  refine va_get (D := (dC, dI)) (ci := 0) (v := .int (x_fa σ)) (C := RX0) (T := TX0) (N := 9) hx hb hts inbX0 hown hK hP 0 rfl rfl 4 (by decide) (hts _ bX0_4) (fun _ h9 => h9) rfl dX0_failed_1 ?_
  exact W.iret (v := (x_fa σ)) hx hb hr (fun t ht _ => ⟨(x_fa σ), rfl, rfl, ht⟩) t_nil dX0_failed_4
