set_option maxHeartbeats 8000000 in
set_option maxRecDepth 100000 in
theorem law_put {p : Program} {l : Launch} {e : Env} {s : State} {m : MethodId} {below : List Frame} {meth : Method} {c : Code} {dC : Nat → ClassId} {dI : Nat → Nat → Nat} {b L : Nat} {xs : Nat → Int32} (hL : L ≤ 2561) (C0 : lw_At p s m meth c b L xs) {h g : Nat → Nat} {cB cI cM : ClassId} {n tw tr : Nat} (hn : n ≤ 2048) (hK : va_K (dC, dI) vwCl (lw_tys cB cI cM) s) (hST : x_ST tw tr (lw_A s) s s.heap) {σ : XS} {μ : MS} {H : Heap} {locs : List Loc} {ls : Array Slot} {i : Int32} {j : Nat} (ei : i = nI j) (hfit : j + 5 ≤ L) (hR : sR n σ μ) (hP : va_P (dC, dI) vwCl (lw_ws h cB cI g cM n σ μ) H) (hD : va_D (lw_A s) (lw_ws h cB cI g cM n σ μ)) (hS : va_S (lw_A s) s.heap H locs) (hl : lv_has ls 4 [(0, .ref b), (1, .ref (h 0)), (2, .ref (g 0)), (3, .int i)]) (kk : ∀ (σ : XS) (μ : MS) (H : Heap) (locs : List Loc) (ls : Array Slot), sR n σ μ → va_P (dC, dI) vwCl (lw_ws h cB cI g cM n σ μ) H → va_D (lw_A s) (lw_ws h cB cI g cM n σ μ) → va_S (lw_A s) s.heap H locs → lv_has ls 4 [(0, .ref b), (1, .ref (h 0)), (2, .ref (g 0)), (3, .int i)] → W p l e room_1 s m #[Value.ref b] below meth c H locs 18 4267 (lw_Z below #[Value.ref b] s) (F0 m 559 ls [])) : W p l e room_1 s m #[Value.ref b] below meth c H locs 18 4267 (lw_Z below #[Value.ref b] s) (F0 m 104 ls []) := by
  obtain ⟨hx, hb, hr, hml, hown0, hts, hX, hbl, hlocks, hgv⟩ := C0
  have hown : s.vm.findClass RL = some m.cls := hown0
  have hA : ∀ q : Nat, s.heap.size ≤ q → (lw_A s) q := fun _ h => h
  have hbA : ¬ (lw_A s) b := Nat.not_le.mpr hbl
  refine lv_aload_n hx hb dL_law_104 rfl (lv_at hl 1 rfl) ?_
  refine lv_aload_n hx hb dL_law_105 rfl (lv_at hl 0 rfl) ?_
  refine lv_iload_n hx hb dL_law_106 rfl (lv_at hl 3 rfl) ?_
  refine lv_iconst (v := 1) hx hb dL_law_107 (by decide) ?_
  refine lv_iadd hx hb dL_law_108 ?_
  refine va_sld hx hb hX hbl hbA hS (lw_ix (k := 1) ei hL hfit (by decide)) dL_law_109 ?_
  refine lv_aload_n hx hb dL_law_110 rfl (lv_at hl 0 rfl) ?_
  refine lv_iload_n hx hb dL_law_111 rfl (lv_at hl 3 rfl) ?_
  refine lv_iconst (v := 2) hx hb dL_law_112 (by decide) ?_
  refine lv_iadd hx hb dL_law_113 ?_
  refine va_sld hx hb hX hbl hbA hS (lw_ix (k := 2) ei hL hfit (by decide)) dL_law_114 ?_
  refine lw_xcalli (f := x_put n σ (xs ((i + 1)).toNatClampNeg) (xs ((i + 2)).toNatClampNeg)) (va_runV (C := RX0) (As := [.int (xs ((i + 1)).toNatClampNeg), .int (xs ((i + 2)).toNatClampNeg)]) (rest := []) ⟨hx, hb, hml, hown, hts⟩ (c_x_put l dC dI h cB cI n _ σ (xs ((i + 1)).toNatClampNeg) (xs ((i + 2)).toNatClampNeg) hn) (cwV 2 hts gL_X0_put rfl rfl rfl (by decide +kernel) ⟨Nat.le_of_ble_eq_true rfl, Nat.le_of_ble_eq_true rfl⟩) (x_preM (lw_xK hK) (lw_xP hP) (lw_xD hD)) rfl rfl hl.1 rfl (lv_room (Nat.le_of_ble_eq_true rfl)) dL_law_115 ⟨Nat.le_of_ble_eq_true rfl, Nat.le_of_ble_eq_true rfl⟩) hP hD hS hA (fun r_3 u_1 H locs e_2 hP hD hS => ?_)
  refine lv_aload_n hx hb dL_law_118 rfl (lv_at hl 2 rfl) ?_
  refine lv_aload_n hx hb dL_law_119 rfl (lv_at hl 0 rfl) ?_
  refine lv_iload_n hx hb dL_law_120 rfl (lv_at hl 3 rfl) ?_
  refine lv_iconst (v := 1) hx hb dL_law_121 (by decide) ?_
  refine lv_iadd hx hb dL_law_122 ?_
  refine va_sld hx hb hX hbl hbA hS (lw_ix (k := 1) ei hL hfit (by decide)) dL_law_123 ?_
  refine lv_aload_n hx hb dL_law_124 rfl (lv_at hl 0 rfl) ?_
  refine lv_iload_n hx hb dL_law_125 rfl (lv_at hl 3 rfl) ?_
  refine lv_iconst (v := 2) hx hb dL_law_126 (by decide) ?_
  refine lv_iadd hx hb dL_law_127 ?_
  refine va_sld hx hb hX hbl hbA hS (lw_ix (k := 2) ei hL hfit (by decide)) dL_law_128 ?_
  refine lw_mcalli (f := m_put n μ (xs ((i + 1)).toNatClampNeg) (xs ((i + 2)).toNatClampNeg)) (va_runV (C := RX1) (As := [.int (xs ((i + 1)).toNatClampNeg), .int (xs ((i + 2)).toNatClampNeg)]) (rest := [.int r_3]) ⟨hx, hb, hml, hown, hts⟩ (c_m_put l dC dI g cM n _ μ (xs ((i + 1)).toNatClampNeg) (xs ((i + 2)).toNatClampNeg) hn) (cwV 2 hts gL_X1_put rfl rfl rfl (by decide +kernel) ⟨Nat.le_of_ble_eq_true rfl, Nat.le_of_ble_eq_true rfl⟩) (m_preM (lw_mK hK) (lw_mP hP) (lw_mD hD)) rfl rfl hl.1 rfl (lv_room (Nat.le_of_ble_eq_true rfl)) dL_law_129 ⟨Nat.le_of_ble_eq_true rfl, Nat.le_of_ble_eq_true rfl⟩) hP hD hS hA (fun r_6 u_4 H locs e_5 hP hD hS => ?_)
  obtain ⟨er, hR2⟩ := s_put hn hR e_2 e_5
  refine lv_icmp_eq (tgt := 559) hx hb dL_law_132 (by decide) (fun _ => ?_) (fun c_7 => absurd er c_7)
  exact kk u_1 u_4 H locs ls hR2 hP hD hS (lv_sub hl [0, 1, 2, 3] rfl)
set_option maxHeartbeats 8000000 in
set_option maxRecDepth 100000 in
theorem law_entry {p : Program} {l : Launch} {e : Env} {s : State} {m : MethodId} {below : List Frame} {meth : Method} {c : Code} {dC : Nat → ClassId} {dI : Nat → Nat → Nat} {b L : Nat} {xs : Nat → Int32} (hL : L ≤ 2561) (C0 : lw_At p s m meth c b L xs) {h g : Nat → Nat} {cB cI cM : ClassId} {n tw tr : Nat} (hn : n ≤ 2048) (hK : va_K (dC, dI) vwCl (lw_tys cB cI cM) s) (hST : x_ST tw tr (lw_A s) s s.heap) {σ : XS} {μ : MS} {H : Heap} {locs : List Loc} {ls : Array Slot} {i : Int32} {j : Nat} (ei : i = nI j) (hfit : j + 5 ≤ L) (hR : sR n σ μ) (hP : va_P (dC, dI) vwCl (lw_ws h cB cI g cM n σ μ) H) (hD : va_D (lw_A s) (lw_ws h cB cI g cM n σ μ)) (hS : va_S (lw_A s) s.heap H locs) (hl : lv_has ls 4 [(0, .ref b), (1, .ref (h 0)), (2, .ref (g 0)), (3, .int i)]) (kk : ∀ (σ : XS) (μ : MS) (H : Heap) (locs : List Loc) (ls : Array Slot), sR n σ μ → va_P (dC, dI) vwCl (lw_ws h cB cI g cM n σ μ) H → va_D (lw_A s) (lw_ws h cB cI g cM n σ μ) → va_S (lw_A s) s.heap H locs → lv_has ls 4 [(0, .ref b), (1, .ref (h 0)), (2, .ref (g 0)), (3, .int i)] → W p l e room_1 s m #[Value.ref b] below meth c H locs 18 4267 (lw_Z below #[Value.ref b] s) (F0 m 559 ls [])) : W p l e room_1 s m #[Value.ref b] below meth c H locs 18 4267 (lw_Z below #[Value.ref b] s) (F0 m 137 ls []) := by
  obtain ⟨hx, hb, hr, hml, hown0, hts, hX, hbl, hlocks, hgv⟩ := C0
  have hown : s.vm.findClass RL = some m.cls := hown0
  have hA : ∀ q : Nat, s.heap.size ≤ q → (lw_A s) q := fun _ h => h
  have hbA : ¬ (lw_A s) b := Nat.not_le.mpr hbl
  refine lv_aload_n hx hb dL_law_137 rfl (lv_at hl 1 rfl) ?_
  refine lv_aload_n hx hb dL_law_138 rfl (lv_at hl 0 rfl) ?_
  refine lv_iload_n hx hb dL_law_139 rfl (lv_at hl 3 rfl) ?_
  refine lv_iconst (v := 1) hx hb dL_law_140 (by decide) ?_
  refine lv_iadd hx hb dL_law_141 ?_
  refine va_sld hx hb hX hbl hbA hS (lw_ix (k := 1) ei hL hfit (by decide)) dL_law_142 ?_
  refine lv_aload_n hx hb dL_law_143 rfl (lv_at hl 0 rfl) ?_
  refine lv_iload_n hx hb dL_law_144 rfl (lv_at hl 3 rfl) ?_
  refine lv_iconst (v := 2) hx hb dL_law_145 (by decide) ?_
  refine lv_iadd hx hb dL_law_146 ?_
  refine va_sld hx hb hX hbl hbA hS (lw_ix (k := 2) ei hL hfit (by decide)) dL_law_147 ?_
  refine lw_xcalli (f := x_entry n σ (xs ((i + 1)).toNatClampNeg) (xs ((i + 2)).toNatClampNeg)) (va_runV (C := RX0) (As := [.int (xs ((i + 1)).toNatClampNeg), .int (xs ((i + 2)).toNatClampNeg)]) (rest := []) ⟨hx, hb, hml, hown, hts⟩ (c_x_entry l dC dI h cB cI n _ σ (xs ((i + 1)).toNatClampNeg) (xs ((i + 2)).toNatClampNeg) hn) (cwV 2 hts gL_X0_entry rfl rfl rfl (by decide +kernel) ⟨Nat.le_of_ble_eq_true rfl, Nat.le_of_ble_eq_true rfl⟩) (x_preM (lw_xK hK) (lw_xP hP) (lw_xD hD)) rfl rfl hl.1 rfl (lv_room (Nat.le_of_ble_eq_true rfl)) dL_law_148 ⟨Nat.le_of_ble_eq_true rfl, Nat.le_of_ble_eq_true rfl⟩) hP hD hS hA (fun r_3 u_1 H locs e_2 hP hD hS => ?_)
  refine lv_aload_n hx hb dL_law_151 rfl (lv_at hl 2 rfl) ?_
  refine lv_aload_n hx hb dL_law_152 rfl (lv_at hl 0 rfl) ?_
  refine lv_iload_n hx hb dL_law_153 rfl (lv_at hl 3 rfl) ?_
  refine lv_iconst (v := 1) hx hb dL_law_154 (by decide) ?_
  refine lv_iadd hx hb dL_law_155 ?_
  refine va_sld hx hb hX hbl hbA hS (lw_ix (k := 1) ei hL hfit (by decide)) dL_law_156 ?_
  refine lv_aload_n hx hb dL_law_157 rfl (lv_at hl 0 rfl) ?_
  refine lv_iload_n hx hb dL_law_158 rfl (lv_at hl 3 rfl) ?_
  refine lv_iconst (v := 2) hx hb dL_law_159 (by decide) ?_
  refine lv_iadd hx hb dL_law_160 ?_
  refine va_sld hx hb hX hbl hbA hS (lw_ix (k := 2) ei hL hfit (by decide)) dL_law_161 ?_
  refine lw_mcalli (f := m_entry n μ (xs ((i + 1)).toNatClampNeg) (xs ((i + 2)).toNatClampNeg)) (va_runV (C := RX1) (As := [.int (xs ((i + 1)).toNatClampNeg), .int (xs ((i + 2)).toNatClampNeg)]) (rest := [.int r_3]) ⟨hx, hb, hml, hown, hts⟩ (c_m_entry l dC dI g cM n _ μ (xs ((i + 1)).toNatClampNeg) (xs ((i + 2)).toNatClampNeg) hn) (cwV 2 hts gL_X1_entry rfl rfl rfl (by decide +kernel) ⟨Nat.le_of_ble_eq_true rfl, Nat.le_of_ble_eq_true rfl⟩) (m_preM (lw_mK hK) (lw_mP hP) (lw_mD hD)) rfl rfl hl.1 rfl (lv_room (Nat.le_of_ble_eq_true rfl)) dL_law_162 ⟨Nat.le_of_ble_eq_true rfl, Nat.le_of_ble_eq_true rfl⟩) hP hD hS hA (fun r_6 u_4 H locs e_5 hP hD hS => ?_)
  obtain ⟨er, hR2⟩ := s_entry hn hR e_2 e_5
  refine lv_icmp_eq (tgt := 559) hx hb dL_law_165 (by decide) (fun _ => ?_) (fun c_7 => absurd er c_7)
  exact kk u_1 u_4 H locs ls hR2 hP hD hS (lv_sub hl [0, 1, 2, 3] rfl)
set_option maxHeartbeats 8000000 in
set_option maxRecDepth 100000 in
theorem law_entryOf {p : Program} {l : Launch} {e : Env} {s : State} {m : MethodId} {below : List Frame} {meth : Method} {c : Code} {dC : Nat → ClassId} {dI : Nat → Nat → Nat} {b L : Nat} {xs : Nat → Int32} (hL : L ≤ 2561) (C0 : lw_At p s m meth c b L xs) {h g : Nat → Nat} {cB cI cM : ClassId} {n tw tr : Nat} (hn : n ≤ 2048) (hK : va_K (dC, dI) vwCl (lw_tys cB cI cM) s) (hST : x_ST tw tr (lw_A s) s s.heap) {σ : XS} {μ : MS} {H : Heap} {locs : List Loc} {ls : Array Slot} {i : Int32} {j : Nat} (ei : i = nI j) (hfit : j + 5 ≤ L) (hR : sR n σ μ) (hP : va_P (dC, dI) vwCl (lw_ws h cB cI g cM n σ μ) H) (hD : va_D (lw_A s) (lw_ws h cB cI g cM n σ μ)) (hS : va_S (lw_A s) s.heap H locs) (hl : lv_has ls 4 [(0, .ref b), (1, .ref (h 0)), (2, .ref (g 0)), (3, .int i)]) (kk : ∀ (σ : XS) (μ : MS) (H : Heap) (locs : List Loc) (ls : Array Slot), sR n σ μ → va_P (dC, dI) vwCl (lw_ws h cB cI g cM n σ μ) H → va_D (lw_A s) (lw_ws h cB cI g cM n σ μ) → va_S (lw_A s) s.heap H locs → lv_has ls 4 [(0, .ref b), (1, .ref (h 0)), (2, .ref (g 0)), (3, .int i)] → W p l e room_1 s m #[Value.ref b] below meth c H locs 18 4267 (lw_Z below #[Value.ref b] s) (F0 m 559 ls [])) : W p l e room_1 s m #[Value.ref b] below meth c H locs 18 4267 (lw_Z below #[Value.ref b] s) (F0 m 170 ls []) := by
  obtain ⟨hx, hb, hr, hml, hown0, hts, hX, hbl, hlocks, hgv⟩ := C0
  have hown : s.vm.findClass RL = some m.cls := hown0
  have hA : ∀ q : Nat, s.heap.size ≤ q → (lw_A s) q := fun _ h => h
  have hbA : ¬ (lw_A s) b := Nat.not_le.mpr hbl
  refine lv_aload_n hx hb dL_law_170 rfl (lv_at hl 1 rfl) ?_
  refine lv_aload_n hx hb dL_law_171 rfl (lv_at hl 0 rfl) ?_
  refine lv_iload_n hx hb dL_law_172 rfl (lv_at hl 3 rfl) ?_
  refine lv_iconst (v := 1) hx hb dL_law_173 (by decide) ?_
  refine lv_iadd hx hb dL_law_174 ?_
  refine va_sld hx hb hX hbl hbA hS (lw_ix (k := 1) ei hL hfit (by decide)) dL_law_175 ?_
  refine vp_callSl (W.runV (C := RX0) (As := [.int (xs ((i + 1)).toNatClampNeg)]) (rest := []) ⟨hx, hb, hml, hown, hts⟩ (c_x_entryOf l dC dI h cB cI n σ (xs ((i + 1)).toNatClampNeg) hn) (cwV 1 hts gL_X0_entryOf rfl rfl rfl (by decide +kernel) ⟨Nat.le_of_ble_eq_true rfl, Nat.le_of_ble_eq_true rfl⟩) (x_preP (lw_xK hK) (lw_xP hP)) rfl rfl hl.1 rfl (lv_room (Nat.le_of_ble_eq_true rfl)) dL_law_176 ⟨Nat.le_of_ble_eq_true rfl, Nat.le_of_ble_eq_true rfl⟩) (fun r er => ?_)
  subst er
  refine lv_aload_n hx hb dL_law_179 rfl (lv_at hl 2 rfl) ?_
  refine lv_aload_n hx hb dL_law_180 rfl (lv_at hl 0 rfl) ?_
  refine lv_iload_n hx hb dL_law_181 rfl (lv_at hl 3 rfl) ?_
  refine lv_iconst (v := 1) hx hb dL_law_182 (by decide) ?_
  refine lv_iadd hx hb dL_law_183 ?_
  refine va_sld hx hb hX hbl hbA hS (lw_ix (k := 1) ei hL hfit (by decide)) dL_law_184 ?_
  refine vp_callSl (W.runV (C := RX1) (As := [.int (xs ((i + 1)).toNatClampNeg)]) (rest := [.long (x_entryOf n σ (xs ((i + 1)).toNatClampNeg))]) ⟨hx, hb, hml, hown, hts⟩ (c_m_entryOf l dC dI g cM n μ (xs ((i + 1)).toNatClampNeg) hn) (cwV 1 hts gL_X1_entryOf rfl rfl rfl (by decide +kernel) ⟨Nat.le_of_ble_eq_true rfl, Nat.le_of_ble_eq_true rfl⟩) (m_preP (lw_mK hK) (lw_mP hP)) rfl rfl hl.1 rfl (lv_room (Nat.le_of_ble_eq_true rfl)) dL_law_185 ⟨Nat.le_of_ble_eq_true rfl, Nat.le_of_ble_eq_true rfl⟩) (fun r er => ?_)
  subst er
  refine W.lcmp hx hb dL_law_188 ?_
  have er := s_entryOf hn hR (a := (xs ((i + 1)).toNatClampNeg))
  refine lv_if_eq (tgt := 559) hx hb dL_law_189 (by decide) (fun _ => ?_) (fun c_1 => absurd (lg_eq er) c_1)
  exact kk σ μ H locs ls hR hP hD hS (lv_sub hl [0, 1, 2, 3] rfl)
set_option maxHeartbeats 8000000 in
set_option maxRecDepth 100000 in
theorem law_region {p : Program} {l : Launch} {e : Env} {s : State} {m : MethodId} {below : List Frame} {meth : Method} {c : Code} {dC : Nat → ClassId} {dI : Nat → Nat → Nat} {b L : Nat} {xs : Nat → Int32} (hL : L ≤ 2561) (C0 : lw_At p s m meth c b L xs) {h g : Nat → Nat} {cB cI cM : ClassId} {n tw tr : Nat} (hn : n ≤ 2048) (hK : va_K (dC, dI) vwCl (lw_tys cB cI cM) s) (hST : x_ST tw tr (lw_A s) s s.heap) {σ : XS} {μ : MS} {H : Heap} {locs : List Loc} {ls : Array Slot} {i : Int32} {j : Nat} (ei : i = nI j) (hfit : j + 5 ≤ L) (hR : sR n σ μ) (hP : va_P (dC, dI) vwCl (lw_ws h cB cI g cM n σ μ) H) (hD : va_D (lw_A s) (lw_ws h cB cI g cM n σ μ)) (hS : va_S (lw_A s) s.heap H locs) (hl : lv_has ls 4 [(0, .ref b), (1, .ref (h 0)), (2, .ref (g 0)), (3, .int i)]) (kk : ∀ (σ : XS) (μ : MS) (H : Heap) (locs : List Loc) (ls : Array Slot), sR n σ μ → va_P (dC, dI) vwCl (lw_ws h cB cI g cM n σ μ) H → va_D (lw_A s) (lw_ws h cB cI g cM n σ μ) → va_S (lw_A s) s.heap H locs → lv_has ls 4 [(0, .ref b), (1, .ref (h 0)), (2, .ref (g 0)), (3, .int i)] → W p l e room_1 s m #[Value.ref b] below meth c H locs 18 4267 (lw_Z below #[Value.ref b] s) (F0 m 559 ls [])) : W p l e room_1 s m #[Value.ref b] below meth c H locs 18 4267 (lw_Z below #[Value.ref b] s) (F0 m 194 ls []) := by
  obtain ⟨hx, hb, hr, hml, hown0, hts, hX, hbl, hlocks, hgv⟩ := C0
  have hown : s.vm.findClass RL = some m.cls := hown0
  have hA : ∀ q : Nat, s.heap.size ≤ q → (lw_A s) q := fun _ h => h
  have hbA : ¬ (lw_A s) b := Nat.not_le.mpr hbl
  refine lv_aload_n hx hb dL_law_194 rfl (lv_at hl 1 rfl) ?_
  refine lv_aload_n hx hb dL_law_195 rfl (lv_at hl 0 rfl) ?_
  refine lv_iload_n hx hb dL_law_196 rfl (lv_at hl 3 rfl) ?_
  refine lv_iconst (v := 1) hx hb dL_law_197 (by decide) ?_
  refine lv_iadd hx hb dL_law_198 ?_
  refine va_sld hx hb hX hbl hbA hS (lw_ix (k := 1) ei hL hfit (by decide)) dL_law_199 ?_
  refine lv_aload_n hx hb dL_law_200 rfl (lv_at hl 0 rfl) ?_
  refine lv_iload_n hx hb dL_law_201 rfl (lv_at hl 3 rfl) ?_
  refine lv_iconst (v := 2) hx hb dL_law_202 (by decide) ?_
  refine lv_iadd hx hb dL_law_203 ?_
  refine va_sld hx hb hX hbl hbA hS (lw_ix (k := 2) ei hL hfit (by decide)) dL_law_204 ?_
  refine lv_aload_n hx hb dL_law_205 rfl (lv_at hl 0 rfl) ?_
  refine lv_iload_n hx hb dL_law_206 rfl (lv_at hl 3 rfl) ?_
  refine lv_iconst (v := 3) hx hb dL_law_207 (by decide) ?_
  refine lv_iadd hx hb dL_law_208 ?_
  refine va_sld hx hb hX hbl hbA hS (lw_ix (k := 3) ei hL hfit (by decide)) dL_law_209 ?_
  refine lw_xcalli (f := x_region n σ (xs ((i + 1)).toNatClampNeg) (xs ((i + 2)).toNatClampNeg) (xs ((i + 3)).toNatClampNeg)) (va_runV (C := RX0) (As := [.int (xs ((i + 1)).toNatClampNeg), .int (xs ((i + 2)).toNatClampNeg), .int (xs ((i + 3)).toNatClampNeg)]) (rest := []) ⟨hx, hb, hml, hown, hts⟩ (c_x_region l dC dI h cB cI n _ σ (xs ((i + 1)).toNatClampNeg) (xs ((i + 2)).toNatClampNeg) (xs ((i + 3)).toNatClampNeg) ) (cwV 3 hts gL_X0_region rfl rfl rfl (by decide +kernel) ⟨Nat.le_of_ble_eq_true rfl, Nat.le_of_ble_eq_true rfl⟩) (x_preM (lw_xK hK) (lw_xP hP) (lw_xD hD)) rfl rfl hl.1 rfl (lv_room (Nat.le_of_ble_eq_true rfl)) dL_law_210 ⟨Nat.le_of_ble_eq_true rfl, Nat.le_of_ble_eq_true rfl⟩) hP hD hS hA (fun r_3 u_1 H locs e_2 hP hD hS => ?_)
  refine lv_aload_n hx hb dL_law_213 rfl (lv_at hl 2 rfl) ?_
  refine lv_aload_n hx hb dL_law_214 rfl (lv_at hl 0 rfl) ?_
  refine lv_iload_n hx hb dL_law_215 rfl (lv_at hl 3 rfl) ?_
  refine lv_iconst (v := 1) hx hb dL_law_216 (by decide) ?_
  refine lv_iadd hx hb dL_law_217 ?_
  refine va_sld hx hb hX hbl hbA hS (lw_ix (k := 1) ei hL hfit (by decide)) dL_law_218 ?_
  refine lv_aload_n hx hb dL_law_219 rfl (lv_at hl 0 rfl) ?_
  refine lv_iload_n hx hb dL_law_220 rfl (lv_at hl 3 rfl) ?_
  refine lv_iconst (v := 2) hx hb dL_law_221 (by decide) ?_
  refine lv_iadd hx hb dL_law_222 ?_
  refine va_sld hx hb hX hbl hbA hS (lw_ix (k := 2) ei hL hfit (by decide)) dL_law_223 ?_
  refine lv_aload_n hx hb dL_law_224 rfl (lv_at hl 0 rfl) ?_
  refine lv_iload_n hx hb dL_law_225 rfl (lv_at hl 3 rfl) ?_
  refine lv_iconst (v := 3) hx hb dL_law_226 (by decide) ?_
  refine lv_iadd hx hb dL_law_227 ?_
  refine va_sld hx hb hX hbl hbA hS (lw_ix (k := 3) ei hL hfit (by decide)) dL_law_228 ?_
  refine lw_mcalli (f := m_region n μ (xs ((i + 1)).toNatClampNeg) (xs ((i + 2)).toNatClampNeg) (xs ((i + 3)).toNatClampNeg)) (va_runV (C := RX1) (As := [.int (xs ((i + 1)).toNatClampNeg), .int (xs ((i + 2)).toNatClampNeg), .int (xs ((i + 3)).toNatClampNeg)]) (rest := [.int r_3]) ⟨hx, hb, hml, hown, hts⟩ (c_m_region l dC dI g cM n _ μ (xs ((i + 1)).toNatClampNeg) (xs ((i + 2)).toNatClampNeg) (xs ((i + 3)).toNatClampNeg) ) (cwV 3 hts gL_X1_region rfl rfl rfl (by decide +kernel) ⟨Nat.le_of_ble_eq_true rfl, Nat.le_of_ble_eq_true rfl⟩) (m_preM (lw_mK hK) (lw_mP hP) (lw_mD hD)) rfl rfl hl.1 rfl (lv_room (Nat.le_of_ble_eq_true rfl)) dL_law_229 ⟨Nat.le_of_ble_eq_true rfl, Nat.le_of_ble_eq_true rfl⟩) hP hD hS hA (fun r_6 u_4 H locs e_5 hP hD hS => ?_)
  obtain ⟨er, hR2⟩ := s_region hn hR e_2 e_5
  refine lv_icmp_eq (tgt := 559) hx hb dL_law_232 (by decide) (fun _ => ?_) (fun c_7 => absurd er c_7)
  exact kk u_1 u_4 H locs ls hR2 hP hD hS (lv_sub hl [0, 1, 2, 3] rfl)
set_option maxHeartbeats 8000000 in
set_option maxRecDepth 100000 in
theorem law_map {p : Program} {l : Launch} {e : Env} {s : State} {m : MethodId} {below : List Frame} {meth : Method} {c : Code} {dC : Nat → ClassId} {dI : Nat → Nat → Nat} {b L : Nat} {xs : Nat → Int32} (hL : L ≤ 2561) (C0 : lw_At p s m meth c b L xs) {h g : Nat → Nat} {cB cI cM : ClassId} {n tw tr : Nat} (hn : n ≤ 2048) (hK : va_K (dC, dI) vwCl (lw_tys cB cI cM) s) (hST : x_ST tw tr (lw_A s) s s.heap) {σ : XS} {μ : MS} {H : Heap} {locs : List Loc} {ls : Array Slot} {i : Int32} {j : Nat} (ei : i = nI j) (hfit : j + 5 ≤ L) (hR : sR n σ μ) (hP : va_P (dC, dI) vwCl (lw_ws h cB cI g cM n σ μ) H) (hD : va_D (lw_A s) (lw_ws h cB cI g cM n σ μ)) (hS : va_S (lw_A s) s.heap H locs) (hl : lv_has ls 4 [(0, .ref b), (1, .ref (h 0)), (2, .ref (g 0)), (3, .int i)]) (kk : ∀ (σ : XS) (μ : MS) (H : Heap) (locs : List Loc) (ls : Array Slot), sR n σ μ → va_P (dC, dI) vwCl (lw_ws h cB cI g cM n σ μ) H → va_D (lw_A s) (lw_ws h cB cI g cM n σ μ) → va_S (lw_A s) s.heap H locs → lv_has ls 4 [(0, .ref b), (1, .ref (h 0)), (2, .ref (g 0)), (3, .int i)] → W p l e room_1 s m #[Value.ref b] below meth c H locs 18 4267 (lw_Z below #[Value.ref b] s) (F0 m 559 ls [])) : W p l e room_1 s m #[Value.ref b] below meth c H locs 18 4267 (lw_Z below #[Value.ref b] s) (F0 m 237 ls []) := by
  obtain ⟨hx, hb, hr, hml, hown0, hts, hX, hbl, hlocks, hgv⟩ := C0
  have hown : s.vm.findClass RL = some m.cls := hown0
  have hA : ∀ q : Nat, s.heap.size ≤ q → (lw_A s) q := fun _ h => h
  have hbA : ¬ (lw_A s) b := Nat.not_le.mpr hbl
  refine lv_aload_n hx hb dL_law_237 rfl (lv_at hl 1 rfl) ?_
  refine lv_aload_n hx hb dL_law_238 rfl (lv_at hl 0 rfl) ?_
  refine lv_iload_n hx hb dL_law_239 rfl (lv_at hl 3 rfl) ?_
  refine lv_iconst (v := 1) hx hb dL_law_240 (by decide) ?_
  refine lv_iadd hx hb dL_law_241 ?_
  refine va_sld hx hb hX hbl hbA hS (lw_ix (k := 1) ei hL hfit (by decide)) dL_law_242 ?_
  refine lv_if_eq (tgt := 250) hx hb dL_law_243 (by decide) (fun c_1 => ?_) (fun c_1 => ?_)
  · refine lv_iconst (v := 0) hx hb dL_law_250 (by decide) ?_
    refine lw_xcallv (f := x_map n σ 0) (va_runV (C := RX0) (As := [.int 0]) (rest := []) ⟨hx, hb, hml, hown, hts⟩ (c_x_map l dC dI h cB cI n _ σ 0 (Or.inl rfl)) (cwV 1 hts gL_X0_map rfl rfl rfl (by decide +kernel) ⟨Nat.le_of_ble_eq_true rfl, Nat.le_of_ble_eq_true rfl⟩) (x_preM (lw_xK hK) (lw_xP hP) (lw_xD hD)) rfl rfl hl.1 rfl (lv_room (Nat.le_of_ble_eq_true rfl)) dL_law_251 ⟨Nat.le_of_ble_eq_true rfl, Nat.le_of_ble_eq_true rfl⟩) hP hD hS hA (fun u_2 H locs e_3 hP hD hS => ?_)
    refine lv_aload_n hx hb dL_law_254 rfl (lv_at hl 2 rfl) ?_
    refine lv_aload_n hx hb dL_law_255 rfl (lv_at hl 0 rfl) ?_
    refine lv_iload_n hx hb dL_law_256 rfl (lv_at hl 3 rfl) ?_
    refine lv_iconst (v := 1) hx hb dL_law_257 (by decide) ?_
    refine lv_iadd hx hb dL_law_258 ?_
    refine va_sld hx hb hX hbl hbA hS (lw_ix (k := 1) ei hL hfit (by decide)) dL_law_259 ?_
    refine lv_if_eq (tgt := 267) hx hb dL_law_260 (by decide) (fun _ => ?_) (fun c_4 => absurd c_1 c_4)
    refine lv_iconst (v := 0) hx hb dL_law_267 (by decide) ?_
    refine lw_mcallv (f := m_map n μ 0) (va_runV (C := RX1) (As := [.int 0]) (rest := []) ⟨hx, hb, hml, hown, hts⟩ (c_m_map l dC dI g cM n _ μ 0 (Or.inl rfl)) (cwV 1 hts gL_X1_map rfl rfl rfl (by decide +kernel) ⟨Nat.le_of_ble_eq_true rfl, Nat.le_of_ble_eq_true rfl⟩) (m_preM (lw_mK hK) (lw_mP hP) (lw_mD hD)) rfl rfl hl.1 rfl (lv_room (Nat.le_of_ble_eq_true rfl)) dL_law_268 ⟨Nat.le_of_ble_eq_true rfl, Nat.le_of_ble_eq_true rfl⟩) hP hD hS hA (fun u_5 H locs e_6 hP hD hS => ?_)
    refine lv_goto (tgt := 559) hx hb dL_law_271 (by decide) ?_
    have hR2 := s_map hn hR e_3 e_6
    exact kk u_2 u_5 H locs ls hR2 hP hD hS (lv_sub hl [0, 1, 2, 3] rfl)
  · refine lv_iconst (v := 1) hx hb dL_law_246 (by decide) ?_
    refine lv_goto (tgt := 251) hx hb dL_law_247 (by decide) ?_
    refine lw_xcallv (f := x_map n σ 1) (va_runV (C := RX0) (As := [.int 1]) (rest := []) ⟨hx, hb, hml, hown, hts⟩ (c_x_map l dC dI h cB cI n _ σ 1 (Or.inr rfl)) (cwV 1 hts gL_X0_map rfl rfl rfl (by decide +kernel) ⟨Nat.le_of_ble_eq_true rfl, Nat.le_of_ble_eq_true rfl⟩) (x_preM (lw_xK hK) (lw_xP hP) (lw_xD hD)) rfl rfl hl.1 rfl (lv_room (Nat.le_of_ble_eq_true rfl)) dL_law_251 ⟨Nat.le_of_ble_eq_true rfl, Nat.le_of_ble_eq_true rfl⟩) hP hD hS hA (fun u_7 H locs e_8 hP hD hS => ?_)
    refine lv_aload_n hx hb dL_law_254 rfl (lv_at hl 2 rfl) ?_
    refine lv_aload_n hx hb dL_law_255 rfl (lv_at hl 0 rfl) ?_
    refine lv_iload_n hx hb dL_law_256 rfl (lv_at hl 3 rfl) ?_
    refine lv_iconst (v := 1) hx hb dL_law_257 (by decide) ?_
    refine lv_iadd hx hb dL_law_258 ?_
    refine va_sld hx hb hX hbl hbA hS (lw_ix (k := 1) ei hL hfit (by decide)) dL_law_259 ?_
    refine lv_if_eq (tgt := 267) hx hb dL_law_260 (by decide) (fun c_9 => absurd c_9 c_1) (fun _ => ?_)
    refine lv_iconst (v := 1) hx hb dL_law_263 (by decide) ?_
    refine lv_goto (tgt := 268) hx hb dL_law_264 (by decide) ?_
    refine lw_mcallv (f := m_map n μ 1) (va_runV (C := RX1) (As := [.int 1]) (rest := []) ⟨hx, hb, hml, hown, hts⟩ (c_m_map l dC dI g cM n _ μ 1 (Or.inr rfl)) (cwV 1 hts gL_X1_map rfl rfl rfl (by decide +kernel) ⟨Nat.le_of_ble_eq_true rfl, Nat.le_of_ble_eq_true rfl⟩) (m_preM (lw_mK hK) (lw_mP hP) (lw_mD hD)) rfl rfl hl.1 rfl (lv_room (Nat.le_of_ble_eq_true rfl)) dL_law_268 ⟨Nat.le_of_ble_eq_true rfl, Nat.le_of_ble_eq_true rfl⟩) hP hD hS hA (fun u_10 H locs e_11 hP hD hS => ?_)
    refine lv_goto (tgt := 559) hx hb dL_law_271 (by decide) ?_
    have hR2 := s_map hn hR e_8 e_11
    exact kk u_7 u_10 H locs ls hR2 hP hD hS (lv_sub hl [0, 1, 2, 3] rfl)
set_option maxHeartbeats 8000000 in
set_option maxRecDepth 100000 in
theorem law_drop {p : Program} {l : Launch} {e : Env} {s : State} {m : MethodId} {below : List Frame} {meth : Method} {c : Code} {dC : Nat → ClassId} {dI : Nat → Nat → Nat} {b L : Nat} {xs : Nat → Int32} (hL : L ≤ 2561) (C0 : lw_At p s m meth c b L xs) {h g : Nat → Nat} {cB cI cM : ClassId} {n tw tr : Nat} (hn : n ≤ 2048) (hK : va_K (dC, dI) vwCl (lw_tys cB cI cM) s) (hST : x_ST tw tr (lw_A s) s s.heap) {σ : XS} {μ : MS} {H : Heap} {locs : List Loc} {ls : Array Slot} {i : Int32} {j : Nat} (ei : i = nI j) (hfit : j + 5 ≤ L) (hR : sR n σ μ) (hP : va_P (dC, dI) vwCl (lw_ws h cB cI g cM n σ μ) H) (hD : va_D (lw_A s) (lw_ws h cB cI g cM n σ μ)) (hS : va_S (lw_A s) s.heap H locs) (hl : lv_has ls 4 [(0, .ref b), (1, .ref (h 0)), (2, .ref (g 0)), (3, .int i)]) (kk : ∀ (σ : XS) (μ : MS) (H : Heap) (locs : List Loc) (ls : Array Slot), sR n σ μ → va_P (dC, dI) vwCl (lw_ws h cB cI g cM n σ μ) H → va_D (lw_A s) (lw_ws h cB cI g cM n σ μ) → va_S (lw_A s) s.heap H locs → lv_has ls 4 [(0, .ref b), (1, .ref (h 0)), (2, .ref (g 0)), (3, .int i)] → W p l e room_1 s m #[Value.ref b] below meth c H locs 18 4267 (lw_Z below #[Value.ref b] s) (F0 m 559 ls [])) : W p l e room_1 s m #[Value.ref b] below meth c H locs 18 4267 (lw_Z below #[Value.ref b] s) (F0 m 274 ls []) := by
  obtain ⟨hx, hb, hr, hml, hown0, hts, hX, hbl, hlocks, hgv⟩ := C0
  have hown : s.vm.findClass RL = some m.cls := hown0
  have hA : ∀ q : Nat, s.heap.size ≤ q → (lw_A s) q := fun _ h => h
  have hbA : ¬ (lw_A s) b := Nat.not_le.mpr hbl
  refine lv_aload_n hx hb dL_law_274 rfl (lv_at hl 1 rfl) ?_
  refine lv_aload_n hx hb dL_law_275 rfl (lv_at hl 0 rfl) ?_
  refine lv_iload_n hx hb dL_law_276 rfl (lv_at hl 3 rfl) ?_
  refine lv_iconst (v := 1) hx hb dL_law_277 (by decide) ?_
  refine lv_iadd hx hb dL_law_278 ?_
  refine va_sld hx hb hX hbl hbA hS (lw_ix (k := 1) ei hL hfit (by decide)) dL_law_279 ?_
  refine lw_xcalli (f := x_drop n σ (xs ((i + 1)).toNatClampNeg)) (va_runV (C := RX0) (As := [.int (xs ((i + 1)).toNatClampNeg)]) (rest := []) ⟨hx, hb, hml, hown, hts⟩ (c_x_drop l dC dI h cB cI n _ σ (xs ((i + 1)).toNatClampNeg) ) (cwV 1 hts gL_X0_drop rfl rfl rfl (by decide +kernel) ⟨Nat.le_of_ble_eq_true rfl, Nat.le_of_ble_eq_true rfl⟩) (x_preM (lw_xK hK) (lw_xP hP) (lw_xD hD)) rfl rfl hl.1 rfl (lv_room (Nat.le_of_ble_eq_true rfl)) dL_law_280 ⟨Nat.le_of_ble_eq_true rfl, Nat.le_of_ble_eq_true rfl⟩) hP hD hS hA (fun r_3 u_1 H locs e_2 hP hD hS => ?_)
  refine lv_aload_n hx hb dL_law_283 rfl (lv_at hl 2 rfl) ?_
  refine lv_aload_n hx hb dL_law_284 rfl (lv_at hl 0 rfl) ?_
  refine lv_iload_n hx hb dL_law_285 rfl (lv_at hl 3 rfl) ?_
  refine lv_iconst (v := 1) hx hb dL_law_286 (by decide) ?_
  refine lv_iadd hx hb dL_law_287 ?_
  refine va_sld hx hb hX hbl hbA hS (lw_ix (k := 1) ei hL hfit (by decide)) dL_law_288 ?_
  refine lw_mcalli (f := m_drop n μ (xs ((i + 1)).toNatClampNeg)) (va_runV (C := RX1) (As := [.int (xs ((i + 1)).toNatClampNeg)]) (rest := [.int r_3]) ⟨hx, hb, hml, hown, hts⟩ (c_m_drop l dC dI g cM n _ μ (xs ((i + 1)).toNatClampNeg) ) (cwV 1 hts gL_X1_drop rfl rfl rfl (by decide +kernel) ⟨Nat.le_of_ble_eq_true rfl, Nat.le_of_ble_eq_true rfl⟩) (m_preM (lw_mK hK) (lw_mP hP) (lw_mD hD)) rfl rfl hl.1 rfl (lv_room (Nat.le_of_ble_eq_true rfl)) dL_law_289 ⟨Nat.le_of_ble_eq_true rfl, Nat.le_of_ble_eq_true rfl⟩) hP hD hS hA (fun r_6 u_4 H locs e_5 hP hD hS => ?_)
  obtain ⟨er, hR2⟩ := s_drop hn hR e_2 e_5
  refine lv_icmp_eq (tgt := 559) hx hb dL_law_292 (by decide) (fun _ => ?_) (fun c_7 => absurd er c_7)
  exact kk u_1 u_4 H locs ls hR2 hP hD hS (lv_sub hl [0, 1, 2, 3] rfl)
set_option maxHeartbeats 8000000 in
set_option maxRecDepth 100000 in
theorem law_read {p : Program} {l : Launch} {e : Env} {s : State} {m : MethodId} {below : List Frame} {meth : Method} {c : Code} {dC : Nat → ClassId} {dI : Nat → Nat → Nat} {b L : Nat} {xs : Nat → Int32} (hL : L ≤ 2561) (C0 : lw_At p s m meth c b L xs) {h g : Nat → Nat} {cB cI cM : ClassId} {n tw tr : Nat} (hn : n ≤ 2048) (hK : va_K (dC, dI) vwCl (lw_tys cB cI cM) s) (hST : x_ST tw tr (lw_A s) s s.heap) {σ : XS} {μ : MS} {H : Heap} {locs : List Loc} {ls : Array Slot} {i : Int32} {j : Nat} (ei : i = nI j) (hfit : j + 5 ≤ L) (hR : sR n σ μ) (hP : va_P (dC, dI) vwCl (lw_ws h cB cI g cM n σ μ) H) (hD : va_D (lw_A s) (lw_ws h cB cI g cM n σ μ)) (hS : va_S (lw_A s) s.heap H locs) (hl : lv_has ls 4 [(0, .ref b), (1, .ref (h 0)), (2, .ref (g 0)), (3, .int i)]) (kk : ∀ (σ : XS) (μ : MS) (H : Heap) (locs : List Loc) (ls : Array Slot), sR n σ μ → va_P (dC, dI) vwCl (lw_ws h cB cI g cM n σ μ) H → va_D (lw_A s) (lw_ws h cB cI g cM n σ μ) → va_S (lw_A s) s.heap H locs → lv_has ls 4 [(0, .ref b), (1, .ref (h 0)), (2, .ref (g 0)), (3, .int i)] → W p l e room_1 s m #[Value.ref b] below meth c H locs 18 4267 (lw_Z below #[Value.ref b] s) (F0 m 559 ls [])) : W p l e room_1 s m #[Value.ref b] below meth c H locs 18 4267 (lw_Z below #[Value.ref b] s) (F0 m 297 ls []) := by
  obtain ⟨hx, hb, hr, hml, hown0, hts, hX, hbl, hlocks, hgv⟩ := C0
  have hown : s.vm.findClass RL = some m.cls := hown0
  have hA : ∀ q : Nat, s.heap.size ≤ q → (lw_A s) q := fun _ h => h
  have hbA : ¬ (lw_A s) b := Nat.not_le.mpr hbl
  refine lv_aload_n hx hb dL_law_297 rfl (lv_at hl 1 rfl) ?_
  refine lv_aload_n hx hb dL_law_298 rfl (lv_at hl 0 rfl) ?_
  refine lv_iload_n hx hb dL_law_299 rfl (lv_at hl 3 rfl) ?_
  refine lv_iconst (v := 1) hx hb dL_law_300 (by decide) ?_
  refine lv_iadd hx hb dL_law_301 ?_
  refine va_sld hx hb hX hbl hbA hS (lw_ix (k := 1) ei hL hfit (by decide)) dL_law_302 ?_
  refine lv_aload_n hx hb dL_law_303 rfl (lv_at hl 0 rfl) ?_
  refine lv_iload_n hx hb dL_law_304 rfl (lv_at hl 3 rfl) ?_
  refine lv_iconst (v := 2) hx hb dL_law_305 (by decide) ?_
  refine lv_iadd hx hb dL_law_306 ?_
  refine va_sld hx hb hX hbl hbA hS (lw_ix (k := 2) ei hL hfit (by decide)) dL_law_307 ?_
  refine lv_aload_n hx hb dL_law_308 rfl (lv_at hl 0 rfl) ?_
  refine lv_iload_n hx hb dL_law_309 rfl (lv_at hl 3 rfl) ?_
  refine lv_iconst (v := 3) hx hb dL_law_310 (by decide) ?_
  refine lv_iadd hx hb dL_law_311 ?_
  refine va_sld hx hb hX hbl hbA hS (lw_ix (k := 3) ei hL hfit (by decide)) dL_law_312 ?_
  refine lw_xcalll (f := x_read n σ (xs ((i + 1)).toNatClampNeg) (xs ((i + 2)).toNatClampNeg) (xs ((i + 3)).toNatClampNeg)) (va_runV (C := RX0) (As := [.int (xs ((i + 1)).toNatClampNeg), .int (xs ((i + 2)).toNatClampNeg), .int (xs ((i + 3)).toNatClampNeg)]) (rest := []) ⟨hx, hb, hml, hown, hts⟩ (c_x_read l dC dI h cB cI n tw tr _ σ (xs ((i + 1)).toNatClampNeg) (xs ((i + 2)).toNatClampNeg) (xs ((i + 3)).toNatClampNeg) hn (s_xinv hR)) (cwV 3 hts gL_X0_read rfl rfl rfl (by decide +kernel) ⟨Nat.le_of_ble_eq_true rfl, Nat.le_of_ble_eq_true rfl⟩) (x_preMt (lw_xK hK) (lw_xP hP) (lw_xD hD) hST hS hA) rfl rfl hl.1 rfl (lv_room (Nat.le_of_ble_eq_true rfl)) dL_law_313 ⟨Nat.le_of_ble_eq_true rfl, Nat.le_of_ble_eq_true rfl⟩) hP hD hS hA (fun r_3 u_1 H locs e_2 hP hD hS => ?_)
  refine lv_aload_n hx hb dL_law_316 rfl (lv_at hl 2 rfl) ?_
  refine lv_aload_n hx hb dL_law_317 rfl (lv_at hl 0 rfl) ?_
  refine lv_iload_n hx hb dL_law_318 rfl (lv_at hl 3 rfl) ?_
  refine lv_iconst (v := 1) hx hb dL_law_319 (by decide) ?_
  refine lv_iadd hx hb dL_law_320 ?_
  refine va_sld hx hb hX hbl hbA hS (lw_ix (k := 1) ei hL hfit (by decide)) dL_law_321 ?_
  refine lv_aload_n hx hb dL_law_322 rfl (lv_at hl 0 rfl) ?_
  refine lv_iload_n hx hb dL_law_323 rfl (lv_at hl 3 rfl) ?_
  refine lv_iconst (v := 2) hx hb dL_law_324 (by decide) ?_
  refine lv_iadd hx hb dL_law_325 ?_
  refine va_sld hx hb hX hbl hbA hS (lw_ix (k := 2) ei hL hfit (by decide)) dL_law_326 ?_
  refine lv_aload_n hx hb dL_law_327 rfl (lv_at hl 0 rfl) ?_
  refine lv_iload_n hx hb dL_law_328 rfl (lv_at hl 3 rfl) ?_
  refine lv_iconst (v := 3) hx hb dL_law_329 (by decide) ?_
  refine lv_iadd hx hb dL_law_330 ?_
  refine va_sld hx hb hX hbl hbA hS (lw_ix (k := 3) ei hL hfit (by decide)) dL_law_331 ?_
  refine lw_mcalll (f := m_read n μ (xs ((i + 1)).toNatClampNeg) (xs ((i + 2)).toNatClampNeg) (xs ((i + 3)).toNatClampNeg)) (va_runV (C := RX1) (As := [.int (xs ((i + 1)).toNatClampNeg), .int (xs ((i + 2)).toNatClampNeg), .int (xs ((i + 3)).toNatClampNeg)]) (rest := [.long r_3]) ⟨hx, hb, hml, hown, hts⟩ (c_m_read l dC dI g cM n _ μ (xs ((i + 1)).toNatClampNeg) (xs ((i + 2)).toNatClampNeg) (xs ((i + 3)).toNatClampNeg) hn (s_minv hR)) (cwV 3 hts gL_X1_read rfl rfl rfl (by decide +kernel) ⟨Nat.le_of_ble_eq_true rfl, Nat.le_of_ble_eq_true rfl⟩) (m_preM (lw_mK hK) (lw_mP hP) (lw_mD hD)) rfl rfl hl.1 rfl (lv_room (Nat.le_of_ble_eq_true rfl)) dL_law_332 ⟨Nat.le_of_ble_eq_true rfl, Nat.le_of_ble_eq_true rfl⟩) hP hD hS hA (fun r_6 u_4 H locs e_5 hP hD hS => ?_)
  refine W.lcmp hx hb dL_law_335 ?_
  obtain ⟨er, hR2⟩ := s_read hn hR e_2 e_5
  refine lv_if_eq (tgt := 559) hx hb dL_law_336 (by decide) (fun _ => ?_) (fun c_7 => absurd (lg_eq er) c_7)
  exact kk u_1 u_4 H locs ls hR2 hP hD hS (lv_sub hl [0, 1, 2, 3] rfl)
set_option maxHeartbeats 8000000 in
set_option maxRecDepth 100000 in
theorem law_write {p : Program} {l : Launch} {e : Env} {s : State} {m : MethodId} {below : List Frame} {meth : Method} {c : Code} {dC : Nat → ClassId} {dI : Nat → Nat → Nat} {b L : Nat} {xs : Nat → Int32} (hL : L ≤ 2561) (C0 : lw_At p s m meth c b L xs) {h g : Nat → Nat} {cB cI cM : ClassId} {n tw tr : Nat} (hn : n ≤ 2048) (hK : va_K (dC, dI) vwCl (lw_tys cB cI cM) s) (hST : x_ST tw tr (lw_A s) s s.heap) {σ : XS} {μ : MS} {H : Heap} {locs : List Loc} {ls : Array Slot} {i : Int32} {j : Nat} (ei : i = nI j) (hfit : j + 5 ≤ L) (hR : sR n σ μ) (hP : va_P (dC, dI) vwCl (lw_ws h cB cI g cM n σ μ) H) (hD : va_D (lw_A s) (lw_ws h cB cI g cM n σ μ)) (hS : va_S (lw_A s) s.heap H locs) (hl : lv_has ls 4 [(0, .ref b), (1, .ref (h 0)), (2, .ref (g 0)), (3, .int i)]) (kk : ∀ (σ : XS) (μ : MS) (H : Heap) (locs : List Loc) (ls : Array Slot), sR n σ μ → va_P (dC, dI) vwCl (lw_ws h cB cI g cM n σ μ) H → va_D (lw_A s) (lw_ws h cB cI g cM n σ μ) → va_S (lw_A s) s.heap H locs → lv_has ls 4 [(0, .ref b), (1, .ref (h 0)), (2, .ref (g 0)), (3, .int i)] → W p l e room_1 s m #[Value.ref b] below meth c H locs 18 4267 (lw_Z below #[Value.ref b] s) (F0 m 559 ls [])) : W p l e room_1 s m #[Value.ref b] below meth c H locs 18 4267 (lw_Z below #[Value.ref b] s) (F0 m 341 ls []) := by
  obtain ⟨hx, hb, hr, hml, hown0, hts, hX, hbl, hlocks, hgv⟩ := C0
  have hown : s.vm.findClass RL = some m.cls := hown0
  have hA : ∀ q : Nat, s.heap.size ≤ q → (lw_A s) q := fun _ h => h
  have hbA : ¬ (lw_A s) b := Nat.not_le.mpr hbl
  refine lv_aload_n hx hb dL_law_341 rfl (lv_at hl 1 rfl) ?_
  refine lv_aload_n hx hb dL_law_342 rfl (lv_at hl 0 rfl) ?_
  refine lv_iload_n hx hb dL_law_343 rfl (lv_at hl 3 rfl) ?_
  refine lv_iconst (v := 1) hx hb dL_law_344 (by decide) ?_
  refine lv_iadd hx hb dL_law_345 ?_
  refine va_sld hx hb hX hbl hbA hS (lw_ix (k := 1) ei hL hfit (by decide)) dL_law_346 ?_
  refine lv_aload_n hx hb dL_law_347 rfl (lv_at hl 0 rfl) ?_
  refine lv_iload_n hx hb dL_law_348 rfl (lv_at hl 3 rfl) ?_
  refine lv_iconst (v := 2) hx hb dL_law_349 (by decide) ?_
  refine lv_iadd hx hb dL_law_350 ?_
  refine va_sld hx hb hX hbl hbA hS (lw_ix (k := 2) ei hL hfit (by decide)) dL_law_351 ?_
  refine lv_aload_n hx hb dL_law_352 rfl (lv_at hl 0 rfl) ?_
  refine lv_iload_n hx hb dL_law_353 rfl (lv_at hl 3 rfl) ?_
  refine lv_iconst (v := 3) hx hb dL_law_354 (by decide) ?_
  refine lv_iadd hx hb dL_law_355 ?_
  refine va_sld hx hb hX hbl hbA hS (lw_ix (k := 3) ei hL hfit (by decide)) dL_law_356 ?_
  refine lv_aload_n hx hb dL_law_357 rfl (lv_at hl 0 rfl) ?_
  refine lv_iload_n hx hb dL_law_358 rfl (lv_at hl 3 rfl) ?_
  refine lv_iconst (v := 4) hx hb dL_law_359 (by decide) ?_
  refine lv_iadd hx hb dL_law_360 ?_
  refine va_sld hx hb hX hbl hbA hS (lw_ix (k := 4) ei hL hfit (by decide)) dL_law_361 ?_
  refine lw_xcalli (f := x_write n σ (xs ((i + 1)).toNatClampNeg) (xs ((i + 2)).toNatClampNeg) (xs ((i + 3)).toNatClampNeg) (xs ((i + 4)).toNatClampNeg)) (va_runV (C := RX0) (As := [.int (xs ((i + 1)).toNatClampNeg), .int (xs ((i + 2)).toNatClampNeg), .int (xs ((i + 3)).toNatClampNeg), .int (xs ((i + 4)).toNatClampNeg)]) (rest := []) ⟨hx, hb, hml, hown, hts⟩ (c_x_write l dC dI h cB cI n tw tr _ σ (xs ((i + 1)).toNatClampNeg) (xs ((i + 2)).toNatClampNeg) (xs ((i + 3)).toNatClampNeg) (xs ((i + 4)).toNatClampNeg) hn (s_xinv hR)) (cwV 4 hts gL_X0_write rfl rfl rfl (by decide +kernel) ⟨Nat.le_of_ble_eq_true rfl, Nat.le_of_ble_eq_true rfl⟩) (x_preMt (lw_xK hK) (lw_xP hP) (lw_xD hD) hST hS hA) rfl rfl hl.1 rfl (lv_room (Nat.le_of_ble_eq_true rfl)) dL_law_362 ⟨Nat.le_of_ble_eq_true rfl, Nat.le_of_ble_eq_true rfl⟩) hP hD hS hA (fun r_3 u_1 H locs e_2 hP hD hS => ?_)
  refine lv_aload_n hx hb dL_law_365 rfl (lv_at hl 2 rfl) ?_
  refine lv_aload_n hx hb dL_law_366 rfl (lv_at hl 0 rfl) ?_
  refine lv_iload_n hx hb dL_law_367 rfl (lv_at hl 3 rfl) ?_
  refine lv_iconst (v := 1) hx hb dL_law_368 (by decide) ?_
  refine lv_iadd hx hb dL_law_369 ?_
  refine va_sld hx hb hX hbl hbA hS (lw_ix (k := 1) ei hL hfit (by decide)) dL_law_370 ?_
  refine lv_aload_n hx hb dL_law_371 rfl (lv_at hl 0 rfl) ?_
  refine lv_iload_n hx hb dL_law_372 rfl (lv_at hl 3 rfl) ?_
  refine lv_iconst (v := 2) hx hb dL_law_373 (by decide) ?_
  refine lv_iadd hx hb dL_law_374 ?_
  refine va_sld hx hb hX hbl hbA hS (lw_ix (k := 2) ei hL hfit (by decide)) dL_law_375 ?_
  refine lv_aload_n hx hb dL_law_376 rfl (lv_at hl 0 rfl) ?_
  refine lv_iload_n hx hb dL_law_377 rfl (lv_at hl 3 rfl) ?_
  refine lv_iconst (v := 3) hx hb dL_law_378 (by decide) ?_
  refine lv_iadd hx hb dL_law_379 ?_
  refine va_sld hx hb hX hbl hbA hS (lw_ix (k := 3) ei hL hfit (by decide)) dL_law_380 ?_
  refine lv_aload_n hx hb dL_law_381 rfl (lv_at hl 0 rfl) ?_
  refine lv_iload_n hx hb dL_law_382 rfl (lv_at hl 3 rfl) ?_
  refine lv_iconst (v := 4) hx hb dL_law_383 (by decide) ?_
  refine lv_iadd hx hb dL_law_384 ?_
  refine va_sld hx hb hX hbl hbA hS (lw_ix (k := 4) ei hL hfit (by decide)) dL_law_385 ?_
  refine lw_mcalli (f := m_write n μ (xs ((i + 1)).toNatClampNeg) (xs ((i + 2)).toNatClampNeg) (xs ((i + 3)).toNatClampNeg) (xs ((i + 4)).toNatClampNeg)) (va_runV (C := RX1) (As := [.int (xs ((i + 1)).toNatClampNeg), .int (xs ((i + 2)).toNatClampNeg), .int (xs ((i + 3)).toNatClampNeg), .int (xs ((i + 4)).toNatClampNeg)]) (rest := [.int r_3]) ⟨hx, hb, hml, hown, hts⟩ (c_m_write l dC dI g cM n _ μ (xs ((i + 1)).toNatClampNeg) (xs ((i + 2)).toNatClampNeg) (xs ((i + 3)).toNatClampNeg) (xs ((i + 4)).toNatClampNeg) hn (s_minv hR)) (cwV 4 hts gL_X1_write rfl rfl rfl (by decide +kernel) ⟨Nat.le_of_ble_eq_true rfl, Nat.le_of_ble_eq_true rfl⟩) (m_preM (lw_mK hK) (lw_mP hP) (lw_mD hD)) rfl rfl hl.1 rfl (lv_room (Nat.le_of_ble_eq_true rfl)) dL_law_386 ⟨Nat.le_of_ble_eq_true rfl, Nat.le_of_ble_eq_true rfl⟩) hP hD hS hA (fun r_6 u_4 H locs e_5 hP hD hS => ?_)
  obtain ⟨er, hR2⟩ := s_write hn hR e_2 e_5
  refine lv_icmp_eq (tgt := 559) hx hb dL_law_389 (by decide) (fun _ => ?_) (fun c_7 => absurd er c_7)
  exact kk u_1 u_4 H locs ls hR2 hP hD hS (lv_sub hl [0, 1, 2, 3] rfl)
set_option maxHeartbeats 8000000 in
set_option maxRecDepth 100000 in
theorem law_where {p : Program} {l : Launch} {e : Env} {s : State} {m : MethodId} {below : List Frame} {meth : Method} {c : Code} {dC : Nat → ClassId} {dI : Nat → Nat → Nat} {b L : Nat} {xs : Nat → Int32} (hL : L ≤ 2561) (C0 : lw_At p s m meth c b L xs) {h g : Nat → Nat} {cB cI cM : ClassId} {n tw tr : Nat} (hn : n ≤ 2048) (hK : va_K (dC, dI) vwCl (lw_tys cB cI cM) s) (hST : x_ST tw tr (lw_A s) s s.heap) {σ : XS} {μ : MS} {H : Heap} {locs : List Loc} {ls : Array Slot} {i : Int32} {j : Nat} (ei : i = nI j) (hfit : j + 5 ≤ L) (hR : sR n σ μ) (hP : va_P (dC, dI) vwCl (lw_ws h cB cI g cM n σ μ) H) (hD : va_D (lw_A s) (lw_ws h cB cI g cM n σ μ)) (hS : va_S (lw_A s) s.heap H locs) (hl : lv_has ls 4 [(0, .ref b), (1, .ref (h 0)), (2, .ref (g 0)), (3, .int i)]) (kk : ∀ (σ : XS) (μ : MS) (H : Heap) (locs : List Loc) (ls : Array Slot), sR n σ μ → va_P (dC, dI) vwCl (lw_ws h cB cI g cM n σ μ) H → va_D (lw_A s) (lw_ws h cB cI g cM n σ μ) → va_S (lw_A s) s.heap H locs → lv_has ls 4 [(0, .ref b), (1, .ref (h 0)), (2, .ref (g 0)), (3, .int i)] → W p l e room_1 s m #[Value.ref b] below meth c H locs 18 4267 (lw_Z below #[Value.ref b] s) (F0 m 559 ls [])) : W p l e room_1 s m #[Value.ref b] below meth c H locs 18 4267 (lw_Z below #[Value.ref b] s) (F0 m 394 ls []) := by
  obtain ⟨hx, hb, hr, hml, hown0, hts, hX, hbl, hlocks, hgv⟩ := C0
  have hown : s.vm.findClass RL = some m.cls := hown0
  have hA : ∀ q : Nat, s.heap.size ≤ q → (lw_A s) q := fun _ h => h
  have hbA : ¬ (lw_A s) b := Nat.not_le.mpr hbl
  refine lv_aload_n hx hb dL_law_394 rfl (lv_at hl 1 rfl) ?_
  refine lv_aload_n hx hb dL_law_395 rfl (lv_at hl 0 rfl) ?_
  refine lv_iload_n hx hb dL_law_396 rfl (lv_at hl 3 rfl) ?_
  refine lv_iconst (v := 1) hx hb dL_law_397 (by decide) ?_
  refine lv_iadd hx hb dL_law_398 ?_
  refine va_sld hx hb hX hbl hbA hS (lw_ix (k := 1) ei hL hfit (by decide)) dL_law_399 ?_
  refine lv_aload_n hx hb dL_law_400 rfl (lv_at hl 0 rfl) ?_
  refine lv_iload_n hx hb dL_law_401 rfl (lv_at hl 3 rfl) ?_
  refine lv_iconst (v := 2) hx hb dL_law_402 (by decide) ?_
  refine lv_iadd hx hb dL_law_403 ?_
  refine va_sld hx hb hX hbl hbA hS (lw_ix (k := 2) ei hL hfit (by decide)) dL_law_404 ?_
  refine lv_aload_n hx hb dL_law_405 rfl (lv_at hl 0 rfl) ?_
  refine lv_iload_n hx hb dL_law_406 rfl (lv_at hl 3 rfl) ?_
  refine lv_iconst (v := 3) hx hb dL_law_407 (by decide) ?_
  refine lv_iadd hx hb dL_law_408 ?_
  refine va_sld hx hb hX hbl hbA hS (lw_ix (k := 3) ei hL hfit (by decide)) dL_law_409 ?_
  refine lv_if_eq (tgt := 417) hx hb dL_law_410 (by decide) (fun c_1 => ?_) (fun c_1 => ?_)
  · refine lv_iconst (v := 0) hx hb dL_law_417 (by decide) ?_
    refine lw_xcalli (f := x_where n σ (xs ((i + 1)).toNatClampNeg) (xs ((i + 2)).toNatClampNeg) 0) (va_runV (C := RX0) (As := [.int (xs ((i + 1)).toNatClampNeg), .int (xs ((i + 2)).toNatClampNeg), .int 0]) (rest := []) ⟨hx, hb, hml, hown, hts⟩ (c_x_where l dC dI h cB cI n tw tr _ σ (xs ((i + 1)).toNatClampNeg) (xs ((i + 2)).toNatClampNeg) 0 hn (s_xinv hR)) (cwV 3 hts gL_X0_where rfl rfl rfl (by decide +kernel) ⟨Nat.le_of_ble_eq_true rfl, Nat.le_of_ble_eq_true rfl⟩) (x_preMt (lw_xK hK) (lw_xP hP) (lw_xD hD) hST hS hA) rfl rfl hl.1 rfl (lv_room (Nat.le_of_ble_eq_true rfl)) dL_law_418 ⟨Nat.le_of_ble_eq_true rfl, Nat.le_of_ble_eq_true rfl⟩) hP hD hS hA (fun r_4 u_2 H locs e_3 hP hD hS => ?_)
    refine lv_aload_n hx hb dL_law_421 rfl (lv_at hl 2 rfl) ?_
    refine lv_aload_n hx hb dL_law_422 rfl (lv_at hl 0 rfl) ?_
    refine lv_iload_n hx hb dL_law_423 rfl (lv_at hl 3 rfl) ?_
    refine lv_iconst (v := 1) hx hb dL_law_424 (by decide) ?_
    refine lv_iadd hx hb dL_law_425 ?_
    refine va_sld hx hb hX hbl hbA hS (lw_ix (k := 1) ei hL hfit (by decide)) dL_law_426 ?_
    refine lv_aload_n hx hb dL_law_427 rfl (lv_at hl 0 rfl) ?_
    refine lv_iload_n hx hb dL_law_428 rfl (lv_at hl 3 rfl) ?_
    refine lv_iconst (v := 2) hx hb dL_law_429 (by decide) ?_
    refine lv_iadd hx hb dL_law_430 ?_
    refine va_sld hx hb hX hbl hbA hS (lw_ix (k := 2) ei hL hfit (by decide)) dL_law_431 ?_
    refine lv_aload_n hx hb dL_law_432 rfl (lv_at hl 0 rfl) ?_
    refine lv_iload_n hx hb dL_law_433 rfl (lv_at hl 3 rfl) ?_
    refine lv_iconst (v := 3) hx hb dL_law_434 (by decide) ?_
    refine lv_iadd hx hb dL_law_435 ?_
    refine va_sld hx hb hX hbl hbA hS (lw_ix (k := 3) ei hL hfit (by decide)) dL_law_436 ?_
    refine lv_if_eq (tgt := 444) hx hb dL_law_437 (by decide) (fun _ => ?_) (fun c_5 => absurd c_1 c_5)
    refine lv_iconst (v := 0) hx hb dL_law_444 (by decide) ?_
    refine lw_mcalli (f := m_where n μ (xs ((i + 1)).toNatClampNeg) (xs ((i + 2)).toNatClampNeg) 0) (va_runV (C := RX1) (As := [.int (xs ((i + 1)).toNatClampNeg), .int (xs ((i + 2)).toNatClampNeg), .int 0]) (rest := [.int r_4]) ⟨hx, hb, hml, hown, hts⟩ (c_m_where l dC dI g cM n _ μ (xs ((i + 1)).toNatClampNeg) (xs ((i + 2)).toNatClampNeg) 0 hn (s_minv hR)) (cwV 3 hts gL_X1_where rfl rfl rfl (by decide +kernel) ⟨Nat.le_of_ble_eq_true rfl, Nat.le_of_ble_eq_true rfl⟩) (m_preM (lw_mK hK) (lw_mP hP) (lw_mD hD)) rfl rfl hl.1 rfl (lv_room (Nat.le_of_ble_eq_true rfl)) dL_law_445 ⟨Nat.le_of_ble_eq_true rfl, Nat.le_of_ble_eq_true rfl⟩) hP hD hS hA (fun r_8 u_6 H locs e_7 hP hD hS => ?_)
    obtain ⟨er, hR2⟩ := s_where hn hR e_3 e_7
    refine lv_icmp_eq (tgt := 559) hx hb dL_law_448 (by decide) (fun _ => ?_) (fun c_9 => absurd er c_9)
    exact kk u_2 u_6 H locs ls hR2 hP hD hS (lv_sub hl [0, 1, 2, 3] rfl)
  · refine lv_iconst (v := 1) hx hb dL_law_413 (by decide) ?_
    refine lv_goto (tgt := 418) hx hb dL_law_414 (by decide) ?_
    refine lw_xcalli (f := x_where n σ (xs ((i + 1)).toNatClampNeg) (xs ((i + 2)).toNatClampNeg) 1) (va_runV (C := RX0) (As := [.int (xs ((i + 1)).toNatClampNeg), .int (xs ((i + 2)).toNatClampNeg), .int 1]) (rest := []) ⟨hx, hb, hml, hown, hts⟩ (c_x_where l dC dI h cB cI n tw tr _ σ (xs ((i + 1)).toNatClampNeg) (xs ((i + 2)).toNatClampNeg) 1 hn (s_xinv hR)) (cwV 3 hts gL_X0_where rfl rfl rfl (by decide +kernel) ⟨Nat.le_of_ble_eq_true rfl, Nat.le_of_ble_eq_true rfl⟩) (x_preMt (lw_xK hK) (lw_xP hP) (lw_xD hD) hST hS hA) rfl rfl hl.1 rfl (lv_room (Nat.le_of_ble_eq_true rfl)) dL_law_418 ⟨Nat.le_of_ble_eq_true rfl, Nat.le_of_ble_eq_true rfl⟩) hP hD hS hA (fun r_12 u_10 H locs e_11 hP hD hS => ?_)
    refine lv_aload_n hx hb dL_law_421 rfl (lv_at hl 2 rfl) ?_
    refine lv_aload_n hx hb dL_law_422 rfl (lv_at hl 0 rfl) ?_
    refine lv_iload_n hx hb dL_law_423 rfl (lv_at hl 3 rfl) ?_
    refine lv_iconst (v := 1) hx hb dL_law_424 (by decide) ?_
    refine lv_iadd hx hb dL_law_425 ?_
    refine va_sld hx hb hX hbl hbA hS (lw_ix (k := 1) ei hL hfit (by decide)) dL_law_426 ?_
    refine lv_aload_n hx hb dL_law_427 rfl (lv_at hl 0 rfl) ?_
    refine lv_iload_n hx hb dL_law_428 rfl (lv_at hl 3 rfl) ?_
    refine lv_iconst (v := 2) hx hb dL_law_429 (by decide) ?_
    refine lv_iadd hx hb dL_law_430 ?_
    refine va_sld hx hb hX hbl hbA hS (lw_ix (k := 2) ei hL hfit (by decide)) dL_law_431 ?_
    refine lv_aload_n hx hb dL_law_432 rfl (lv_at hl 0 rfl) ?_
    refine lv_iload_n hx hb dL_law_433 rfl (lv_at hl 3 rfl) ?_
    refine lv_iconst (v := 3) hx hb dL_law_434 (by decide) ?_
    refine lv_iadd hx hb dL_law_435 ?_
    refine va_sld hx hb hX hbl hbA hS (lw_ix (k := 3) ei hL hfit (by decide)) dL_law_436 ?_
    refine lv_if_eq (tgt := 444) hx hb dL_law_437 (by decide) (fun c_13 => absurd c_13 c_1) (fun _ => ?_)
    refine lv_iconst (v := 1) hx hb dL_law_440 (by decide) ?_
    refine lv_goto (tgt := 445) hx hb dL_law_441 (by decide) ?_
    refine lw_mcalli (f := m_where n μ (xs ((i + 1)).toNatClampNeg) (xs ((i + 2)).toNatClampNeg) 1) (va_runV (C := RX1) (As := [.int (xs ((i + 1)).toNatClampNeg), .int (xs ((i + 2)).toNatClampNeg), .int 1]) (rest := [.int r_12]) ⟨hx, hb, hml, hown, hts⟩ (c_m_where l dC dI g cM n _ μ (xs ((i + 1)).toNatClampNeg) (xs ((i + 2)).toNatClampNeg) 1 hn (s_minv hR)) (cwV 3 hts gL_X1_where rfl rfl rfl (by decide +kernel) ⟨Nat.le_of_ble_eq_true rfl, Nat.le_of_ble_eq_true rfl⟩) (m_preM (lw_mK hK) (lw_mP hP) (lw_mD hD)) rfl rfl hl.1 rfl (lv_room (Nat.le_of_ble_eq_true rfl)) dL_law_445 ⟨Nat.le_of_ble_eq_true rfl, Nat.le_of_ble_eq_true rfl⟩) hP hD hS hA (fun r_16 u_14 H locs e_15 hP hD hS => ?_)
    obtain ⟨er, hR2⟩ := s_where hn hR e_11 e_15
    refine lv_icmp_eq (tgt := 559) hx hb dL_law_448 (by decide) (fun _ => ?_) (fun c_17 => absurd er c_17)
    exact kk u_10 u_14 H locs ls hR2 hP hD hS (lv_sub hl [0, 1, 2, 3] rfl)
set_option maxHeartbeats 8000000 in
set_option maxRecDepth 100000 in
theorem law_may {p : Program} {l : Launch} {e : Env} {s : State} {m : MethodId} {below : List Frame} {meth : Method} {c : Code} {dC : Nat → ClassId} {dI : Nat → Nat → Nat} {b L : Nat} {xs : Nat → Int32} (hL : L ≤ 2561) (C0 : lw_At p s m meth c b L xs) {h g : Nat → Nat} {cB cI cM : ClassId} {n tw tr : Nat} (hn : n ≤ 2048) (hK : va_K (dC, dI) vwCl (lw_tys cB cI cM) s) (hST : x_ST tw tr (lw_A s) s s.heap) {σ : XS} {μ : MS} {H : Heap} {locs : List Loc} {ls : Array Slot} {i : Int32} {j : Nat} (ei : i = nI j) (hfit : j + 5 ≤ L) (hR : sR n σ μ) (hP : va_P (dC, dI) vwCl (lw_ws h cB cI g cM n σ μ) H) (hD : va_D (lw_A s) (lw_ws h cB cI g cM n σ μ)) (hS : va_S (lw_A s) s.heap H locs) (hl : lv_has ls 4 [(0, .ref b), (1, .ref (h 0)), (2, .ref (g 0)), (3, .int i)]) (kk : ∀ (σ : XS) (μ : MS) (H : Heap) (locs : List Loc) (ls : Array Slot), sR n σ μ → va_P (dC, dI) vwCl (lw_ws h cB cI g cM n σ μ) H → va_D (lw_A s) (lw_ws h cB cI g cM n σ μ) → va_S (lw_A s) s.heap H locs → lv_has ls 4 [(0, .ref b), (1, .ref (h 0)), (2, .ref (g 0)), (3, .int i)] → W p l e room_1 s m #[Value.ref b] below meth c H locs 18 4267 (lw_Z below #[Value.ref b] s) (F0 m 559 ls [])) : W p l e room_1 s m #[Value.ref b] below meth c H locs 18 4267 (lw_Z below #[Value.ref b] s) (F0 m 453 ls []) := by
  obtain ⟨hx, hb, hr, hml, hown0, hts, hX, hbl, hlocks, hgv⟩ := C0
  have hown : s.vm.findClass RL = some m.cls := hown0
  have hA : ∀ q : Nat, s.heap.size ≤ q → (lw_A s) q := fun _ h => h
  have hbA : ¬ (lw_A s) b := Nat.not_le.mpr hbl
  refine lv_aload_n hx hb dL_law_453 rfl (lv_at hl 1 rfl) ?_
  refine lv_aload_n hx hb dL_law_454 rfl (lv_at hl 0 rfl) ?_
  refine lv_iload_n hx hb dL_law_455 rfl (lv_at hl 3 rfl) ?_
  refine lv_iconst (v := 1) hx hb dL_law_456 (by decide) ?_
  refine lv_iadd hx hb dL_law_457 ?_
  refine va_sld hx hb hX hbl hbA hS (lw_ix (k := 1) ei hL hfit (by decide)) dL_law_458 ?_
  refine lv_aload_n hx hb dL_law_459 rfl (lv_at hl 0 rfl) ?_
  refine lv_iload_n hx hb dL_law_460 rfl (lv_at hl 3 rfl) ?_
  refine lv_iconst (v := 2) hx hb dL_law_461 (by decide) ?_
  refine lv_iadd hx hb dL_law_462 ?_
  refine va_sld hx hb hX hbl hbA hS (lw_ix (k := 2) ei hL hfit (by decide)) dL_law_463 ?_
  refine lv_aload_n hx hb dL_law_464 rfl (lv_at hl 0 rfl) ?_
  refine lv_iload_n hx hb dL_law_465 rfl (lv_at hl 3 rfl) ?_
  refine lv_iconst (v := 3) hx hb dL_law_466 (by decide) ?_
  refine lv_iadd hx hb dL_law_467 ?_
  refine va_sld hx hb hX hbl hbA hS (lw_ix (k := 3) ei hL hfit (by decide)) dL_law_468 ?_
  refine lv_if_eq (tgt := 476) hx hb dL_law_469 (by decide) (fun c_1 => ?_) (fun c_1 => ?_)
  · refine lv_iconst (v := 0) hx hb dL_law_476 (by decide) ?_
    refine lw_xcalli (f := x_may n σ (xs ((i + 1)).toNatClampNeg) (xs ((i + 2)).toNatClampNeg) 0) (va_runV (C := RX0) (As := [.int (xs ((i + 1)).toNatClampNeg), .int (xs ((i + 2)).toNatClampNeg), .int 0]) (rest := []) ⟨hx, hb, hml, hown, hts⟩ (c_x_may l dC dI h cB cI n tw tr _ σ (xs ((i + 1)).toNatClampNeg) (xs ((i + 2)).toNatClampNeg) 0 hn) (cwV 3 hts gL_X0_may rfl rfl rfl (by decide +kernel) ⟨Nat.le_of_ble_eq_true rfl, Nat.le_of_ble_eq_true rfl⟩) (x_preMt (lw_xK hK) (lw_xP hP) (lw_xD hD) hST hS hA) rfl rfl hl.1 rfl (lv_room (Nat.le_of_ble_eq_true rfl)) dL_law_477 ⟨Nat.le_of_ble_eq_true rfl, Nat.le_of_ble_eq_true rfl⟩) hP hD hS hA (fun r_4 u_2 H locs e_3 hP hD hS => ?_)
    refine lv_aload_n hx hb dL_law_480 rfl (lv_at hl 2 rfl) ?_
    refine lv_aload_n hx hb dL_law_481 rfl (lv_at hl 0 rfl) ?_
    refine lv_iload_n hx hb dL_law_482 rfl (lv_at hl 3 rfl) ?_
    refine lv_iconst (v := 1) hx hb dL_law_483 (by decide) ?_
    refine lv_iadd hx hb dL_law_484 ?_
    refine va_sld hx hb hX hbl hbA hS (lw_ix (k := 1) ei hL hfit (by decide)) dL_law_485 ?_
    refine lv_aload_n hx hb dL_law_486 rfl (lv_at hl 0 rfl) ?_
    refine lv_iload_n hx hb dL_law_487 rfl (lv_at hl 3 rfl) ?_
    refine lv_iconst (v := 2) hx hb dL_law_488 (by decide) ?_
    refine lv_iadd hx hb dL_law_489 ?_
    refine va_sld hx hb hX hbl hbA hS (lw_ix (k := 2) ei hL hfit (by decide)) dL_law_490 ?_
    refine lv_aload_n hx hb dL_law_491 rfl (lv_at hl 0 rfl) ?_
    refine lv_iload_n hx hb dL_law_492 rfl (lv_at hl 3 rfl) ?_
    refine lv_iconst (v := 3) hx hb dL_law_493 (by decide) ?_
    refine lv_iadd hx hb dL_law_494 ?_
    refine va_sld hx hb hX hbl hbA hS (lw_ix (k := 3) ei hL hfit (by decide)) dL_law_495 ?_
    refine lv_if_eq (tgt := 503) hx hb dL_law_496 (by decide) (fun _ => ?_) (fun c_5 => absurd c_1 c_5)
    refine lv_iconst (v := 0) hx hb dL_law_503 (by decide) ?_
    refine lw_mcalli (f := m_may n μ (xs ((i + 1)).toNatClampNeg) (xs ((i + 2)).toNatClampNeg) 0) (va_runV (C := RX1) (As := [.int (xs ((i + 1)).toNatClampNeg), .int (xs ((i + 2)).toNatClampNeg), .int 0]) (rest := [.int r_4]) ⟨hx, hb, hml, hown, hts⟩ (c_m_may l dC dI g cM n _ μ (xs ((i + 1)).toNatClampNeg) (xs ((i + 2)).toNatClampNeg) 0 hn) (cwV 3 hts gL_X1_may rfl rfl rfl (by decide +kernel) ⟨Nat.le_of_ble_eq_true rfl, Nat.le_of_ble_eq_true rfl⟩) (m_preM (lw_mK hK) (lw_mP hP) (lw_mD hD)) rfl rfl hl.1 rfl (lv_room (Nat.le_of_ble_eq_true rfl)) dL_law_504 ⟨Nat.le_of_ble_eq_true rfl, Nat.le_of_ble_eq_true rfl⟩) hP hD hS hA (fun r_8 u_6 H locs e_7 hP hD hS => ?_)
    obtain ⟨er, hR2⟩ := s_may hn hR e_3 e_7
    refine lv_icmp_eq (tgt := 559) hx hb dL_law_507 (by decide) (fun _ => ?_) (fun c_9 => absurd er c_9)
    exact kk u_2 u_6 H locs ls hR2 hP hD hS (lv_sub hl [0, 1, 2, 3] rfl)
  · refine lv_iconst (v := 1) hx hb dL_law_472 (by decide) ?_
    refine lv_goto (tgt := 477) hx hb dL_law_473 (by decide) ?_
    refine lw_xcalli (f := x_may n σ (xs ((i + 1)).toNatClampNeg) (xs ((i + 2)).toNatClampNeg) 1) (va_runV (C := RX0) (As := [.int (xs ((i + 1)).toNatClampNeg), .int (xs ((i + 2)).toNatClampNeg), .int 1]) (rest := []) ⟨hx, hb, hml, hown, hts⟩ (c_x_may l dC dI h cB cI n tw tr _ σ (xs ((i + 1)).toNatClampNeg) (xs ((i + 2)).toNatClampNeg) 1 hn) (cwV 3 hts gL_X0_may rfl rfl rfl (by decide +kernel) ⟨Nat.le_of_ble_eq_true rfl, Nat.le_of_ble_eq_true rfl⟩) (x_preMt (lw_xK hK) (lw_xP hP) (lw_xD hD) hST hS hA) rfl rfl hl.1 rfl (lv_room (Nat.le_of_ble_eq_true rfl)) dL_law_477 ⟨Nat.le_of_ble_eq_true rfl, Nat.le_of_ble_eq_true rfl⟩) hP hD hS hA (fun r_12 u_10 H locs e_11 hP hD hS => ?_)
    refine lv_aload_n hx hb dL_law_480 rfl (lv_at hl 2 rfl) ?_
    refine lv_aload_n hx hb dL_law_481 rfl (lv_at hl 0 rfl) ?_
    refine lv_iload_n hx hb dL_law_482 rfl (lv_at hl 3 rfl) ?_
    refine lv_iconst (v := 1) hx hb dL_law_483 (by decide) ?_
    refine lv_iadd hx hb dL_law_484 ?_
    refine va_sld hx hb hX hbl hbA hS (lw_ix (k := 1) ei hL hfit (by decide)) dL_law_485 ?_
    refine lv_aload_n hx hb dL_law_486 rfl (lv_at hl 0 rfl) ?_
    refine lv_iload_n hx hb dL_law_487 rfl (lv_at hl 3 rfl) ?_
    refine lv_iconst (v := 2) hx hb dL_law_488 (by decide) ?_
    refine lv_iadd hx hb dL_law_489 ?_
    refine va_sld hx hb hX hbl hbA hS (lw_ix (k := 2) ei hL hfit (by decide)) dL_law_490 ?_
    refine lv_aload_n hx hb dL_law_491 rfl (lv_at hl 0 rfl) ?_
    refine lv_iload_n hx hb dL_law_492 rfl (lv_at hl 3 rfl) ?_
    refine lv_iconst (v := 3) hx hb dL_law_493 (by decide) ?_
    refine lv_iadd hx hb dL_law_494 ?_
    refine va_sld hx hb hX hbl hbA hS (lw_ix (k := 3) ei hL hfit (by decide)) dL_law_495 ?_
    refine lv_if_eq (tgt := 503) hx hb dL_law_496 (by decide) (fun c_13 => absurd c_13 c_1) (fun _ => ?_)
    refine lv_iconst (v := 1) hx hb dL_law_499 (by decide) ?_
    refine lv_goto (tgt := 504) hx hb dL_law_500 (by decide) ?_
    refine lw_mcalli (f := m_may n μ (xs ((i + 1)).toNatClampNeg) (xs ((i + 2)).toNatClampNeg) 1) (va_runV (C := RX1) (As := [.int (xs ((i + 1)).toNatClampNeg), .int (xs ((i + 2)).toNatClampNeg), .int 1]) (rest := [.int r_12]) ⟨hx, hb, hml, hown, hts⟩ (c_m_may l dC dI g cM n _ μ (xs ((i + 1)).toNatClampNeg) (xs ((i + 2)).toNatClampNeg) 1 hn) (cwV 3 hts gL_X1_may rfl rfl rfl (by decide +kernel) ⟨Nat.le_of_ble_eq_true rfl, Nat.le_of_ble_eq_true rfl⟩) (m_preM (lw_mK hK) (lw_mP hP) (lw_mD hD)) rfl rfl hl.1 rfl (lv_room (Nat.le_of_ble_eq_true rfl)) dL_law_504 ⟨Nat.le_of_ble_eq_true rfl, Nat.le_of_ble_eq_true rfl⟩) hP hD hS hA (fun r_16 u_14 H locs e_15 hP hD hS => ?_)
    obtain ⟨er, hR2⟩ := s_may hn hR e_11 e_15
    refine lv_icmp_eq (tgt := 559) hx hb dL_law_507 (by decide) (fun _ => ?_) (fun c_17 => absurd er c_17)
    exact kk u_10 u_14 H locs ls hR2 hP hD hS (lv_sub hl [0, 1, 2, 3] rfl)
set_option maxHeartbeats 8000000 in
set_option maxRecDepth 100000 in
theorem law_kept {p : Program} {l : Launch} {e : Env} {s : State} {m : MethodId} {below : List Frame} {meth : Method} {c : Code} {dC : Nat → ClassId} {dI : Nat → Nat → Nat} {b L : Nat} {xs : Nat → Int32} (hL : L ≤ 2561) (C0 : lw_At p s m meth c b L xs) {h g : Nat → Nat} {cB cI cM : ClassId} {n tw tr : Nat} (hn : n ≤ 2048) (hK : va_K (dC, dI) vwCl (lw_tys cB cI cM) s) (hST : x_ST tw tr (lw_A s) s s.heap) {σ : XS} {μ : MS} {H : Heap} {locs : List Loc} {ls : Array Slot} {i : Int32} {j : Nat} (ei : i = nI j) (hfit : j + 5 ≤ L) (hR : sR n σ μ) (hP : va_P (dC, dI) vwCl (lw_ws h cB cI g cM n σ μ) H) (hD : va_D (lw_A s) (lw_ws h cB cI g cM n σ μ)) (hS : va_S (lw_A s) s.heap H locs) (hl : lv_has ls 4 [(0, .ref b), (1, .ref (h 0)), (2, .ref (g 0)), (3, .int i)]) (kk : ∀ (σ : XS) (μ : MS) (H : Heap) (locs : List Loc) (ls : Array Slot), sR n σ μ → va_P (dC, dI) vwCl (lw_ws h cB cI g cM n σ μ) H → va_D (lw_A s) (lw_ws h cB cI g cM n σ μ) → va_S (lw_A s) s.heap H locs → lv_has ls 4 [(0, .ref b), (1, .ref (h 0)), (2, .ref (g 0)), (3, .int i)] → W p l e room_1 s m #[Value.ref b] below meth c H locs 18 4267 (lw_Z below #[Value.ref b] s) (F0 m 559 ls [])) : W p l e room_1 s m #[Value.ref b] below meth c H locs 18 4267 (lw_Z below #[Value.ref b] s) (F0 m 512 ls []) := by
  obtain ⟨hx, hb, hr, hml, hown0, hts, hX, hbl, hlocks, hgv⟩ := C0
  have hown : s.vm.findClass RL = some m.cls := hown0
  have hA : ∀ q : Nat, s.heap.size ≤ q → (lw_A s) q := fun _ h => h
  have hbA : ¬ (lw_A s) b := Nat.not_le.mpr hbl
  refine lv_aload_n hx hb dL_law_512 rfl (lv_at hl 1 rfl) ?_
  refine lv_aload_n hx hb dL_law_513 rfl (lv_at hl 0 rfl) ?_
  refine lv_iload_n hx hb dL_law_514 rfl (lv_at hl 3 rfl) ?_
  refine lv_iconst (v := 1) hx hb dL_law_515 (by decide) ?_
  refine lv_iadd hx hb dL_law_516 ?_
  refine va_sld hx hb hX hbl hbA hS (lw_ix (k := 1) ei hL hfit (by decide)) dL_law_517 ?_
  refine lv_aload_n hx hb dL_law_518 rfl (lv_at hl 0 rfl) ?_
  refine lv_iload_n hx hb dL_law_519 rfl (lv_at hl 3 rfl) ?_
  refine lv_iconst (v := 2) hx hb dL_law_520 (by decide) ?_
  refine lv_iadd hx hb dL_law_521 ?_
  refine va_sld hx hb hX hbl hbA hS (lw_ix (k := 2) ei hL hfit (by decide)) dL_law_522 ?_
  refine vp_callSl (W.runV (C := RX0) (As := [.int (xs ((i + 1)).toNatClampNeg), .int (xs ((i + 2)).toNatClampNeg)]) (rest := []) ⟨hx, hb, hml, hown, hts⟩ (c_x_kept l dC dI h cB cI n σ (xs ((i + 1)).toNatClampNeg) (xs ((i + 2)).toNatClampNeg) ) (cwV 2 hts gL_X0_kept rfl rfl rfl (by decide +kernel) ⟨Nat.le_of_ble_eq_true rfl, Nat.le_of_ble_eq_true rfl⟩) (x_preP (lw_xK hK) (lw_xP hP)) rfl rfl hl.1 rfl (lv_room (Nat.le_of_ble_eq_true rfl)) dL_law_523 ⟨Nat.le_of_ble_eq_true rfl, Nat.le_of_ble_eq_true rfl⟩) (fun r er => ?_)
  subst er
  refine lv_aload_n hx hb dL_law_526 rfl (lv_at hl 2 rfl) ?_
  refine lv_aload_n hx hb dL_law_527 rfl (lv_at hl 0 rfl) ?_
  refine lv_iload_n hx hb dL_law_528 rfl (lv_at hl 3 rfl) ?_
  refine lv_iconst (v := 1) hx hb dL_law_529 (by decide) ?_
  refine lv_iadd hx hb dL_law_530 ?_
  refine va_sld hx hb hX hbl hbA hS (lw_ix (k := 1) ei hL hfit (by decide)) dL_law_531 ?_
  refine lv_aload_n hx hb dL_law_532 rfl (lv_at hl 0 rfl) ?_
  refine lv_iload_n hx hb dL_law_533 rfl (lv_at hl 3 rfl) ?_
  refine lv_iconst (v := 2) hx hb dL_law_534 (by decide) ?_
  refine lv_iadd hx hb dL_law_535 ?_
  refine va_sld hx hb hX hbl hbA hS (lw_ix (k := 2) ei hL hfit (by decide)) dL_law_536 ?_
  refine vp_callSl (W.runV (C := RX1) (As := [.int (xs ((i + 1)).toNatClampNeg), .int (xs ((i + 2)).toNatClampNeg)]) (rest := [.long (x_kept n σ (xs ((i + 1)).toNatClampNeg) (xs ((i + 2)).toNatClampNeg))]) ⟨hx, hb, hml, hown, hts⟩ (c_m_kept l dC dI g cM n μ (xs ((i + 1)).toNatClampNeg) (xs ((i + 2)).toNatClampNeg) ) (cwV 2 hts gL_X1_kept rfl rfl rfl (by decide +kernel) ⟨Nat.le_of_ble_eq_true rfl, Nat.le_of_ble_eq_true rfl⟩) (m_preP (lw_mK hK) (lw_mP hP)) rfl rfl hl.1 rfl (lv_room (Nat.le_of_ble_eq_true rfl)) dL_law_537 ⟨Nat.le_of_ble_eq_true rfl, Nat.le_of_ble_eq_true rfl⟩) (fun r er => ?_)
  subst er
  refine W.lcmp hx hb dL_law_540 ?_
  have er := s_kept hn hR (a := (xs ((i + 1)).toNatClampNeg)) (b := (xs ((i + 2)).toNatClampNeg))
  refine lv_if_eq (tgt := 559) hx hb dL_law_541 (by decide) (fun _ => ?_) (fun c_1 => absurd (lg_eq er) c_1)
  exact kk σ μ H locs ls hR hP hD hS (lv_sub hl [0, 1, 2, 3] rfl)
set_option maxHeartbeats 8000000 in
set_option maxRecDepth 100000 in
theorem law_failed {p : Program} {l : Launch} {e : Env} {s : State} {m : MethodId} {below : List Frame} {meth : Method} {c : Code} {dC : Nat → ClassId} {dI : Nat → Nat → Nat} {b L : Nat} {xs : Nat → Int32} (hL : L ≤ 2561) (C0 : lw_At p s m meth c b L xs) {h g : Nat → Nat} {cB cI cM : ClassId} {n tw tr : Nat} (hn : n ≤ 2048) (hK : va_K (dC, dI) vwCl (lw_tys cB cI cM) s) (hST : x_ST tw tr (lw_A s) s s.heap) {σ : XS} {μ : MS} {H : Heap} {locs : List Loc} {ls : Array Slot} {i : Int32} {j : Nat} (ei : i = nI j) (hfit : j + 5 ≤ L) (hR : sR n σ μ) (hP : va_P (dC, dI) vwCl (lw_ws h cB cI g cM n σ μ) H) (hD : va_D (lw_A s) (lw_ws h cB cI g cM n σ μ)) (hS : va_S (lw_A s) s.heap H locs) (hl : lv_has ls 4 [(0, .ref b), (1, .ref (h 0)), (2, .ref (g 0)), (3, .int i)]) (kk : ∀ (σ : XS) (μ : MS) (H : Heap) (locs : List Loc) (ls : Array Slot), sR n σ μ → va_P (dC, dI) vwCl (lw_ws h cB cI g cM n σ μ) H → va_D (lw_A s) (lw_ws h cB cI g cM n σ μ) → va_S (lw_A s) s.heap H locs → lv_has ls 4 [(0, .ref b), (1, .ref (h 0)), (2, .ref (g 0)), (3, .int i)] → W p l e room_1 s m #[Value.ref b] below meth c H locs 18 4267 (lw_Z below #[Value.ref b] s) (F0 m 559 ls [])) : W p l e room_1 s m #[Value.ref b] below meth c H locs 18 4267 (lw_Z below #[Value.ref b] s) (F0 m 546 ls []) := by
  obtain ⟨hx, hb, hr, hml, hown0, hts, hX, hbl, hlocks, hgv⟩ := C0
  have hown : s.vm.findClass RL = some m.cls := hown0
  have hA : ∀ q : Nat, s.heap.size ≤ q → (lw_A s) q := fun _ h => h
  have hbA : ¬ (lw_A s) b := Nat.not_le.mpr hbl
  refine lv_aload_n hx hb dL_law_546 rfl (lv_at hl 1 rfl) ?_
  refine vp_callSi (W.runV (C := RX0) (As := []) (rest := []) ⟨hx, hb, hml, hown, hts⟩ (c_x_failed l dC dI h cB cI n σ  ) (cwV 0 hts gL_X0_failed rfl rfl rfl (by decide +kernel) ⟨Nat.le_of_ble_eq_true rfl, Nat.le_of_ble_eq_true rfl⟩) (x_preP (lw_xK hK) (lw_xP hP)) rfl rfl hl.1 rfl (lv_room (Nat.le_of_ble_eq_true rfl)) dL_law_547 ⟨Nat.le_of_ble_eq_true rfl, Nat.le_of_ble_eq_true rfl⟩) (fun r er => ?_)
  subst er
  refine lv_aload_n hx hb dL_law_550 rfl (lv_at hl 2 rfl) ?_
  refine vp_callSi (W.runV (C := RX1) (As := []) (rest := [.int (x_failed n σ)]) ⟨hx, hb, hml, hown, hts⟩ (c_m_failed l dC dI g cM n μ  ) (cwV 0 hts gL_X1_failed rfl rfl rfl (by decide +kernel) ⟨Nat.le_of_ble_eq_true rfl, Nat.le_of_ble_eq_true rfl⟩) (m_preP (lw_mK hK) (lw_mP hP)) rfl rfl hl.1 rfl (lv_room (Nat.le_of_ble_eq_true rfl)) dL_law_551 ⟨Nat.le_of_ble_eq_true rfl, Nat.le_of_ble_eq_true rfl⟩) (fun r er => ?_)
  subst er
  have er := s_failed hn hR
  refine lv_icmp_eq (tgt := 559) hx hb dL_law_554 (by decide) (fun _ => ?_) (fun c_1 => absurd er c_1)
  exact kk σ μ H locs ls hR hP hD hS (lv_sub hl [0, 1, 2, 3] rfl)
