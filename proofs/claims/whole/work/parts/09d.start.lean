set_option maxHeartbeats 8000000 in
set_option maxRecDepth 100000 in
theorem whole_start {p : Program} {e : Env} {s : State} {m : MethodId} {below : List Frame} {meth : Method} {c : Code} (l : Launch) {b L : Nat} {xs : Nat → Int32} (hL : L ≤ 2561) (C0 : lw_At p s m meth c b L xs) : W p l e room_1 s m #[Value.ref b] below meth c s.heap [] 0 0 (lw_Z below #[Value.ref b] s) (entryFrame m ([Value.ref b] : List Value).toArray 4) := by
  have C1 := C0
  obtain ⟨hx, hb, hr, hml, hown0, hts, hX, hbl, hlocks, hgv⟩ := C0
  have hown : s.vm.findClass RL = some m.cls := hown0
  have hA : ∀ q : Nat, s.heap.size ≤ q → (lw_A s) q := fun _ h => h
  have hbA : ¬ (lw_A s) b := Nat.not_le.mpr hbl
  obtain ⟨c0, iS0, hKn0⟩ := u_known (C := RX0) (T := TX0) (N := 9) (n := 9) hts (fun w h => (bX0_tw w h).1) (hts _ lwt_5)
  obtain ⟨c1, iS1, hKn1⟩ := u_known (C := RX1) (T := TX1) (N := 14) (n := 14) hts (fun w h => (bX1_tw w h).1) (hts _ lwt_192)
  obtain ⟨dC, dI, hKc⟩ : ∃ (dC : Nat → ClassId) (dI : Nat → Nat → Nat), ∀ (k : Nat) (q : vw_C), vwCl[k]? = some q → u_Kn s q.1 q.2.1 q.2.2 (dC k) (dI k) := by
    refine ⟨fun k => if k = 0 then c0 else c1, fun k => if k = 0 then iS0 else iS1, ?_⟩
    intro k q hq
    match k, hq with
    | 0, hq => cases hq; exact hKn0
    | 1, hq => cases hq; exact hKn1
    | k + 2, hq => simp [vwCl] at hq
  obtain ⟨tw, tr, hST⟩ := lw_ST hts hgv
  have hS : va_S (lw_A s) s.heap s.heap [] := va_S.rf
  have hK : va_K (dC, dI) vwCl [] s := ⟨hKc, fun k q h => by simp at h⟩
  have hP : va_P (dC, dI) vwCl [] s.heap := fun k q h => by simp at h
  have hD : va_D (lw_A s) [] := ⟨fun i j p q h => by simp at h, fun k q h => by simp at h⟩
  have hl := lv_entry ([.ref b]) (n := 4) (Nat.le_of_ble_eq_true rfl)
  rw [lg_entry_eq]
  generalize (lg_sl ([.ref b]) ++ List.replicate (4 - (lg_sl ([.ref b])).length) Slot.unset).toArray = ls at hl ⊢
  have hl : lv_has ls 4 [(0, .ref b)] := hl
  generalize hcell : lw_cell L xs 0 = v0
  refine va_new (ci := 0) (fs := [.null, .null, .null, .int 0, .int 0, .null, .null, .null, .null]) (C := RX0) (T := TX0) (N := 9) hx hb hts (fun w h => (bX0_tw w h).1) tyX0 tyX0_ok hown (hts _ lwt_4) (hts _ lwt_5) (hts _ lwt_1) hK hP hD hS hA rfl (fun j hj => by rcases (show j = 0 ∨ j = 1 ∨ j = 2 ∨ j = 3 ∨ j = 4 ∨ j = 5 ∨ j = 6 ∨ j = 7 ∨ j = 8 by omega) with rfl | rfl | rfl | rfl | rfl | rfl | rfl | rfl | rfl <;> rfl) (Nat.le_of_ble_eq_true rfl) (Nat.le_of_ble_eq_true rfl) dL_law_0 (fun qx H hP hD hS => ?_)
  refine W.widen (k := 1) (n := 9) (by omega) (by omega) ?_
  have hP : va_P (dC, dI) vwCl (x_w0 qx) H := hP
  have hD : va_D (lw_A s) (x_w0 qx) := hD
  refine lv_dup hx hb dL_law_3 rfl ?_
  refine lv_aload_n hx hb dL_law_4 rfl (lv_at hl 0 rfl) ?_
  refine lv_iconst (v := 0) hx hb dL_law_5 (by decide) ?_
  refine vp_callSi (W.runS (As := [.ref b, .int 0]) (rest := [.ref qx, .ref qx]) ⟨hx, hb, hml, hown, hts⟩ (c_L_cell l b L xs hL 0 (by decide)) (va_cwS 2 hts gL_L_cell rfl rfl rfl (by decide +kernel) ⟨Nat.le_of_ble_eq_true rfl, Nat.le_of_ble_eq_true rfl⟩) ⟨fun a U g mk q => ⟨q.1, va_X.moved (u := U) (U := U.calling g mk a) (Vm.Alike.refl U.vm) q.2.1, q.2.2⟩, fun U hU hW => ⟨rfl, va_X.moved hW.alike (va_X.kept hX (by rw [hU]; exact hS.2.1 b hbl hbA)), by rw [hU]; exact Nat.lt_of_lt_of_le hbl hS.1⟩⟩ rfl rfl hl.1 rfl (lv_room (Nat.le_of_ble_eq_true rfl)) dL_law_6 ⟨Nat.le_of_ble_eq_true rfl, Nat.le_of_ble_eq_true rfl⟩) (fun r er => ?_)
  rw [hcell] at er
  subst er
  have hFc := va_free (wc := x_w0 qx) hD hS hA [0] rfl
  have hPc := hP
  have hDc := hD
  refine va_callv (va_runI (As := [.int v0]) (rest := [.ref qx]) ⟨hx, hb, hml, hown, hts⟩ (c_x_init l dC dI qx H.size v0) (cwI 1 hts gL_X0_init rfl rfl rfl (hts _ lwt_1) (hts _ lwt_6) (hts _ lwt_7) rfl (by decide +kernel) ⟨Nat.le_of_ble_eq_true rfl, Nat.le_of_ble_eq_true rfl⟩) ⟨fun a U g mk q => ⟨q.1, q.2.1, q.2.2.1, va_K.moved (u := U) (U := U.calling g mk a) (Vm.Alike.refl U.vm) q.2.2.2.1, q.2.2.2.2⟩, fun U hU hW => ⟨rfl, by rw [hU], by rw [hU]; exact hPc, va_K.moved hW.alike (hK.sub [] rfl), hDc.weaken (fun _ _ _ _ => trivial)⟩⟩ rfl rfl hl.1 rfl (lv_room (Nat.le_of_ble_eq_true rfl)) dL_law_9 ⟨Nat.le_of_ble_eq_true rfl, Nat.le_of_ble_eq_true rfl⟩) hS (fun q _ z => hFc q z) hFc (fun u t H1 locs ht hvm hw hB hz1 hk1 hS => ?_)
  obtain ⟨h, cB, cI⟩ := u
  obtain ⟨hP1, hK1, hD1⟩ := hB
  rw [ht] at hP1
  have hK1 := va_K.moved hvm.symm hK1
  dsimp only at hw hP1 hK1 hD1
  subst hw
  obtain ⟨hP, hD⟩ := va_join (wr := []) (w1 := x_ws h cB cI (x_n v0) x_init) hP hD [0] [] rfl rfl (by decide) (by decide) hk1 hFc hP1 hD1
  have hK : va_K (dC, dI) vwCl (x_tys cB cI) s := hK1
  have hP : va_P (dC, dI) vwCl (x_ws h cB cI (x_n v0) x_init) H1 := hP
  have hD : va_D (lw_A s) (x_ws h cB cI (x_n v0) x_init) := hD
  generalize H1 = H at hP hS ⊢
  refine W.widen (k := 8) (n := 2115) (by omega) (by omega) ?_
  refine lv_astore_n (lv' := [(1, .ref (h 0)), (0, .ref b)]) hx hb dL_law_12 rfl hl (by decide) rfl (fun ls hl => ?_)
  refine va_new (ci := 1) (fs := [.null, .int 0, .null, .null, .int 0, .null, .null, .null, .null, .null, .null, .int 0, .int 0, .int 0]) (C := RX1) (T := TX1) (N := 14) hx hb hts (fun w h => (bX1_tw w h).1) tyX1 tyX1_ok hown (hts _ lwt_191) (hts _ lwt_192) (hts _ lwt_3) hK hP hD hS hA rfl (fun j hj => by rcases (show j = 0 ∨ j = 1 ∨ j = 2 ∨ j = 3 ∨ j = 4 ∨ j = 5 ∨ j = 6 ∨ j = 7 ∨ j = 8 ∨ j = 9 ∨ j = 10 ∨ j = 11 ∨ j = 12 ∨ j = 13 by omega) with rfl | rfl | rfl | rfl | rfl | rfl | rfl | rfl | rfl | rfl | rfl | rfl | rfl | rfl <;> rfl) (Nat.le_of_ble_eq_true rfl) (Nat.le_of_ble_eq_true rfl) dL_law_13 (fun qm H hP hD hS => ?_)
  refine W.widen (k := 9) (n := 2129) (by omega) (by omega) ?_
  have hP : va_P (dC, dI) vwCl (x_ws h cB cI (x_n v0) x_init ++ m_w0 qm) H := hP
  have hD : va_D (lw_A s) (x_ws h cB cI (x_n v0) x_init ++ m_w0 qm) := hD
  refine lv_dup hx hb dL_law_16 rfl ?_
  refine lv_aload_n hx hb dL_law_17 rfl (lv_at hl 1 rfl) ?_
  refine lv_iconst (v := 0) hx hb dL_law_18 (by decide) ?_
  refine vp_callSi (W.runS (As := [.ref b, .int 0]) (rest := [.ref qm, .ref qm]) ⟨hx, hb, hml, hown, hts⟩ (c_L_cell l b L xs hL 0 (by decide)) (va_cwS 2 hts gL_L_cell rfl rfl rfl (by decide +kernel) ⟨Nat.le_of_ble_eq_true rfl, Nat.le_of_ble_eq_true rfl⟩) ⟨fun a U g mk q => ⟨q.1, va_X.moved (u := U) (U := U.calling g mk a) (Vm.Alike.refl U.vm) q.2.1, q.2.2⟩, fun U hU hW => ⟨rfl, va_X.moved hW.alike (va_X.kept hX (by rw [hU]; exact hS.2.1 b hbl hbA)), by rw [hU]; exact Nat.lt_of_lt_of_le hbl hS.1⟩⟩ rfl rfl hl.1 rfl (lv_room (Nat.le_of_ble_eq_true rfl)) dL_law_19 ⟨Nat.le_of_ble_eq_true rfl, Nat.le_of_ble_eq_true rfl⟩) (fun r er => ?_)
  rw [hcell] at er
  subst er
  have hFc := va_free (wc := m_w0 qm) hD hS hA [8] rfl
  have hPc : va_P (dC, dI) vwCl (m_w0 qm) H := hP.sub [8] rfl
  have hDc : va_D (lw_A s) (m_w0 qm) := hD.sub [8] (by decide) rfl
  refine va_callv (va_runI (As := [.int v0]) (rest := [.ref qm]) ⟨hx, hb, hml, hown, hts⟩ (c_m_init l dC dI qm H.size v0) (cwI 1 hts gL_X1_init rfl rfl rfl (hts _ lwt_3) (hts _ lwt_193) (hts _ lwt_194) rfl (by decide +kernel) ⟨Nat.le_of_ble_eq_true rfl, Nat.le_of_ble_eq_true rfl⟩) ⟨fun a U g mk q => ⟨q.1, q.2.1, q.2.2.1, va_K.moved (u := U) (U := U.calling g mk a) (Vm.Alike.refl U.vm) q.2.2.2.1, q.2.2.2.2⟩, fun U hU hW => ⟨rfl, by rw [hU], by rw [hU]; exact hPc, va_K.moved hW.alike (hK.sub [] rfl), hDc.weaken (fun _ _ _ _ => trivial)⟩⟩ rfl rfl hl.1 rfl (lv_room (Nat.le_of_ble_eq_true rfl)) dL_law_22 ⟨Nat.le_of_ble_eq_true rfl, Nat.le_of_ble_eq_true rfl⟩) hS (fun q _ z => hFc q z) hFc (fun u t H1 locs ht hvm hw hB hz1 hk1 hS => ?_)
  obtain ⟨g, cM⟩ := u
  obtain ⟨hP1, hK1, hD1⟩ := hB
  rw [ht] at hP1
  have hK1 := va_K.moved hvm.symm hK1
  dsimp only at hw hP1 hK1 hD1
  subst hw
  obtain ⟨hP, hD⟩ := va_join (wr := x_ws h cB cI (x_n v0) x_init) (w1 := m_ws g cM (x_n v0) (m_ini (x_n v0) m_mu0 0)) hP hD [8] [0, 1, 2, 3, 4, 5, 6, 7] rfl rfl (by decide) (by decide) hk1 hFc hP1 hD1
  have hK : va_K (dC, dI) vwCl (lw_tys cB cI cM) s := hK.app hK1
  have hP : va_P (dC, dI) vwCl (lw_ws h cB cI g cM (x_n v0) x_init (m_ini (x_n v0) m_mu0 0)) H1 := hP
  have hD : va_D (lw_A s) (lw_ws h cB cI g cM (x_n v0) x_init (m_ini (x_n v0) m_mu0 0)) := hD
  generalize H1 = H at hP hS ⊢
  refine W.widen (k := 18) (n := 4267) (by omega) (by omega) ?_
  refine lv_astore_n (lv' := [(2, .ref (g 0)), (1, .ref (h 0)), (0, .ref b)]) hx hb dL_law_25 rfl hl (by decide) rfl (fun ls hl => ?_)
  refine lv_iconst (v := 1) hx hb dL_law_26 (by decide) ?_
  refine lv_istore_n (lv' := [(3, .int 1), (2, .ref (g 0)), (1, .ref (h 0)), (0, .ref b)]) hx hb dL_law_27 rfl hl (by decide) rfl (fun ls hl => ?_)
  obtain ⟨hR, hn⟩ := s_init v0
  exact law_loop hL C1 hn hK hST (L + 6) 1 1 _ _ H _ ls rfl (by omega) (by omega) hR hP hD hS (lv_sub hl [3, 2, 1, 0] rfl)
