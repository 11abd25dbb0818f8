set_option maxHeartbeats 4000000 in
set_option maxRecDepth 100000 in
theorem c_j_fill (l : Launch) (dC : Nat → ClassId) (dI : Nat → Nat → Nat) (h : Nat → Nat) (cI : ClassId) (N : Nat) (sz : Nat) (σ : (Nat → Int32)) (v : Int32) (hN : N < 1000) : Met l yJ_fill wsJ_fill ({ frames := 0, cells := 0, slots := 0, locals := 0 }) (va_Pc [.ref (h 0), .int v] (j_BM dC dI h cI N sz σ)) (q_j_fill dC dI h cI N σ v (va_A (j_ws h cI N σ) sz)) 0 0 (va_A (j_ws h cI N σ) sz) := by
  refine Met.ofW (cc := cJ_fill) (maxL := 4) (ret := none) (by decide) rfl ?_
  intro p e s m args below meth c s₁ B hml hv
  obtain ⟨rfl, hsz, hP, hK, hD0⟩ := hv
  have hx := B.exec
  have hb := B.bytes
  have hr := B.returns
  have hts : ∀ w ∈ ([] : List Cond), w.before _ s = true := fun w h => atoms_spec (ws := wsJ_fill) B.pre w (List.mem_cons_of_mem _ h)
  have hown : s.vm.findClass RJ = some m.cls := findClass_of_methodNamed B.named
  have hlocks := B.notSynchronized
  subst hsz
  have hD := hD0.self (sz := s.heap.size)
  generalize hAe : va_A (j_ws h cI N σ) s.heap.size = A at hD ⊢
  have hA : ∀ q : Nat, s.heap.size ≤ q → A q := fun q h => by rw [← hAe]; exact Or.inr h
  have hS : va_S A s.heap s.heap [] := va_S.rf
  have hP : va_P (dC, dI) vwCl (j_ws h cI N σ) s.heap := hP
  have hl := lv_entry ([.ref (h 0), .int v]) (n := 4) (Nat.le_of_ble_eq_true rfl)
  rw [lg_entry_eq]
  generalize (lg_sl ([.ref (h 0), .int v]) ++ List.replicate (4 - (lg_sl ([.ref (h 0), .int v])).length) Slot.unset).toArray = ls at hl ⊢
  have hl : lv_has ls 4 [(0, .ref (h 0)), (1, .int v)] := hl
  have key_l1 : ∀ (f j : Nat) (i : Int32) (ln : Int32) (τ : (Nat → Int32)) (H : Heap) (locs : List Loc) (ls : Array Slot), (i = nI j) → (ln = nI N) → (j ≤ N) → (1000 ≤ j + f) → j_fill N σ v = j_fill_l1 N v f i ln τ → va_P (dC, dI) vwCl (j_ws h cI N τ) H → va_D A (j_ws h cI N τ) → va_S A s.heap H locs → lv_has ls 4 [(2, .int i), (3, .int ln), (0, .ref (h 0)), (1, .int v)] → W p l e (headSpec wsJ_fill ({ frames := 0, cells := 0, slots := 0, locals := 0 })).room s m ([.ref (h 0), .int v] : List Value).toArray below meth c H locs 0 0 (MQ below (q_j_fill dC dI h cI N σ v A) ([.ref (h 0), .int v] : List Value).toArray s 0 0 A) (F0 m 5 ls []) := by
    intro f
    induction f with
    | zero => intro j i ln τ H locs ls ej el hj hf; exact absurd hf (by omega)
    | succ f ih =>
      intro j i ln τ H locs ls ej el hj hf hm hP hD hS hl
      refine lv_iload_n hx hb dJ_fill_5 rfl (lv_at hl 0 rfl) ?_
      refine lv_iload_n hx hb dJ_fill_6 rfl (lv_at hl 1 rfl) ?_
      refine lv_icmp_ge (tgt := 20) hx hb dJ_fill_7 (by decide) (fun c_101 => ?_) (fun c_101 => ?_)
      · exact W.vret hx hb hr (fun t ht hW => ⟨⟨τ, rfl, hm.trans ((if_pos c_101).trans rfl), by rw [ht]; exact hP, va_K.moved hW.alike hK, hD⟩, hS.F ht⟩) hS.2.2 dJ_fill_20
      · have hlt : j < N := x_ltK ⟨N, Nat.le_refl N, el⟩ hj ej (by omega) c_101
        refine lv_aload_n hx hb dJ_fill_10 rfl (lv_at hl 2 rfl) ?_
        refine lv_iload_n hx hb dJ_fill_11 rfl (lv_at hl 0 rfl) ?_
        refine lv_iload_n hx hb dJ_fill_12 rfl (lv_at hl 3 rfl) ?_
        refine va_iast hx hb hK hP hD hS 0 0 rfl rfl (by rw [ej]; exact vp_in_nI hlt (by omega)) dJ_fill_13 (fun H locs hP hD hS => ?_)
        have hP : va_P (dC, dI) vwCl (j_ws h cI N (j_sA τ (upd (j_a τ) ((i).toNatClampNeg) v))) H := hP
        have hD : va_D A (j_ws h cI N (j_sA τ (upd (j_a τ) ((i).toNatClampNeg) v))) := hD
        refine lv_iinc (v := (i + 1)) (lv' := [(2, .int (i + 1)), (3, .int ln), (0, .ref (h 0)), (1, .int v)]) hx hb dJ_fill_14 hl (k := 0) rfl rfl (by decide) rfl (fun ls hl => ?_)
        refine lv_goto (tgt := 5) hx hb dJ_fill_17 (by decide) ?_
        exact ih (j + 1) (i + 1) ln (j_sA τ (upd (j_a τ) ((i).toNatClampNeg) v)) _ _ _ (by rw [ej]; exact nI_1 j) el (by omega) (by omega) (hm.trans ((if_neg c_101).trans rfl)) hP hD hS (lv_sub hl [0, 1, 2, 3] rfl)
  refine lv_iconst (v := 0) hx hb dJ_fill_0 (by decide) ?_
  refine lv_istore_n (lv' := [(2, .int 0), (0, .ref (h 0)), (1, .int v)]) hx hb dJ_fill_1 rfl hl (by decide) rfl (fun ls hl => ?_)
  refine lv_aload_n hx hb dJ_fill_2 rfl (lv_at hl 1 rfl) ?_
  refine va_alen (v := (nI N)) hx hb hK hP 0 0 rfl rfl rfl dJ_fill_3 ?_
  refine lv_istore_n (lv' := [(3, .int (nI N)), (2, .int 0), (0, .ref (h 0)), (1, .int v)]) hx hb dJ_fill_4 rfl hl (by decide) rfl (fun ls hl => ?_)
  exact key_l1 1000 0 0 (nI N) σ _ _ _ nI_0.symm rfl (by omega) (by omega) (rfl) hP hD hS (lv_sub hl [1, 0, 2, 3] rfl)
