-- words for the state of KeptPages, and how its methods are called
def jushr (x y : Int32) : Int32 := (x.toUInt32 >>> (y.toUInt32 &&& Int32.toUInt32 31)).toInt32
def jlshl (x : Int64) (y : Int32) : Int64 := x <<< (y.toInt64 &&& 63)
def kb {α β γ : Type} (x : α × β) (k : α → β → γ) : γ := k x.1 x.2
theorem kb_eq {α β γ : Type} {x : α × β} {k : α → β → γ} {a : α} {b : β} (e : x = (a, b)) : kb x k = k a b := by subst e; rfl
def kv {β γ : Type} (x : β) (k : β → γ) : γ := k x
theorem kv_eq {β γ : Type} {x : β} {k : β → γ} {b : β} (e : x = b) : kv x k = k b := by subst e; rfl
abbrev XS : Type := (Nat → Int32) × (Nat → Int32) × (Nat → Int32) × (Nat → Int32) × (Nat → Int32) × (Nat → Int32) × (Nat → Int32) × Int32 × Int32
def x_mem (σ : XS) : Nat → Int32 := σ.1
def x_bas (σ : XS) : Nat → Int32 := σ.2.1
def x_len (σ : XS) : Nat → Int32 := σ.2.2.1
def x_kp (σ : XS) : Nat → Int32 := σ.2.2.2.1
def x_ke (σ : XS) : Nat → Int32 := σ.2.2.2.2.1
def x_kpl (σ : XS) : Nat → Int32 := σ.2.2.2.2.2.1
def x_pl (σ : XS) : Nat → Int32 := σ.2.2.2.2.2.2.1
def x_mp (σ : XS) : Int32 := σ.2.2.2.2.2.2.2.1
def x_fa (σ : XS) : Int32 := σ.2.2.2.2.2.2.2.2
def x_sMem (σ : XS) (f : Nat → Int32) : XS := (f, x_bas σ, x_len σ, x_kp σ, x_ke σ, x_kpl σ, x_pl σ, x_mp σ, x_fa σ)
def x_sBas (σ : XS) (f : Nat → Int32) : XS := (x_mem σ, f, x_len σ, x_kp σ, x_ke σ, x_kpl σ, x_pl σ, x_mp σ, x_fa σ)
def x_sLen (σ : XS) (f : Nat → Int32) : XS := (x_mem σ, x_bas σ, f, x_kp σ, x_ke σ, x_kpl σ, x_pl σ, x_mp σ, x_fa σ)
def x_sKp (σ : XS) (f : Nat → Int32) : XS := (x_mem σ, x_bas σ, x_len σ, f, x_ke σ, x_kpl σ, x_pl σ, x_mp σ, x_fa σ)
def x_sKe (σ : XS) (f : Nat → Int32) : XS := (x_mem σ, x_bas σ, x_len σ, x_kp σ, f, x_kpl σ, x_pl σ, x_mp σ, x_fa σ)
def x_sKpl (σ : XS) (f : Nat → Int32) : XS := (x_mem σ, x_bas σ, x_len σ, x_kp σ, x_ke σ, f, x_pl σ, x_mp σ, x_fa σ)
def x_sPl (σ : XS) (f : Nat → Int32) : XS := (x_mem σ, x_bas σ, x_len σ, x_kp σ, x_ke σ, x_kpl σ, f, x_mp σ, x_fa σ)
def x_sMp (σ : XS) (v : Int32) : XS := (x_mem σ, x_bas σ, x_len σ, x_kp σ, x_ke σ, x_kpl σ, x_pl σ, v, x_fa σ)
def x_sFa (σ : XS) (v : Int32) : XS := (x_mem σ, x_bas σ, x_len σ, x_kp σ, x_ke σ, x_kpl σ, x_pl σ, x_mp σ, v)
-- the cells of an object: h 0 the object, h 1 .. h 7 its arrays
abbrev x_ws (h : Nat → Nat) (cB cI : ClassId) (n : Nat) (σ : XS) : va_W := [(h 0, .inr (0, [.ref (h 1), .ref (h 2), .ref (h 3), .int (x_mp σ), .int (x_fa σ), .ref (h 4), .ref (h 5), .ref (h 6), .ref (h 7)])), (h 1, .inl (cB, n, .inl (x_mem σ))), (h 2, .inl (cI, 3, .inl (x_bas σ))), (h 3, .inl (cI, 3, .inl (x_len σ))), (h 4, .inl (cI, 16, .inl (x_kp σ))), (h 5, .inl (cI, 16, .inl (x_ke σ))), (h 6, .inl (cI, 16, .inl (x_kpl σ))), (h 7, .inl (cI, 4, .inl (x_pl σ)))]
abbrev x_tys (cB cI : ClassId) : List (ClassId × FieldType) := [(cB, .byte), (cI, .int)]
-- the class's two written-out tables
def x_mw (j : Nat) : Int32 := ([-1, -1, 0, -1, 3, 1, 0, -1, 2, 1, 0, -1, 2, 1, 0, -1] : List Int32).getD j 0
def x_mr (j : Nat) : Int32 := ([-1, -1, 0, 0, 3, 1, 1, 1, 2, 2, 2, 2, 3, 3, 3, 3] : List Int32).getD j 0
def x_ST (tw tr : Nat) (A : Nat → Prop) (U : State) (H : Heap) : Prop := va_Z RX0 "MAY_WRITE" "[I" (.ref tw) A U H ∧ va_T .int tw 16 (fun j => .int (x_mw j)) A U H ∧ va_Z RX0 "MAY_READ" "[I" (.ref tr) A U H ∧ va_T .int tr 16 (fun j => .int (x_mr j)) A U H
theorem x_ST.moved {tw tr : Nat} {A : Nat → Prop} {u U : State} {H : Heap} (hvm : u.vm.Alike U.vm) (h : x_ST tw tr A u H) : x_ST tw tr A U H := ⟨va_Z.moved hvm h.1, va_T.moved hvm h.2.1, va_Z.moved hvm h.2.2.1, va_T.moved hvm h.2.2.2⟩
theorem x_ST.use {tw tr : Nat} {A B : Nat → Prop} {s U : State} {H : Heap} {locs : List Loc} (h : x_ST tw tr A s s.heap) (hS : va_S A s.heap H locs) (hU : U.heap = H) (hW : s.WarmedH U.vm) (hB : ∀ q, B q → A q) : x_ST tw tr B U U.heap := by
  rw [hU]
  exact x_ST.moved hW.alike ⟨(h.1.kept hS.2.1).narrow hB, (h.2.1.kept hS.2.1).narrow hB, (h.2.2.1.kept hS.2.1).narrow hB, (h.2.2.2.kept hS.2.1).narrow hB⟩
-- starts and ends
abbrev x_BS (tw tr : Nat) : State → Prop := fun U => x_ST tw tr (fun _ => False) U U.heap
abbrev x_BP (dC : Nat → ClassId) (dI : Nat → Nat → Nat) (h : Nat → Nat) (cB cI : ClassId) (n : Nat) (σ : XS) : State → Prop := fun U => va_P (dC, dI) vwCl (x_ws h cB cI n σ) U.heap ∧ va_K (dC, dI) vwCl (x_tys cB cI) U
abbrev x_BM (dC : Nat → ClassId) (dI : Nat → Nat → Nat) (h : Nat → Nat) (cB cI : ClassId) (n : Nat) (sz : Nat) (σ : XS) : State → Prop := fun U => U.heap.size = sz ∧ va_P (dC, dI) vwCl (x_ws h cB cI n σ) U.heap ∧ va_K (dC, dI) vwCl (x_tys cB cI) U ∧ va_D (fun _ => True) (x_ws h cB cI n σ)
abbrev x_BMt (dC : Nat → ClassId) (dI : Nat → Nat → Nat) (h : Nat → Nat) (cB cI : ClassId) (n : Nat) (tw tr : Nat) (sz : Nat) (σ : XS) : State → Prop := fun U => U.heap.size = sz ∧ va_P (dC, dI) vwCl (x_ws h cB cI n σ) U.heap ∧ va_K (dC, dI) vwCl (x_tys cB cI) U ∧ va_D (fun _ => True) (x_ws h cB cI n σ) ∧ x_ST tw tr (va_A (x_ws h cB cI n σ) sz) U U.heap
abbrev x_at (dC : Nat → ClassId) (dI : Nat → Nat → Nat) (h : Nat → Nat) (cB cI : ClassId) (n : Nat) (A : Nat → Prop) (σ : XS) (t : State) : Prop := va_P (dC, dI) vwCl (x_ws h cB cI n σ) t.heap ∧ va_K (dC, dI) vwCl (x_tys cB cI) t ∧ va_D A (x_ws h cB cI n σ)
theorem fs_pre {s : State} {H : Heap} {As : List Value} : PreS s H (va_Pc As (fun _ => True)) As := ⟨fun _ _ _ _ q => ⟨q.1, trivial⟩, fun _ _ _ => ⟨rfl, trivial⟩⟩
theorem x_preS {s : State} {H : Heap} {As : List Value} {tw tr : Nat} {A : Nat → Prop} {locs : List Loc} (h : x_ST tw tr A s s.heap) (hS : va_S A s.heap H locs) : PreS s H (va_Pc As (x_BS tw tr)) As := ⟨fun a U g mk q => ⟨q.1, x_ST.moved (u := U) (U := U.calling g mk a) (Vm.Alike.refl U.vm) q.2⟩, fun U hU hW => ⟨rfl, h.use hS hU hW (fun _ z => z.elim)⟩⟩
section XW
variable {dC : Nat → ClassId} {dI : Nat → Nat → Nat} {h : Nat → Nat} {cB cI : ClassId} {n : Nat} {σ : XS} {s : State} {H : Heap} {As : List Value} {A : Nat → Prop} {locs : List Loc} {tw tr : Nat}
theorem x_preP (hK : va_K (dC, dI) vwCl (x_tys cB cI) s) (hP : va_P (dC, dI) vwCl (x_ws h cB cI n σ) H) : PreV s H RX0 (h 0) (va_Pc (.ref (h 0) :: As) (x_BP dC dI h cB cI n σ)) As := ⟨fun a U g mk q => ⟨q.1, q.2.1, va_K.moved (u := U) (U := U.calling g mk a) (Vm.Alike.refl U.vm) q.2.2⟩, va_recv hK hP (ci := 0) (q0 := 0) rfl rfl, fun U hU hW => ⟨rfl, by rw [hU]; exact hP, va_K.moved hW.alike hK⟩⟩
theorem x_preM (hK : va_K (dC, dI) vwCl (x_tys cB cI) s) (hP : va_P (dC, dI) vwCl (x_ws h cB cI n σ) H) (hD : va_D A (x_ws h cB cI n σ)) : PreV s H RX0 (h 0) (va_Pc (.ref (h 0) :: As) (x_BM dC dI h cB cI n H.size σ)) As := ⟨fun a U g mk q => ⟨q.1, q.2.1, q.2.2.1, va_K.moved (u := U) (U := U.calling g mk a) (Vm.Alike.refl U.vm) q.2.2.2.1, q.2.2.2.2⟩, va_recv hK hP (ci := 0) (q0 := 0) rfl rfl, fun U hU hW => ⟨rfl, by rw [hU], by rw [hU]; exact hP, va_K.moved hW.alike hK, hD.weaken (fun _ _ _ _ => trivial)⟩⟩
theorem x_preMt (hK : va_K (dC, dI) vwCl (x_tys cB cI) s) (hP : va_P (dC, dI) vwCl (x_ws h cB cI n σ) H) (hD : va_D A (x_ws h cB cI n σ)) (hST : x_ST tw tr A s s.heap) (hS : va_S A s.heap H locs) (hA : ∀ q : Nat, s.heap.size ≤ q → A q) : PreV s H RX0 (h 0) (va_Pc (.ref (h 0) :: As) (x_BMt dC dI h cB cI n tw tr H.size σ)) As := ⟨fun a U g mk q => ⟨q.1, q.2.1, q.2.2.1, va_K.moved (u := U) (U := U.calling g mk a) (Vm.Alike.refl U.vm) q.2.2.2.1, q.2.2.2.2.1, x_ST.moved (u := U) (U := U.calling g mk a) (Vm.Alike.refl U.vm) q.2.2.2.2.2⟩, va_recv hK hP (ci := 0) (q0 := 0) rfl rfl, fun U hU hW => ⟨rfl, by rw [hU], by rw [hU]; exact hP, va_K.moved hW.alike hK, hD.weaken (fun _ _ _ _ => trivial), hST.use hS hU hW (va_free (wc := x_ws h cB cI n σ) hD hS hA [0, 1, 2, 3, 4, 5, 6, 7] rfl)⟩⟩
variable {p : Program} {l : Launch} {e : Env} {R : Room} {m : MethodId} {args : Array Value} {below : List Frame} {meth : Method} {c : Code} {cells slots : Nat} {Q : State → Prop} {pc : Nat} {ls : Array Slot} {rest st0 : List Value} {a : Array Value}
theorem x_calli {f : Int32 × XS} (hr : va_Run p l e R s m args below meth c H locs cells slots 0 0 (F0 m pc ls st0) rest (va_Qi (fun (r : Int32) (u : XS) => f = (r, u)) (x_at dC dI h cB cI n (va_A (x_ws h cB cI n σ) H.size)) (va_A (x_ws h cB cI n σ) H.size) a) (va_A (x_ws h cB cI n σ) H.size)) (hP : va_P (dC, dI) vwCl (x_ws h cB cI n σ) H) (hD : va_D A (x_ws h cB cI n σ)) (hS : va_S A s.heap H locs) (hA : ∀ q : Nat, s.heap.size ≤ q → A q)
    (kk : ∀ (r : Int32) (u : XS) (H1 : Heap) (locs1 : List Loc), f = (r, u) → va_P (dC, dI) vwCl (x_ws h cB cI n u) H1 → va_D A (x_ws h cB cI n u) → va_S A s.heap H1 locs1 → W p l e R s m args below meth c H1 locs1 cells slots Q (F0 m (pc + 3) ls (.int r :: rest))) : W p l e R s m args below meth c H locs cells slots Q (F0 m pc ls st0) := by
  have hF := va_free (wc := x_ws h cB cI n σ) hD hS hA [0, 1, 2, 3, 4, 5, 6, 7] rfl
  refine va_calli hr hS (fun q _ z => hF q z) hF (fun r u t H1 locs ht hvm hw hB hz1 hk1 hS => ?_)
  obtain ⟨hP1, hK1, hD1⟩ := hB
  rw [ht] at hP1
  obtain ⟨hP2, hD2⟩ := va_join (wr := []) (w1 := x_ws h cB cI n u) hP hD [0, 1, 2, 3, 4, 5, 6, 7] [] rfl rfl (by decide) (by decide) hk1 hF hP1 hD1
  exact kk r u H1 locs hw hP2 hD2 hS
theorem x_calll {f : Int64 × XS} (hr : va_Run p l e R s m args below meth c H locs cells slots 0 0 (F0 m pc ls st0) rest (va_Ql (fun (r : Int64) (u : XS) => f = (r, u)) (x_at dC dI h cB cI n (va_A (x_ws h cB cI n σ) H.size)) (va_A (x_ws h cB cI n σ) H.size) a) (va_A (x_ws h cB cI n σ) H.size)) (hP : va_P (dC, dI) vwCl (x_ws h cB cI n σ) H) (hD : va_D A (x_ws h cB cI n σ)) (hS : va_S A s.heap H locs) (hA : ∀ q : Nat, s.heap.size ≤ q → A q)
    (kk : ∀ (r : Int64) (u : XS) (H1 : Heap) (locs1 : List Loc), f = (r, u) → va_P (dC, dI) vwCl (x_ws h cB cI n u) H1 → va_D A (x_ws h cB cI n u) → va_S A s.heap H1 locs1 → W p l e R s m args below meth c H1 locs1 cells slots Q (F0 m (pc + 3) ls (.long r :: rest))) : W p l e R s m args below meth c H locs cells slots Q (F0 m pc ls st0) := by
  have hF := va_free (wc := x_ws h cB cI n σ) hD hS hA [0, 1, 2, 3, 4, 5, 6, 7] rfl
  refine va_calll hr hS (fun q _ z => hF q z) hF (fun r u t H1 locs ht hvm hw hB hz1 hk1 hS => ?_)
  obtain ⟨hP1, hK1, hD1⟩ := hB
  rw [ht] at hP1
  obtain ⟨hP2, hD2⟩ := va_join (wr := []) (w1 := x_ws h cB cI n u) hP hD [0, 1, 2, 3, 4, 5, 6, 7] [] rfl rfl (by decide) (by decide) hk1 hF hP1 hD1
  exact kk r u H1 locs hw hP2 hD2 hS
theorem x_callv {f : XS} (hr : va_Run p l e R s m args below meth c H locs cells slots 0 0 (F0 m pc ls st0) rest (va_Qv (fun u : XS => f = u) (x_at dC dI h cB cI n (va_A (x_ws h cB cI n σ) H.size)) (va_A (x_ws h cB cI n σ) H.size) a) (va_A (x_ws h cB cI n σ) H.size)) (hP : va_P (dC, dI) vwCl (x_ws h cB cI n σ) H) (hD : va_D A (x_ws h cB cI n σ)) (hS : va_S A s.heap H locs) (hA : ∀ q : Nat, s.heap.size ≤ q → A q)
    (kk : ∀ (u : XS) (H1 : Heap) (locs1 : List Loc), f = u → va_P (dC, dI) vwCl (x_ws h cB cI n u) H1 → va_D A (x_ws h cB cI n u) → va_S A s.heap H1 locs1 → W p l e R s m args below meth c H1 locs1 cells slots Q (F0 m (pc + 3) ls rest)) : W p l e R s m args below meth c H locs cells slots Q (F0 m pc ls st0) := by
  have hF := va_free (wc := x_ws h cB cI n σ) hD hS hA [0, 1, 2, 3, 4, 5, 6, 7] rfl
  refine va_callv hr hS (fun q _ z => hF q z) hF (fun u t H1 locs ht hvm hw hB hz1 hk1 hS => ?_)
  obtain ⟨hP1, hK1, hD1⟩ := hB
  rw [ht] at hP1
  obtain ⟨hP2, hD2⟩ := va_join (wr := []) (w1 := x_ws h cB cI n u) hP hD [0, 1, 2, 3, 4, 5, 6, 7] [] rfl rfl (by decide) (by decide) hk1 hF hP1 hD1
  exact kk u H1 locs hw hP2 hD2 hS
end XW
-- Arrays.fill: its one array
def j_a (σ : Nat → Int32) : Nat → Int32 := σ
def j_sA (_ : Nat → Int32) (f : Nat → Int32) : Nat → Int32 := f
abbrev j_ws (h : Nat → Nat) (cI : ClassId) (N : Nat) (σ : Nat → Int32) : va_W := [(h 0, .inl (cI, N, .inl (j_a σ)))]
abbrev j_tys (cI : ClassId) : List (ClassId × FieldType) := [(cI, .int)]
abbrev j_BM (dC : Nat → ClassId) (dI : Nat → Nat → Nat) (h : Nat → Nat) (cI : ClassId) (N : Nat) (sz : Nat) (σ : Nat → Int32) : State → Prop := fun U => U.heap.size = sz ∧ va_P (dC, dI) vwCl (j_ws h cI N σ) U.heap ∧ va_K (dC, dI) vwCl (j_tys cI) U ∧ va_D (fun _ => True) (j_ws h cI N σ)
abbrev j_at (dC : Nat → ClassId) (dI : Nat → Nat → Nat) (h : Nat → Nat) (cI : ClassId) (N : Nat) (A : Nat → Prop) (σ : Nat → Int32) (t : State) : Prop := va_P (dC, dI) vwCl (j_ws h cI N σ) t.heap ∧ va_K (dC, dI) vwCl (j_tys cI) t ∧ va_D A (j_ws h cI N σ)
