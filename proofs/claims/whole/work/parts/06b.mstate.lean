theorem it_c {α : Type} {c : Prop} [Decidable c] {a b x : α} (e : (if c then a else b) = x) : (c ∧ a = x) ∨ (¬ c ∧ b = x) := by
  by_cases h : c
  · rw [if_pos h] at e; exact Or.inl ⟨h, e⟩
  · rw [if_neg h] at e; exact Or.inr ⟨h, e⟩
theorem kv_c {β γ : Type} {t : β} {k : β → γ} {x : γ} (e : kv t k = x) : ∃ w, t = w ∧ k w = x := ⟨t, rfl, e⟩
theorem kb_c {α β γ : Type} {t : α × β} {k : α → β → γ} {x : γ} (e : kb t k = x) : ∃ r w, t = (r, w) ∧ k r w = x := ⟨t.1, t.2, rfl, e⟩
-- words for the state of the reference
abbrev MS : Type := (Nat → Int32) × (Nat → Int32) × (Nat → Int32) × (Nat → Int32) × (Nat → Int32) × (Nat → Int32) × (Nat → Int32) × (Nat → Int32) × (Nat → Int32) × Int32 × Int32 × Int32 × Int32
def m_mem (σ : MS) : Nat → Int32 := σ.1
def m_bas (σ : MS) : Nat → Int32 := σ.2.1
def m_len (σ : MS) : Nat → Int32 := σ.2.2.1
def m_pg (σ : MS) : Nat → Int32 := σ.2.2.2.1
def m_en (σ : MS) : Nat → Int32 := σ.2.2.2.2.1
def m_pc (σ : MS) : Nat → Int32 := σ.2.2.2.2.2.1
def m_wr (σ : MS) : Nat → Int32 := σ.2.2.2.2.2.2.1
def m_rd (σ : MS) : Nat → Int32 := σ.2.2.2.2.2.2.2.1
def m_li (σ : MS) : Nat → Int32 := σ.2.2.2.2.2.2.2.2.1
def m_on (σ : MS) : Int32 := σ.2.2.2.2.2.2.2.2.2.1
def m_fa (σ : MS) : Int32 := σ.2.2.2.2.2.2.2.2.2.2.1
def m_lk (σ : MS) : Int32 := σ.2.2.2.2.2.2.2.2.2.2.2.1
def m_ad (σ : MS) : Int32 := σ.2.2.2.2.2.2.2.2.2.2.2.2
def m_sMem (σ : MS) (f : Nat → Int32) : MS := (f, m_bas σ, m_len σ, m_pg σ, m_en σ, m_pc σ, m_wr σ, m_rd σ, m_li σ, m_on σ, m_fa σ, m_lk σ, m_ad σ)
def m_sBas (σ : MS) (f : Nat → Int32) : MS := (m_mem σ, f, m_len σ, m_pg σ, m_en σ, m_pc σ, m_wr σ, m_rd σ, m_li σ, m_on σ, m_fa σ, m_lk σ, m_ad σ)
def m_sLen (σ : MS) (f : Nat → Int32) : MS := (m_mem σ, m_bas σ, f, m_pg σ, m_en σ, m_pc σ, m_wr σ, m_rd σ, m_li σ, m_on σ, m_fa σ, m_lk σ, m_ad σ)
def m_sPg (σ : MS) (f : Nat → Int32) : MS := (m_mem σ, m_bas σ, m_len σ, f, m_en σ, m_pc σ, m_wr σ, m_rd σ, m_li σ, m_on σ, m_fa σ, m_lk σ, m_ad σ)
def m_sEn (σ : MS) (f : Nat → Int32) : MS := (m_mem σ, m_bas σ, m_len σ, m_pg σ, f, m_pc σ, m_wr σ, m_rd σ, m_li σ, m_on σ, m_fa σ, m_lk σ, m_ad σ)
def m_sPc (σ : MS) (f : Nat → Int32) : MS := (m_mem σ, m_bas σ, m_len σ, m_pg σ, m_en σ, f, m_wr σ, m_rd σ, m_li σ, m_on σ, m_fa σ, m_lk σ, m_ad σ)
def m_sWr (σ : MS) (f : Nat → Int32) : MS := (m_mem σ, m_bas σ, m_len σ, m_pg σ, m_en σ, m_pc σ, f, m_rd σ, m_li σ, m_on σ, m_fa σ, m_lk σ, m_ad σ)
def m_sRd (σ : MS) (f : Nat → Int32) : MS := (m_mem σ, m_bas σ, m_len σ, m_pg σ, m_en σ, m_pc σ, m_wr σ, f, m_li σ, m_on σ, m_fa σ, m_lk σ, m_ad σ)
def m_sLi (σ : MS) (f : Nat → Int32) : MS := (m_mem σ, m_bas σ, m_len σ, m_pg σ, m_en σ, m_pc σ, m_wr σ, m_rd σ, f, m_on σ, m_fa σ, m_lk σ, m_ad σ)
def m_sOn (σ : MS) (f : Int32) : MS := (m_mem σ, m_bas σ, m_len σ, m_pg σ, m_en σ, m_pc σ, m_wr σ, m_rd σ, m_li σ, f, m_fa σ, m_lk σ, m_ad σ)
def m_sFa (σ : MS) (f : Int32) : MS := (m_mem σ, m_bas σ, m_len σ, m_pg σ, m_en σ, m_pc σ, m_wr σ, m_rd σ, m_li σ, m_on σ, f, m_lk σ, m_ad σ)
def m_sLk (σ : MS) (f : Int32) : MS := (m_mem σ, m_bas σ, m_len σ, m_pg σ, m_en σ, m_pc σ, m_wr σ, m_rd σ, m_li σ, m_on σ, m_fa σ, f, m_ad σ)
def m_sAd (σ : MS) (f : Int32) : MS := (m_mem σ, m_bas σ, m_len σ, m_pg σ, m_en σ, m_pc σ, m_wr σ, m_rd σ, m_li σ, m_on σ, m_fa σ, m_lk σ, f)
abbrev m_ws (h : Nat → Nat) (cI : ClassId) (n : Nat) (σ : MS) : va_W := [(h 0, .inr (1, [.ref (h 1), .int (nI n), .ref (h 2), .ref (h 3), .int (m_on σ), .ref (h 4), .ref (h 5), .ref (h 6), .ref (h 7), .ref (h 8), .ref (h 9), .int (m_fa σ), .int (m_lk σ), .int (m_ad σ)])), (h 1, .inl (cI, 2048, .inl (m_mem σ))), (h 2, .inl (cI, 3, .inl (m_bas σ))), (h 3, .inl (cI, 3, .inl (m_len σ))), (h 4, .inl (cI, 16, .inl (m_pg σ))), (h 5, .inl (cI, 16, .inl (m_en σ))), (h 6, .inl (cI, 16, .inl (m_pc σ))), (h 7, .inl (cI, 16, .inl (m_wr σ))), (h 8, .inl (cI, 16, .inl (m_rd σ))), (h 9, .inl (cI, 4, .inl (m_li σ)))]
abbrev m_tys (cI : ClassId) : List (ClassId × FieldType) := [(cI, .int)]
abbrev m_BP (dC : Nat → ClassId) (dI : Nat → Nat → Nat) (h : Nat → Nat) (cI : ClassId) (n : Nat) (σ : MS) : State → Prop := fun U => va_P (dC, dI) vwCl (m_ws h cI n σ) U.heap ∧ va_K (dC, dI) vwCl (m_tys cI) U
abbrev m_BM (dC : Nat → ClassId) (dI : Nat → Nat → Nat) (h : Nat → Nat) (cI : ClassId) (n : Nat) (sz : Nat) (σ : MS) : State → Prop := fun U => U.heap.size = sz ∧ va_P (dC, dI) vwCl (m_ws h cI n σ) U.heap ∧ va_K (dC, dI) vwCl (m_tys cI) U ∧ va_D (fun _ => True) (m_ws h cI n σ)
abbrev m_at (dC : Nat → ClassId) (dI : Nat → Nat → Nat) (h : Nat → Nat) (cI : ClassId) (n : Nat) (A : Nat → Prop) (σ : MS) (t : State) : Prop := va_P (dC, dI) vwCl (m_ws h cI n σ) t.heap ∧ va_K (dC, dI) vwCl (m_tys cI) t ∧ va_D A (m_ws h cI n σ)
section MW
variable {dC : Nat → ClassId} {dI : Nat → Nat → Nat} {h : Nat → Nat} {cI : ClassId} {n : Nat} {σ : MS} {s : State} {H : Heap} {As : List Value} {A : Nat → Prop} {locs : List Loc} 
theorem m_preP (hK : va_K (dC, dI) vwCl (m_tys cI) s) (hP : va_P (dC, dI) vwCl (m_ws h cI n σ) H) : PreV s H RX1 (h 0) (va_Pc (.ref (h 0) :: As) (m_BP dC dI h cI n σ)) As := ⟨fun a U g mk q => ⟨q.1, q.2.1, va_K.moved (u := U) (U := U.calling g mk a) (Vm.Alike.refl U.vm) q.2.2⟩, va_recv hK hP (ci := 1) (q0 := 0) rfl rfl, fun U hU hW => ⟨rfl, by rw [hU]; exact hP, va_K.moved hW.alike hK⟩⟩
theorem m_preM (hK : va_K (dC, dI) vwCl (m_tys cI) s) (hP : va_P (dC, dI) vwCl (m_ws h cI n σ) H) (hD : va_D A (m_ws h cI n σ)) : PreV s H RX1 (h 0) (va_Pc (.ref (h 0) :: As) (m_BM dC dI h cI n H.size σ)) As := ⟨fun a U g mk q => ⟨q.1, q.2.1, q.2.2.1, va_K.moved (u := U) (U := U.calling g mk a) (Vm.Alike.refl U.vm) q.2.2.2.1, q.2.2.2.2⟩, va_recv hK hP (ci := 1) (q0 := 0) rfl rfl, fun U hU hW => ⟨rfl, by rw [hU], by rw [hU]; exact hP, va_K.moved hW.alike hK, hD.weaken (fun _ _ _ _ => trivial)⟩⟩
variable {p : Program} {l : Launch} {e : Env} {R : Room} {m : MethodId} {args : Array Value} {below : List Frame} {meth : Method} {c : Code} {cells slots : Nat} {Q : State → Prop} {pc : Nat} {ls : Array Slot} {rest st0 : List Value} {a : Array Value}
theorem m_calli {f : Int32 × MS} (hr : va_Run p l e R s m args below meth c H locs cells slots 0 0 (F0 m pc ls st0) rest (va_Qi (fun (r : Int32) (u : MS) => f = (r, u)) (m_at dC dI h cI n (va_A (m_ws h cI n σ) H.size)) (va_A (m_ws h cI n σ) H.size) a) (va_A (m_ws h cI n σ) H.size)) (hP : va_P (dC, dI) vwCl (m_ws h cI n σ) H) (hD : va_D A (m_ws h cI n σ)) (hS : va_S A s.heap H locs) (hA : ∀ q : Nat, s.heap.size ≤ q → A q)
    (kk : ∀ (r : Int32) (u : MS) (H1 : Heap) (locs1 : List Loc), f = (r, u) → va_P (dC, dI) vwCl (m_ws h cI n u) H1 → va_D A (m_ws h cI n u) → va_S A s.heap H1 locs1 → W p l e R s m args below meth c H1 locs1 cells slots Q (F0 m (pc + 3) ls (.int r :: rest))) : W p l e R s m args below meth c H locs cells slots Q (F0 m pc ls st0) := by
  have hF := va_free (wc := m_ws h cI n σ) hD hS hA [0, 1, 2, 3, 4, 5, 6, 7, 8, 9] rfl
  refine va_calli hr hS (fun q _ z => hF q z) hF (fun r u t H1 locs ht hvm hw hB hz1 hk1 hS => ?_)
  obtain ⟨hP1, hK1, hD1⟩ := hB
  rw [ht] at hP1
  obtain ⟨hP2, hD2⟩ := va_join (wr := []) (w1 := m_ws h cI n u) hP hD [0, 1, 2, 3, 4, 5, 6, 7, 8, 9] [] rfl rfl (by decide) (by decide) hk1 hF hP1 hD1
  exact kk r u H1 locs hw hP2 hD2 hS
theorem m_calll {f : Int64 × MS} (hr : va_Run p l e R s m args below meth c H locs cells slots 0 0 (F0 m pc ls st0) rest (va_Ql (fun (r : Int64) (u : MS) => f = (r, u)) (m_at dC dI h cI n (va_A (m_ws h cI n σ) H.size)) (va_A (m_ws h cI n σ) H.size) a) (va_A (m_ws h cI n σ) H.size)) (hP : va_P (dC, dI) vwCl (m_ws h cI n σ) H) (hD : va_D A (m_ws h cI n σ)) (hS : va_S A s.heap H locs) (hA : ∀ q : Nat, s.heap.size ≤ q → A q)
    (kk : ∀ (r : Int64) (u : MS) (H1 : Heap) (locs1 : List Loc), f = (r, u) → va_P (dC, dI) vwCl (m_ws h cI n u) H1 → va_D A (m_ws h cI n u) → va_S A s.heap H1 locs1 → W p l e R s m args below meth c H1 locs1 cells slots Q (F0 m (pc + 3) ls (.long r :: rest))) : W p l e R s m args below meth c H locs cells slots Q (F0 m pc ls st0) := by
  have hF := va_free (wc := m_ws h cI n σ) hD hS hA [0, 1, 2, 3, 4, 5, 6, 7, 8, 9] rfl
  refine va_calll hr hS (fun q _ z => hF q z) hF (fun r u t H1 locs ht hvm hw hB hz1 hk1 hS => ?_)
  obtain ⟨hP1, hK1, hD1⟩ := hB
  rw [ht] at hP1
  obtain ⟨hP2, hD2⟩ := va_join (wr := []) (w1 := m_ws h cI n u) hP hD [0, 1, 2, 3, 4, 5, 6, 7, 8, 9] [] rfl rfl (by decide) (by decide) hk1 hF hP1 hD1
  exact kk r u H1 locs hw hP2 hD2 hS
theorem m_callv {f : MS} (hr : va_Run p l e R s m args below meth c H locs cells slots 0 0 (F0 m pc ls st0) rest (va_Qv (fun u : MS => f = u) (m_at dC dI h cI n (va_A (m_ws h cI n σ) H.size)) (va_A (m_ws h cI n σ) H.size) a) (va_A (m_ws h cI n σ) H.size)) (hP : va_P (dC, dI) vwCl (m_ws h cI n σ) H) (hD : va_D A (m_ws h cI n σ)) (hS : va_S A s.heap H locs) (hA : ∀ q : Nat, s.heap.size ≤ q → A q)
    (kk : ∀ (u : MS) (H1 : Heap) (locs1 : List Loc), f = u → va_P (dC, dI) vwCl (m_ws h cI n u) H1 → va_D A (m_ws h cI n u) → va_S A s.heap H1 locs1 → W p l e R s m args below meth c H1 locs1 cells slots Q (F0 m (pc + 3) ls rest)) : W p l e R s m args below meth c H locs cells slots Q (F0 m pc ls st0) := by
  have hF := va_free (wc := m_ws h cI n σ) hD hS hA [0, 1, 2, 3, 4, 5, 6, 7, 8, 9] rfl
  refine va_callv hr hS (fun q _ z => hF q z) hF (fun u t H1 locs ht hvm hw hB hz1 hk1 hS => ?_)
  obtain ⟨hP1, hK1, hD1⟩ := hB
  rw [ht] at hP1
  obtain ⟨hP2, hD2⟩ := va_join (wr := []) (w1 := m_ws h cI n u) hP hD [0, 1, 2, 3, 4, 5, 6, 7, 8, 9] [] rfl rfl (by decide) (by decide) hk1 hF hP1 hD1
  exact kk u H1 locs hw hP2 hD2 hS
end MW
section MR
variable {D : va_G} {h : Nat → Nat} {cI : ClassId} {n : Nat} {σ : MS} {H : Heap} {A : Nat → Prop}
theorem m_pMem {f : Nat → Int32} (hP : va_P D vwCl ((m_ws h cI n σ).set 1 (h 1, .inl (cI, 2048, .inl f))) H) : va_P D vwCl (m_ws h cI n (m_sMem σ f)) H := hP
theorem m_dMem {f : Nat → Int32} (hD : va_D A ((m_ws h cI n σ).set 1 (h 1, .inl (cI, 2048, .inl f)))) : va_D A (m_ws h cI n (m_sMem σ f)) := hD
theorem m_pBas {f : Nat → Int32} (hP : va_P D vwCl ((m_ws h cI n σ).set 2 (h 2, .inl (cI, 3, .inl f))) H) : va_P D vwCl (m_ws h cI n (m_sBas σ f)) H := hP
theorem m_dBas {f : Nat → Int32} (hD : va_D A ((m_ws h cI n σ).set 2 (h 2, .inl (cI, 3, .inl f)))) : va_D A (m_ws h cI n (m_sBas σ f)) := hD
theorem m_pLen {f : Nat → Int32} (hP : va_P D vwCl ((m_ws h cI n σ).set 3 (h 3, .inl (cI, 3, .inl f))) H) : va_P D vwCl (m_ws h cI n (m_sLen σ f)) H := hP
theorem m_dLen {f : Nat → Int32} (hD : va_D A ((m_ws h cI n σ).set 3 (h 3, .inl (cI, 3, .inl f)))) : va_D A (m_ws h cI n (m_sLen σ f)) := hD
theorem m_pPg {f : Nat → Int32} (hP : va_P D vwCl ((m_ws h cI n σ).set 4 (h 4, .inl (cI, 16, .inl f))) H) : va_P D vwCl (m_ws h cI n (m_sPg σ f)) H := hP
theorem m_dPg {f : Nat → Int32} (hD : va_D A ((m_ws h cI n σ).set 4 (h 4, .inl (cI, 16, .inl f)))) : va_D A (m_ws h cI n (m_sPg σ f)) := hD
theorem m_pEn {f : Nat → Int32} (hP : va_P D vwCl ((m_ws h cI n σ).set 5 (h 5, .inl (cI, 16, .inl f))) H) : va_P D vwCl (m_ws h cI n (m_sEn σ f)) H := hP
theorem m_dEn {f : Nat → Int32} (hD : va_D A ((m_ws h cI n σ).set 5 (h 5, .inl (cI, 16, .inl f)))) : va_D A (m_ws h cI n (m_sEn σ f)) := hD
theorem m_pPc {f : Nat → Int32} (hP : va_P D vwCl ((m_ws h cI n σ).set 6 (h 6, .inl (cI, 16, .inl f))) H) : va_P D vwCl (m_ws h cI n (m_sPc σ f)) H := hP
theorem m_dPc {f : Nat → Int32} (hD : va_D A ((m_ws h cI n σ).set 6 (h 6, .inl (cI, 16, .inl f)))) : va_D A (m_ws h cI n (m_sPc σ f)) := hD
theorem m_pWr {f : Nat → Int32} (hP : va_P D vwCl ((m_ws h cI n σ).set 7 (h 7, .inl (cI, 16, .inl f))) H) : va_P D vwCl (m_ws h cI n (m_sWr σ f)) H := hP
theorem m_dWr {f : Nat → Int32} (hD : va_D A ((m_ws h cI n σ).set 7 (h 7, .inl (cI, 16, .inl f)))) : va_D A (m_ws h cI n (m_sWr σ f)) := hD
theorem m_pRd {f : Nat → Int32} (hP : va_P D vwCl ((m_ws h cI n σ).set 8 (h 8, .inl (cI, 16, .inl f))) H) : va_P D vwCl (m_ws h cI n (m_sRd σ f)) H := hP
theorem m_dRd {f : Nat → Int32} (hD : va_D A ((m_ws h cI n σ).set 8 (h 8, .inl (cI, 16, .inl f)))) : va_D A (m_ws h cI n (m_sRd σ f)) := hD
theorem m_pLi {f : Nat → Int32} (hP : va_P D vwCl ((m_ws h cI n σ).set 9 (h 9, .inl (cI, 4, .inl f))) H) : va_P D vwCl (m_ws h cI n (m_sLi σ f)) H := hP
theorem m_dLi {f : Nat → Int32} (hD : va_D A ((m_ws h cI n σ).set 9 (h 9, .inl (cI, 4, .inl f)))) : va_D A (m_ws h cI n (m_sLi σ f)) := hD
theorem m_pOn {f : Int32} (hP : va_P D vwCl ((m_ws h cI n σ).set 0 (h 0, .inr (1, ([.ref (h 1), .int (nI n), .ref (h 2), .ref (h 3), .int (m_on σ), .ref (h 4), .ref (h 5), .ref (h 6), .ref (h 7), .ref (h 8), .ref (h 9), .int (m_fa σ), .int (m_lk σ), .int (m_ad σ)] : List Value).set 4 (.int f)))) H) : va_P D vwCl (m_ws h cI n (m_sOn σ f)) H := hP
theorem m_dOn {f : Int32} (hD : va_D A ((m_ws h cI n σ).set 0 (h 0, .inr (1, ([.ref (h 1), .int (nI n), .ref (h 2), .ref (h 3), .int (m_on σ), .ref (h 4), .ref (h 5), .ref (h 6), .ref (h 7), .ref (h 8), .ref (h 9), .int (m_fa σ), .int (m_lk σ), .int (m_ad σ)] : List Value).set 4 (.int f))))) : va_D A (m_ws h cI n (m_sOn σ f)) := hD
theorem m_pFa {f : Int32} (hP : va_P D vwCl ((m_ws h cI n σ).set 0 (h 0, .inr (1, ([.ref (h 1), .int (nI n), .ref (h 2), .ref (h 3), .int (m_on σ), .ref (h 4), .ref (h 5), .ref (h 6), .ref (h 7), .ref (h 8), .ref (h 9), .int (m_fa σ), .int (m_lk σ), .int (m_ad σ)] : List Value).set 11 (.int f)))) H) : va_P D vwCl (m_ws h cI n (m_sFa σ f)) H := hP
theorem m_dFa {f : Int32} (hD : va_D A ((m_ws h cI n σ).set 0 (h 0, .inr (1, ([.ref (h 1), .int (nI n), .ref (h 2), .ref (h 3), .int (m_on σ), .ref (h 4), .ref (h 5), .ref (h 6), .ref (h 7), .ref (h 8), .ref (h 9), .int (m_fa σ), .int (m_lk σ), .int (m_ad σ)] : List Value).set 11 (.int f))))) : va_D A (m_ws h cI n (m_sFa σ f)) := hD
theorem m_pLk {f : Int32} (hP : va_P D vwCl ((m_ws h cI n σ).set 0 (h 0, .inr (1, ([.ref (h 1), .int (nI n), .ref (h 2), .ref (h 3), .int (m_on σ), .ref (h 4), .ref (h 5), .ref (h 6), .ref (h 7), .ref (h 8), .ref (h 9), .int (m_fa σ), .int (m_lk σ), .int (m_ad σ)] : List Value).set 12 (.int f)))) H) : va_P D vwCl (m_ws h cI n (m_sLk σ f)) H := hP
theorem m_dLk {f : Int32} (hD : va_D A ((m_ws h cI n σ).set 0 (h 0, .inr (1, ([.ref (h 1), .int (nI n), .ref (h 2), .ref (h 3), .int (m_on σ), .ref (h 4), .ref (h 5), .ref (h 6), .ref (h 7), .ref (h 8), .ref (h 9), .int (m_fa σ), .int (m_lk σ), .int (m_ad σ)] : List Value).set 12 (.int f))))) : va_D A (m_ws h cI n (m_sLk σ f)) := hD
theorem m_pAd {f : Int32} (hP : va_P D vwCl ((m_ws h cI n σ).set 0 (h 0, .inr (1, ([.ref (h 1), .int (nI n), .ref (h 2), .ref (h 3), .int (m_on σ), .ref (h 4), .ref (h 5), .ref (h 6), .ref (h 7), .ref (h 8), .ref (h 9), .int (m_fa σ), .int (m_lk σ), .int (m_ad σ)] : List Value).set 13 (.int f)))) H) : va_P D vwCl (m_ws h cI n (m_sAd σ f)) H := hP
theorem m_dAd {f : Int32} (hD : va_D A ((m_ws h cI n σ).set 0 (h 0, .inr (1, ([.ref (h 1), .int (nI n), .ref (h 2), .ref (h 3), .int (m_on σ), .ref (h 4), .ref (h 5), .ref (h 6), .ref (h 7), .ref (h 8), .ref (h 9), .int (m_fa σ), .int (m_lk σ), .int (m_ad σ)] : List Value).set 13 (.int f))))) : va_D A (m_ws h cI n (m_sAd σ f)) := hD
end MR

