set_option maxHeartbeats 8000000 in
set_option maxRecDepth 100000 in
theorem law_loop {p : Program} {l : Launch} {e : Env} {s : State} {m : MethodId} {below : List Frame} {meth : Method} {c : Code} {dC : Nat → ClassId} {dI : Nat → Nat → Nat} {b L : Nat} {xs : Nat → Int32} (hL : L ≤ 2561) (C0 : lw_At p s m meth c b L xs) {h g : Nat → Nat} {cB cI cM : ClassId} {n tw tr : Nat} (hn : n ≤ 2048) (hK : va_K (dC, dI) vwCl (lw_tys cB cI cM) s) (hST : x_ST tw tr (lw_A s) s s.heap) : ∀ (f j : Nat) (i : Int32) (σ : XS) (μ : MS) (H : Heap) (locs : List Loc) (ls : Array Slot), i = nI j → j ≤ L + 5 → L + 6 ≤ j + f → sR n σ μ → va_P (dC, dI) vwCl (lw_ws h cB cI g cM n σ μ) H → va_D (lw_A s) (lw_ws h cB cI g cM n σ μ) → va_S (lw_A s) s.heap H locs → lv_has ls 4 [(0, .ref b), (1, .ref (h 0)), (2, .ref (g 0)), (3, .int i)] → W p l e room_1 s m #[Value.ref b] below meth c H locs 18 4267 (lw_Z below #[Value.ref b] s) (F0 m 28 ls []) := by
  have C1 := C0
  obtain ⟨hx, hb, hr, hml, hown0, hts, hX, hbl, hlocks, hgv⟩ := C0
  have hown : s.vm.findClass RL = some m.cls := hown0
  have hA : ∀ q : Nat, s.heap.size ≤ q → (lw_A s) q := fun _ h => h
  have hbA : ¬ (lw_A s) b := Nat.not_le.mpr hbl
  intro f
  induction f with
  | zero => intro j i σ μ H locs ls ei h1 h2; exact absurd h2 (by omega)
  | succ f ih =>
    intro j i σ μ H locs ls ei h1 h2 hR hP hD hS hl
    refine lv_iload_n hx hb dL_law_28 rfl (lv_at hl 3 rfl) ?_
    refine lv_aload_n hx hb dL_law_29 rfl (lv_at hl 0 rfl) ?_
    refine va_slen hx hb hX hbl hbA hS dL_law_30 ?_
    refine lv_iconst (v := 5) hx hb dL_law_31 (by decide) ?_
    refine lv_isub hx hb dL_law_32 ?_
    refine lv_icmp_gt (tgt := 565) hx hb dL_law_33 (by decide) (fun c_1 => ?_) (fun c_1 => ?_)
    · refine lv_iconst (v := 1) hx hb dL_law_565 (by decide) ?_
      refine va_forget (fun q hq => hS.2.2 q hq) ?_
      refine W.widen (k := 600000) (n := 7302250) (by decide) (by decide) ?_
      exact lw_ret hx hb hr hlocks dL_law_566
    · have hfit : j + 5 ≤ L := lw_fit hL (by omega) (by rw [← ei]; exact c_1)
      refine lv_aload_n hx hb dL_law_36 rfl (lv_at hl 0 rfl) ?_
      refine lv_iload_n hx hb dL_law_37 rfl (lv_at hl 3 rfl) ?_
      refine va_sld hx hb hX hbl hbA hS (lw_ix0 ei hL hfit) dL_law_38 ?_
      refine lv_bipush (v := 15) hx hb dL_law_39 (by decide) ?_
      refine lv_iand hx hb dL_law_41 ?_
      have kk : ∀ (σ : XS) (μ : MS) (H : Heap) (locs : List Loc) (ls : Array Slot), sR n σ μ → va_P (dC, dI) vwCl (lw_ws h cB cI g cM n σ μ) H → va_D (lw_A s) (lw_ws h cB cI g cM n σ μ) → va_S (lw_A s) s.heap H locs → lv_has ls 4 [(0, .ref b), (1, .ref (h 0)), (2, .ref (g 0)), (3, .int i)] → W p l e room_1 s m #[Value.ref b] below meth c H locs 18 4267 (lw_Z below #[Value.ref b] s) (F0 m 559 ls []) := by
        intro σ μ H locs ls hR hP hD hS hl
        refine lv_iinc (v := (i + 5)) (lv' := [(3, .int (i + 5)), (0, .ref b), (1, .ref (h 0)), (2, .ref (g 0))]) hx hb dL_law_559 hl (k := 3) rfl rfl (by decide) rfl (fun ls hl => ?_)
        refine lv_goto (tgt := 28) hx hb dL_law_562 (by decide) ?_
        exact ih (j + 5) (i + 5) σ μ H locs ls (by rw [ei]; exact nI_add j 5) (by omega) (by omega) hR hP hD hS (lv_sub hl [1, 2, 3, 0] rfl)
      obtain ⟨v, hv, ev⟩ := pk_andE (xs i.toNatClampNeg) (m := 15) 4 (by decide)
      rw [ev]
      rcases (show v = 0 ∨ v = 1 ∨ v = 2 ∨ v = 3 ∨ v = 4 ∨ v = 5 ∨ v = 6 ∨ v = 7 ∨ v = 8 ∨ v = 9 ∨ v = 10 ∨ v = 11 ∨ v = 12 ∨ v = 13 ∨ v = 14 ∨ v = 15 by omega) with rfl | rfl | rfl | rfl | rfl | rfl | rfl | rfl | rfl | rfl | rfl | rfl | rfl | rfl | rfl | rfl
      · refine lv_tableIn (off := 62) (tgt := 104) hx hb dL_law_42 (by decide) (by decide) rfl (by decide) ?_
        exact law_put hL C1 hn hK hST ei hfit hR hP hD hS hl kk
      · refine lv_tableIn (off := 95) (tgt := 137) hx hb dL_law_42 (by decide) (by decide) rfl (by decide) ?_
        exact law_entry hL C1 hn hK hST ei hfit hR hP hD hS hl kk
      · refine lv_tableIn (off := 128) (tgt := 170) hx hb dL_law_42 (by decide) (by decide) rfl (by decide) ?_
        exact law_entryOf hL C1 hn hK hST ei hfit hR hP hD hS hl kk
      · refine lv_tableIn (off := 152) (tgt := 194) hx hb dL_law_42 (by decide) (by decide) rfl (by decide) ?_
        exact law_region hL C1 hn hK hST ei hfit hR hP hD hS hl kk
      · refine lv_tableIn (off := 195) (tgt := 237) hx hb dL_law_42 (by decide) (by decide) rfl (by decide) ?_
        exact law_map hL C1 hn hK hST ei hfit hR hP hD hS hl kk
      · refine lv_tableIn (off := 232) (tgt := 274) hx hb dL_law_42 (by decide) (by decide) rfl (by decide) ?_
        exact law_drop hL C1 hn hK hST ei hfit hR hP hD hS hl kk
      · refine lv_tableIn (off := 255) (tgt := 297) hx hb dL_law_42 (by decide) (by decide) rfl (by decide) ?_
        exact law_read hL C1 hn hK hST ei hfit hR hP hD hS hl kk
      · refine lv_tableIn (off := 299) (tgt := 341) hx hb dL_law_42 (by decide) (by decide) rfl (by decide) ?_
        exact law_write hL C1 hn hK hST ei hfit hR hP hD hS hl kk
      · refine lv_tableIn (off := 352) (tgt := 394) hx hb dL_law_42 (by decide) (by decide) rfl (by decide) ?_
        exact law_where hL C1 hn hK hST ei hfit hR hP hD hS hl kk
      · refine lv_tableIn (off := 411) (tgt := 453) hx hb dL_law_42 (by decide) (by decide) rfl (by decide) ?_
        exact law_may hL C1 hn hK hST ei hfit hR hP hD hS hl kk
      · refine lv_tableIn (off := 470) (tgt := 512) hx hb dL_law_42 (by decide) (by decide) rfl (by decide) ?_
        exact law_kept hL C1 hn hK hST ei hfit hR hP hD hS hl kk
      · refine lv_tableIn (off := 504) (tgt := 546) hx hb dL_law_42 (by decide) (by decide) rfl (by decide) ?_
        exact law_failed hL C1 hn hK hST ei hfit hR hP hD hS hl kk
      · refine lv_tableOut (tgt := 559) hx hb dL_law_42 (by decide) (by decide) ?_
        exact kk σ μ H locs ls hR hP hD hS hl
      · refine lv_tableOut (tgt := 559) hx hb dL_law_42 (by decide) (by decide) ?_
        exact kk σ μ H locs ls hR hP hD hS hl
      · refine lv_tableOut (tgt := 559) hx hb dL_law_42 (by decide) (by decide) ?_
        exact kk σ μ H locs ls hR hP hD hS hl
      · refine lv_tableOut (tgt := 559) hx hb dL_law_42 (by decide) (by decide) ?_
        exact kk σ μ H locs ls hR hP hD hS hl
