abbrev rmX4_run : Room := { frames := 2, cells := 0, slots := 0, locals := 80 }
set_option maxRecDepth 100000 in
set_option maxHeartbeats 4000000 in
theorem c_X4_run (l : Launch) (G : va_G) (cI : ClassId) (sz : Nat) (mq mp m1 m2 m3 m4 m5 m6 m7 m8 m9 : Nat) (n org : Nat) (th ent kn gp ln : Int) (w : MS) (b k til : Int) (h_w : MB w b) (h_bb : b < 2147400000) (h_k : rg k) (h_t : rg til) : Met l yX4_run wsX4_run rmX4_run (zPre G cI [oR mq th (↑n) mp (↑org) ent kn gp ln m1 m2 m3 m4 m5 m6 m7 m8 w.2.2.2.1 w.2.2.2.2.1 w.2.2.2.2.2.1 w.2.2.2.2.2.2 m9, aI cI m7 256 w.1, aI cI m8 8 w.2.1, aI cI m9 32 w.2.2.1] sz [.ref mq, .int (iZ (k)), .int (iZ (til))]) (va_Qi (fun (r : Int32) (u : Int × MS) => u.1 = (if (0 ≤ k ∧ k ≤ 4000) ∧ -1 ≤ til ∧ til ≤ 255 then 0 else 1) ∧ (u.1 = 0 → u.2 = (mrun til k.toNat w).2 ∧ r = iZ (↑(mrun til k.toNat w).1)) ∧ (u.1 ≠ 0 → u.2 = w)) (fun (u : Int × MS) t => zB G cI (va_A [oR mq th (↑n) mp (↑org) ent kn gp ln m1 m2 m3 m4 m5 m6 m7 m8 w.2.2.2.1 w.2.2.2.2.1 w.2.2.2.2.2.1 w.2.2.2.2.2.2 m9, aI cI m7 256 w.1, aI cI m8 8 w.2.1, aI cI m9 32 w.2.2.1] sz) [oR mq u.1 (↑n) mp (↑org) ent kn gp ln m1 m2 m3 m4 m5 m6 m7 m8 u.2.2.2.2.1 u.2.2.2.2.2.1 u.2.2.2.2.2.2.1 u.2.2.2.2.2.2.2 m9, aI cI m7 256 u.2.1, aI cI m8 8 u.2.2.1, aI cI m9 32 u.2.2.2.1] t) (va_A [oR mq th (↑n) mp (↑org) ent kn gp ln m1 m2 m3 m4 m5 m6 m7 m8 w.2.2.2.1 w.2.2.2.2.1 w.2.2.2.2.2.1 w.2.2.2.2.2.2 m9, aI cI m7 256 w.1, aI cI m8 8 w.2.1, aI cI m9 32 w.2.2.1] sz)) 0 0 (va_A [oR mq th (↑n) mp (↑org) ent kn gp ln m1 m2 m3 m4 m5 m6 m7 m8 w.2.2.2.1 w.2.2.2.2.1 w.2.2.2.2.2.1 w.2.2.2.2.2.2 m9, aI cI m7 256 w.1, aI cI m8 8 w.2.1, aI cI m9 32 w.2.2.1] sz) := by
  refine zm_i (W1 := fun (u : Int × MS) => [oR mq u.1 (↑n) mp (↑org) ent kn gp ln m1 m2 m3 m4 m5 m6 m7 m8 u.2.2.2.2.1 u.2.2.2.2.2.1 u.2.2.2.2.2.2.1 u.2.2.2.2.2.2.2 m9, aI cI m7 256 u.2.1, aI cI m8 8 u.2.2.1, aI cI m9 32 u.2.2.2.1]) (cc := cX4_run) (maxL := 4) (ty := .int) (by decide) rfl (Nat.le_of_ble_eq_true rfl) ?_
  intro p e s m args below meth c A Q ls hsz hx hb hml hown hts hret hp hl
  have hl : lv_has ls 4 [(0, .ref mq), (1, .int (iZ (k))), (2, .int (iZ (til)))] := hl
  have hi4 : ∀ w ∈ wsX40, w ∈ wsX4_run := fun w h => List.mem_cons_of_mem _ (List.mem_append_right _ (h))
  have f44 := hts (.fieldLink RX4 44 "SelfOpenerModel" "thrown" "I") (List.mem_of_getElem? (i := 1) rfl)
  have f37 := hts (.fieldLink RX4 37 "SelfOpenerModel" "state" "I") (List.mem_of_getElem? (i := 2) rfl)
  have f88 := hts (.fieldLink RX4 88 "SelfOpenerModel" "place" "I") (List.mem_of_getElem? (i := 3) rfl)
  suffices hw : ∀ (H : Heap) (locs : List Loc), Hp G cI A s H locs [oR mq th (↑n) mp (↑org) ent kn gp ln m1 m2 m3 m4 m5 m6 m7 m8 w.2.2.2.1 w.2.2.2.2.1 w.2.2.2.2.2.1 w.2.2.2.2.2.2 m9, aI cI m7 256 w.1, aI cI m8 8 w.2.1, aI cI m9 32 w.2.2.1] → W p l e rmX4_run s m args below meth c H locs 0 0 Q (F0 m 0 ls []) from hw _ _ hp
  clear hp; intro H locs hp
  refine lv_aload_n hx hb dX4_run_0 rfl (lv_at hl 0 rfl) ?_
  have jn1 : ∀ (t : Int) (H : Heap) (locs : List Loc) (ls : Array Slot), (t = if (0 ≤ k ∧ k ≤ 4000) ∧ -1 ≤ til ∧ til ≤ 255 then 0 else 1) → Hp G cI A s H locs [oR mq th (↑n) mp (↑org) ent kn gp ln m1 m2 m3 m4 m5 m6 m7 m8 w.2.2.2.1 w.2.2.2.2.1 w.2.2.2.2.2.1 w.2.2.2.2.2.2 m9, aI cI m7 256 w.1, aI cI m8 8 w.2.1, aI cI m9 32 w.2.2.1] → lv_has ls 4 [(0, .ref mq), (1, .int (iZ (k))), (2, .int (iZ (til)))] → W p l e rmX4_run s m args below meth c H locs 0 0 Q (F0 m 29 ls [.int (iZ (t)), .ref mq]) := by
    intro t H locs ls ht hp hl
    have htb : 0 ≤ t ∧ t ≤ 4 := by rw [ht]; (repeat' split) <;> omega
    refine z_put hx hb hts hi4 tyX4 tyX4_ok nmX4 hown hp 0 rfl rfl 0 (by decide) f44 rfl (rfl) (rfl) (Nat.le_of_ble_eq_true rfl) dX4_run_29 (ws' := [oR mq t (↑n) mp (↑org) ent kn gp ln m1 m2 m3 m4 m5 m6 m7 m8 w.2.2.2.1 w.2.2.2.2.1 w.2.2.2.2.2.1 w.2.2.2.2.2.2 m9, aI cI m7 256 w.1, aI cI m8 8 w.2.1, aI cI m9 32 w.2.2.1]) rfl (fun H locs hp => ?_)
    refine lv_aload_n hx hb dX4_run_32 rfl (lv_at hl 0 rfl) ?_
    refine z_get hx hb hts hi4 hown hp 0 rfl rfl 0 (by decide) f44 rfl dX4_run_33 ?_
    refine z_if_le (tgt := 41) hx hb dX4_run_36 (by decide) (by omega) (fun h3 => ?_) (fun h3 => ?_)
    · skip
      have hti : (0 ≤ k ∧ k ≤ 4000) ∧ -1 ≤ til ∧ til ≤ 255 := by revert ht; split <;> omega
      obtain rfl : t = 0 := by omega
      obtain ⟨R, hR0⟩ : ∃ z, z = mrun til k.toNat w := ⟨_, rfl⟩
      rw [← hR0] at hret
      skip
      refine z_iconst hx hb dX4_run_41 ?_
      refine lv_istore_n (lv' := [(3, .int (iZ (0))), (0, .ref mq), (1, .int (iZ (k))), (2, .int (iZ (til)))]) hx hb dX4_run_42 rfl hl (by decide) rfl (fun ls hl => ?_)
      have jn4 : ∀ (i : Nat) (v : MS) (H : Heap) (locs : List Loc) (ls : Array Slot), ((i, v) = R) → Hp G cI A s H locs [oR mq 0 (↑n) mp (↑org) ent kn gp ln m1 m2 m3 m4 m5 m6 m7 m8 v.2.2.2.1 v.2.2.2.2.1 v.2.2.2.2.2.1 v.2.2.2.2.2.2 m9, aI cI m7 256 v.1, aI cI m8 8 v.2.1, aI cI m9 32 v.2.2.1] → lv_has ls 4 [(0, .ref mq), (3, .int (iZ (↑i)))] → W p l e rmX4_run s m args below meth c H locs 0 0 Q (F0 m 73 ls []) := by
        intro i v H locs ls hR hp hl
        cases hR
        refine lv_iload_n hx hb dX4_run_73 rfl (lv_at hl 1 rfl) ?_
        exact hret _ _ _ _ _ _ _ (0, v) (⟨ht, fun _ => ⟨rfl, rfl⟩, fun q => absurd rfl q⟩) hp dX4_run_74 (rfl) (Nat.le_of_ble_eq_true rfl) (Nat.le_of_ble_eq_true rfl)
      have lp6 : ∀ (N_lp6 : Nat) (f i : Nat) (v : MS) (H : Heap) (locs : List Loc) (ls : Array Slot), (i + f = k.toNat) → ((i + (mrun til f v).1, (mrun til f v).2) = R) → (MB v (b + ↑i)) → f < N_lp6 → Hp G cI A s H locs [oR mq 0 (↑n) mp (↑org) ent kn gp ln m1 m2 m3 m4 m5 m6 m7 m8 v.2.2.2.1 v.2.2.2.2.1 v.2.2.2.2.2.1 v.2.2.2.2.2.2 m9, aI cI m7 256 v.1, aI cI m8 8 v.2.1, aI cI m9 32 v.2.2.1] → lv_has ls 4 [(3, .int (iZ (↑i))), (0, .ref mq), (1, .int (iZ (k))), (2, .int (iZ (til)))] → W p l e rmX4_run s m args below meth c H locs 0 0 Q (F0 m 43 ls []) := by
        intro N_lp6
        induction N_lp6 with
        | zero => intros; exfalso; omega
        | succ N_lp6 ih_lp6 =>
          intro f i v H locs ls hi hR hv hN hp hl
          have hv4 := hv.2.2.2.1
          have hv5 := hv.2.2.2.2.1
          refine lv_iload_n hx hb dX4_run_43 rfl (lv_at hl 0 rfl) ?_
          refine lv_iload_n hx hb dX4_run_44 rfl (lv_at hl 2 rfl) ?_
          refine z_icmp_ge (tgt := 73) hx hb dX4_run_45 (by decide) (by omega) (fun h7 => ?_) (fun h7 => ?_)
          · skip
            exact jn4 i v _ _ _ (by rw [mrun_stop (by omega)] at hR; exact hR) hp (lv_sub hl [1, 0] rfl)
          · skip
            refine lv_aload_n hx hb dX4_run_48 rfl (lv_at hl 1 rfl) ?_
            refine z_get hx hb hts hi4 hown hp 0 rfl rfl 17 (by decide) f37 rfl dX4_run_49 ?_
            refine z_if_ne (tgt := 73) hx hb dX4_run_52 (by decide) (by omega) (fun h8 => ?_) (fun h8 => ?_)
            · skip
              exact jn4 i v _ _ _ (by rw [mrun_stop (by omega)] at hR; exact hR) hp (lv_sub hl [1, 0] rfl)
            · skip
              refine lv_aload_n hx hb dX4_run_55 rfl (lv_at hl 1 rfl) ?_
              refine z_get hx hb hts hi4 hown hp 0 rfl rfl 16 (by decide) f88 rfl dX4_run_56 ?_
              refine lv_iload_n hx hb dX4_run_59 rfl (lv_at hl 3 rfl) ?_
              refine z_icmp_eq (tgt := 73) hx hb dX4_run_60 (by decide) (by omega) (fun h9 => ?_) (fun h9 => ?_)
              · skip
                exact jn4 i v _ _ _ (by rw [mrun_stop (by omega)] at hR; exact hR) hp (lv_sub hl [1, 0] rfl)
              · skip
                obtain ⟨f, rfl⟩ : ∃ f9, f = f9 + 1 := ⟨f - 1, by omega⟩
                refine lv_aload_n hx hb dX4_run_63 rfl (lv_at hl 1 rfl) ?_
                refine zc_v (wr := []) (W0 := [oR mq 0 (↑n) mp (↑org) ent kn gp ln m1 m2 m3 m4 m5 m6 m7 m8 v.2.2.2.1 v.2.2.2.2.1 v.2.2.2.2.2.1 v.2.2.2.2.2.2 m9, aI cI m7 256 v.1, aI cI m8 8 v.2.1, aI cI m9 32 v.2.2.1]) (wl2 := fun (u : Unit) => [oR mq 0 (↑n) mp (↑org) ent kn gp ln m1 m2 m3 m4 m5 m6 m7 m8 ((mstep v).2.2.2.1) ((mstep v).2.2.2.2.1) ((mstep v).2.2.2.2.2.1) ((mstep v).2.2.2.2.2.2) m9, aI cI m7 256 ((mstep v).1), aI cI m8 8 ((mstep v).2.1), aI cI m9 32 ((mstep v).2.2.1)]) (As := []) (rest := []) hx hb hml hown hts hp (c_X4_step l G cI H.size mq mp m1 m2 m3 m4 m5 m6 m7 m8 m9 n org 0 ent kn gp ln v (b + ↑i) (hv) (by omega)) zPre_blind (z_pre hp [0, 1, 2, 3] rfl (by decide) [.ref mq]) (cwV 0 hts gX4_run_X4_step rfl rfl rfl (by decide +kernel) ⟨Nat.le_of_ble_eq_true rfl, Nat.le_of_ble_eq_true rfl⟩) [0, 1, 2, 3] [] [0, 1, 2, 3] rfl rfl ⟨by decide, by decide, by decide⟩ (fun _ => rfl) 0 4 rfl rfl rfl rfl hl.1 rfl (Nat.le_of_ble_eq_true rfl) dX4_run_64 ⟨Nat.le_of_ble_eq_true rfl, Nat.le_of_ble_eq_true rfl⟩ (fun u H locs hq10 hp => ?_)
                refine z_iinc (k := 0) (lv' := [(3, .int (iZ (↑(i + 1)))), (0, .ref mq), (1, .int (iZ (k))), (2, .int (iZ (til)))]) hx hb (↑(i + 1)) (by omega) dX4_run_67 hl rfl (by decide) rfl (fun ls hl => ?_)
                refine lv_goto (tgt := 43) hx hb dX4_run_70 (by decide) ?_
                exact ih_lp6 f (i + 1) (mstep v) _ _ _ (by omega) (by rw [mrun_go (by omega)] at hR; rw [← hR]; congr 1; omega) (by rw [show b + ((i + 1 : Nat) : Int) = b + ↑i + 1 by omega]; exact mstep_b hv) (by omega) hp (lv_sub hl [0, 1, 2, 3] rfl)
      exact lp6 _ k.toNat 0 w _ _ _ (by omega) (by rw [Nat.zero_add, hR0]) (by rw [show b + ((0 : Nat) : Int) = b by omega]; exact h_w) (Nat.lt_succ_self _) hp (lv_sub hl [0, 1, 2, 3] rfl)
    · skip
      refine z_iconst hx hb dX4_run_39 ?_
      exact hret _ _ _ _ _ _ _ (t, w) (⟨ht, fun q => by dsimp only at q; omega, fun _ => rfl⟩) hp dX4_run_40 (rfl) (Nat.le_of_ble_eq_true rfl) (Nat.le_of_ble_eq_true rfl)
  refine lv_iload_n hx hb dX4_run_1 rfl (lv_at hl 1 rfl) ?_
  refine z_if_lt (tgt := 24) hx hb dX4_run_2 (by decide) (by omega) (fun h11 => ?_) (fun h11 => ?_)
  · skip
    refine z_iconst hx hb dX4_run_24 ?_
    refine lv_goto (tgt := 29) hx hb dX4_run_25 (by decide) ?_
    exact jn1 1 _ _ _ (by (repeat' split) <;> omega) hp (lv_sub hl [0, 1, 2] rfl)
  · skip
    refine lv_iload_n hx hb dX4_run_5 rfl (lv_at hl 1 rfl) ?_
    refine z_sipush hx hb dX4_run_6 (by decide +kernel) ?_
    refine z_icmp_gt (tgt := 24) hx hb dX4_run_9 (by decide) (by omega) (fun h12 => ?_) (fun h12 => ?_)
    · skip
      refine z_iconst hx hb dX4_run_24 ?_
      refine lv_goto (tgt := 29) hx hb dX4_run_25 (by decide) ?_
      exact jn1 1 _ _ _ (by (repeat' split) <;> omega) hp (lv_sub hl [0, 1, 2] rfl)
    · skip
      refine lv_iload_n hx hb dX4_run_12 rfl (lv_at hl 2 rfl) ?_
      refine z_iconst hx hb dX4_run_13 ?_
      refine z_icmp_lt (tgt := 24) hx hb dX4_run_14 (by decide) (by omega) (fun h13 => ?_) (fun h13 => ?_)
      · skip
        refine z_iconst hx hb dX4_run_24 ?_
        refine lv_goto (tgt := 29) hx hb dX4_run_25 (by decide) ?_
        exact jn1 1 _ _ _ (by (repeat' split) <;> omega) hp (lv_sub hl [0, 1, 2] rfl)
      · skip
        refine lv_iload_n hx hb dX4_run_17 rfl (lv_at hl 2 rfl) ?_
        refine z_sipush hx hb dX4_run_18 (by decide +kernel) ?_
        refine z_icmp_le (tgt := 28) hx hb dX4_run_21 (by decide) (by omega) (fun h14 => ?_) (fun h14 => ?_)
        · skip
          refine z_iconst hx hb dX4_run_28 ?_
          exact jn1 0 _ _ _ (by (repeat' split) <;> omega) hp (lv_sub hl [0, 1, 2] rfl)
        · skip
          refine z_iconst hx hb dX4_run_24 ?_
          refine lv_goto (tgt := 29) hx hb dX4_run_25 (by decide) ?_
          exact jn1 1 _ _ _ (by (repeat' split) <;> omega) hp (lv_sub hl [0, 1, 2] rfl)
abbrev rmX4_look : Room := { frames := 0, cells := 0, slots := 0, locals := 0 }
set_option maxRecDepth 100000 in
set_option maxHeartbeats 4000000 in
theorem c_X4_look (l : Launch) (G : va_G) (cI : ClassId) (sz : Nat) (mq mp m1 m2 m3 m4 m5 m6 m7 m8 m9 : Nat) (n org : Nat) (th ent kn gp ln pl st sp po : Int) (regs : Nat → Int) (k : Int) (h_k : rg k) : Met l yX4_look wsX4_look rmX4_look (zPre G cI [oR mq th (↑n) mp (↑org) ent kn gp ln m1 m2 m3 m4 m5 m6 m7 m8 pl st sp po m9, aI cI m8 8 regs] sz [.ref mq, .int (iZ (k))]) (va_Qi (fun (r : Int32) (u : Int) => u = (if 0 ≤ k ∧ k < 12 then 0 else 1) ∧ (u = 0 → r = iZ (lookZ regs pl st sp po k))) (fun (u : Int) t => zB G cI (va_A [oR mq th (↑n) mp (↑org) ent kn gp ln m1 m2 m3 m4 m5 m6 m7 m8 pl st sp po m9, aI cI m8 8 regs] sz) [oR mq u (↑n) mp (↑org) ent kn gp ln m1 m2 m3 m4 m5 m6 m7 m8 pl st sp po m9, aI cI m8 8 regs] t) (va_A [oR mq th (↑n) mp (↑org) ent kn gp ln m1 m2 m3 m4 m5 m6 m7 m8 pl st sp po m9, aI cI m8 8 regs] sz)) 0 0 (va_A [oR mq th (↑n) mp (↑org) ent kn gp ln m1 m2 m3 m4 m5 m6 m7 m8 pl st sp po m9, aI cI m8 8 regs] sz) := by
  refine zm_i (W1 := fun (u : Int) => [oR mq u (↑n) mp (↑org) ent kn gp ln m1 m2 m3 m4 m5 m6 m7 m8 pl st sp po m9, aI cI m8 8 regs]) (cc := cX4_look) (maxL := 2) (ty := .int) (by decide) rfl (Nat.le_of_ble_eq_true rfl) ?_
  intro p e s m args below meth c A Q ls hsz hx hb hml hown hts hret hp hl
  have hl : lv_has ls 2 [(0, .ref mq), (1, .int (iZ (k)))] := hl
  have hi4 : ∀ w ∈ wsX40, w ∈ wsX4_look := fun w h => List.mem_cons_of_mem _ (List.mem_append_right _ (h))
  have f44 := hts (.fieldLink RX4 44 "SelfOpenerModel" "thrown" "I") (List.mem_of_getElem? (i := 1) rfl)
  have f94 := hts (.fieldLink RX4 94 "SelfOpenerModel" "outs" "I") (List.mem_of_getElem? (i := 6) rfl)
  have f91 := hts (.fieldLink RX4 91 "SelfOpenerModel" "steps" "I") (List.mem_of_getElem? (i := 5) rfl)
  have f37 := hts (.fieldLink RX4 37 "SelfOpenerModel" "state" "I") (List.mem_of_getElem? (i := 4) rfl)
  have f88 := hts (.fieldLink RX4 88 "SelfOpenerModel" "place" "I") (List.mem_of_getElem? (i := 3) rfl)
  have f34 := hts (.fieldLink RX4 34 "SelfOpenerModel" "registers" "[I") (List.mem_of_getElem? (i := 2) rfl)
  suffices hw : ∀ (H : Heap) (locs : List Loc), Hp G cI A s H locs [oR mq th (↑n) mp (↑org) ent kn gp ln m1 m2 m3 m4 m5 m6 m7 m8 pl st sp po m9, aI cI m8 8 regs] → W p l e rmX4_look s m args below meth c H locs 0 0 Q (F0 m 0 ls []) from hw _ _ hp
  clear hp; intro H locs hp
  refine lv_aload_n hx hb dX4_look_0 rfl (lv_at hl 0 rfl) ?_
  have jn1 : ∀ (t : Int) (H : Heap) (locs : List Loc) (ls : Array Slot), (t = if 0 ≤ k ∧ k < 12 then 0 else 1) → Hp G cI A s H locs [oR mq th (↑n) mp (↑org) ent kn gp ln m1 m2 m3 m4 m5 m6 m7 m8 pl st sp po m9, aI cI m8 8 regs] → lv_has ls 2 [(0, .ref mq), (1, .int (iZ (k)))] → W p l e rmX4_look s m args below meth c H locs 0 0 Q (F0 m 16 ls [.int (iZ (t)), .ref mq]) := by
    intro t H locs ls ht hp hl
    have htb : 0 ≤ t ∧ t ≤ 4 := by rw [ht]; (repeat' split) <;> omega
    refine z_put hx hb hts hi4 tyX4 tyX4_ok nmX4 hown hp 0 rfl rfl 0 (by decide) f44 rfl (rfl) (rfl) (Nat.le_of_ble_eq_true rfl) dX4_look_16 (ws' := [oR mq t (↑n) mp (↑org) ent kn gp ln m1 m2 m3 m4 m5 m6 m7 m8 pl st sp po m9, aI cI m8 8 regs]) rfl (fun H locs hp => ?_)
    refine lv_aload_n hx hb dX4_look_19 rfl (lv_at hl 0 rfl) ?_
    refine z_get hx hb hts hi4 hown hp 0 rfl rfl 0 (by decide) f44 rfl dX4_look_20 ?_
    refine z_if_le (tgt := 28) hx hb dX4_look_23 (by decide) (by omega) (fun h3 => ?_) (fun h3 => ?_)
    · skip
      have hti : 0 ≤ k ∧ k < 12 := by revert ht; split <;> omega
      refine lv_iload_n hx hb dX4_look_28 rfl (lv_at hl 1 rfl) ?_
      refine z_bipush hx hb dX4_look_29 (by decide +kernel) ?_
      refine z_icmp_ge (tgt := 43) hx hb dX4_look_31 (by decide) (by omega) (fun h4 => ?_) (fun h4 => ?_)
      · skip
        refine lv_iload_n hx hb dX4_look_43 rfl (lv_at hl 1 rfl) ?_
        refine z_bipush hx hb dX4_look_44 (by decide +kernel) ?_
        refine z_icmp_ne (tgt := 56) hx hb dX4_look_46 (by decide) (by omega) (fun h5 => ?_) (fun h5 => ?_)
        · skip
          refine lv_iload_n hx hb dX4_look_56 rfl (lv_at hl 1 rfl) ?_
          refine z_bipush hx hb dX4_look_57 (by decide +kernel) ?_
          refine z_icmp_ne (tgt := 69) hx hb dX4_look_59 (by decide) (by omega) (fun h6 => ?_) (fun h6 => ?_)
          · skip
            refine lv_iload_n hx hb dX4_look_69 rfl (lv_at hl 1 rfl) ?_
            refine z_bipush hx hb dX4_look_70 (by decide +kernel) ?_
            refine z_icmp_ne (tgt := 82) hx hb dX4_look_72 (by decide) (by omega) (fun h7 => ?_) (fun h7 => ?_)
            · skip
              refine lv_aload_n hx hb dX4_look_82 rfl (lv_at hl 0 rfl) ?_
              refine z_get hx hb hts hi4 hown hp 0 rfl rfl 19 (by decide) f94 rfl dX4_look_83 ?_
              exact hret _ _ _ _ _ _ _ t (⟨ht, fun _ => congrArg iZ (by unfold lookZ; (repeat' split) <;> first | rfl | omega)⟩) hp dX4_look_86 (rfl) (Nat.le_of_ble_eq_true rfl) (Nat.le_of_ble_eq_true rfl)
            · skip
              refine lv_aload_n hx hb dX4_look_75 rfl (lv_at hl 0 rfl) ?_
              refine z_get hx hb hts hi4 hown hp 0 rfl rfl 18 (by decide) f91 rfl dX4_look_76 ?_
              refine lv_goto (tgt := 86) hx hb dX4_look_79 (by decide) ?_
              exact hret _ _ _ _ _ _ _ t (⟨ht, fun _ => congrArg iZ (by unfold lookZ; (repeat' split) <;> first | rfl | omega)⟩) hp dX4_look_86 (rfl) (Nat.le_of_ble_eq_true rfl) (Nat.le_of_ble_eq_true rfl)
          · skip
            refine lv_aload_n hx hb dX4_look_62 rfl (lv_at hl 0 rfl) ?_
            refine z_get hx hb hts hi4 hown hp 0 rfl rfl 17 (by decide) f37 rfl dX4_look_63 ?_
            refine lv_goto (tgt := 86) hx hb dX4_look_66 (by decide) ?_
            exact hret _ _ _ _ _ _ _ t (⟨ht, fun _ => congrArg iZ (by unfold lookZ; (repeat' split) <;> first | rfl | omega)⟩) hp dX4_look_86 (rfl) (Nat.le_of_ble_eq_true rfl) (Nat.le_of_ble_eq_true rfl)
        · skip
          refine lv_aload_n hx hb dX4_look_49 rfl (lv_at hl 0 rfl) ?_
          refine z_get hx hb hts hi4 hown hp 0 rfl rfl 16 (by decide) f88 rfl dX4_look_50 ?_
          refine lv_goto (tgt := 86) hx hb dX4_look_53 (by decide) ?_
          exact hret _ _ _ _ _ _ _ t (⟨ht, fun _ => congrArg iZ (by unfold lookZ; (repeat' split) <;> first | rfl | omega)⟩) hp dX4_look_86 (rfl) (Nat.le_of_ble_eq_true rfl) (Nat.le_of_ble_eq_true rfl)
      · skip
        refine lv_aload_n hx hb dX4_look_34 rfl (lv_at hl 0 rfl) ?_
        refine z_get hx hb hts hi4 hown hp 0 rfl rfl 15 (by decide) f34 rfl dX4_look_35 ?_
        refine lv_iload_n hx hb dX4_look_38 rfl (lv_at hl 1 rfl) ?_
        refine z_iald hx hb hp 1 rfl (k.toNat) (by omega) dX4_look_39 (regs k.toNat) (rfl) ?_
        refine lv_goto (tgt := 86) hx hb dX4_look_40 (by decide) ?_
        exact hret _ _ _ _ _ _ _ t (⟨ht, fun _ => congrArg iZ (by unfold lookZ; (repeat' split) <;> first | rfl | omega)⟩) hp dX4_look_86 (rfl) (Nat.le_of_ble_eq_true rfl) (Nat.le_of_ble_eq_true rfl)
    · skip
      refine z_iconst hx hb dX4_look_26 ?_
      exact hret _ _ _ _ _ _ _ t (⟨ht, fun q => by omega⟩) hp dX4_look_27 (rfl) (Nat.le_of_ble_eq_true rfl) (Nat.le_of_ble_eq_true rfl)
  refine lv_iload_n hx hb dX4_look_1 rfl (lv_at hl 1 rfl) ?_
  refine z_if_lt (tgt := 11) hx hb dX4_look_2 (by decide) (by omega) (fun h8 => ?_) (fun h8 => ?_)
  · skip
    refine z_iconst hx hb dX4_look_11 ?_
    refine lv_goto (tgt := 16) hx hb dX4_look_12 (by decide) ?_
    exact jn1 1 _ _ _ (by (repeat' split) <;> omega) hp (lv_sub hl [0, 1] rfl)
  · skip
    refine lv_iload_n hx hb dX4_look_5 rfl (lv_at hl 1 rfl) ?_
    refine z_bipush hx hb dX4_look_6 (by decide +kernel) ?_
    refine z_icmp_le (tgt := 15) hx hb dX4_look_8 (by decide) (by omega) (fun h9 => ?_) (fun h9 => ?_)
    · skip
      refine z_iconst hx hb dX4_look_15 ?_
      exact jn1 0 _ _ _ (by (repeat' split) <;> omega) hp (lv_sub hl [0, 1] rfl)
    · skip
      refine z_iconst hx hb dX4_look_11 ?_
      refine lv_goto (tgt := 16) hx hb dX4_look_12 (by decide) ?_
      exact jn1 1 _ _ _ (by (repeat' split) <;> omega) hp (lv_sub hl [0, 1] rfl)
abbrev rmX4_memory : Room := { frames := 1, cells := 0, slots := 0, locals := 40 }
set_option maxRecDepth 100000 in
set_option maxHeartbeats 4000000 in
theorem c_X4_memory (l : Launch) (G : va_G) (cI : ClassId) (sz : Nat) (mq mp m1 m2 m3 m4 m5 m6 m7 m8 m9 : Nat) (n org : Nat) (th ent kn gp ln pl st sp po : Int) (mem : Nat → Int) (i : Int) (h_i : rg i) : Met l yX4_memory wsX4_memory rmX4_memory (zPre G cI [oR mq th (↑n) mp (↑org) ent kn gp ln m1 m2 m3 m4 m5 m6 m7 m8 pl st sp po m9, aI cI m7 256 mem] sz [.ref mq, .int (iZ (i))]) (va_Qi (fun (r : Int32) (u : Int) => u = (if 0 ≤ i ∧ i < 256 then 0 else 1) ∧ (u = 0 → r = iZ (mem i.toNat))) (fun (u : Int) t => zB G cI (va_A [oR mq th (↑n) mp (↑org) ent kn gp ln m1 m2 m3 m4 m5 m6 m7 m8 pl st sp po m9, aI cI m7 256 mem] sz) [oR mq u (↑n) mp (↑org) ent kn gp ln m1 m2 m3 m4 m5 m6 m7 m8 pl st sp po m9, aI cI m7 256 mem] t) (va_A [oR mq th (↑n) mp (↑org) ent kn gp ln m1 m2 m3 m4 m5 m6 m7 m8 pl st sp po m9, aI cI m7 256 mem] sz)) 0 0 (va_A [oR mq th (↑n) mp (↑org) ent kn gp ln m1 m2 m3 m4 m5 m6 m7 m8 pl st sp po m9, aI cI m7 256 mem] sz) := by
  refine zm_i (W1 := fun (u : Int) => [oR mq u (↑n) mp (↑org) ent kn gp ln m1 m2 m3 m4 m5 m6 m7 m8 pl st sp po m9, aI cI m7 256 mem]) (cc := cX4_memory) (maxL := 2) (ty := .int) (by decide) rfl (Nat.le_of_ble_eq_true rfl) ?_
  intro p e s m args below meth c A Q ls hsz hx hb hml hown hts hret hp hl
  have hl : lv_has ls 2 [(0, .ref mq), (1, .int (iZ (i)))] := hl
  have hi4 : ∀ w ∈ wsX40, w ∈ wsX4_memory := fun w h => List.mem_cons_of_mem _ (List.mem_append_right _ (h))
  have f44 := hts (.fieldLink RX4 44 "SelfOpenerModel" "thrown" "I") (List.mem_of_getElem? (i := 1) rfl)
  have f31 := hts (.fieldLink RX4 31 "SelfOpenerModel" "memory" "[I") (List.mem_of_getElem? (i := 2) rfl)
  suffices hw : ∀ (H : Heap) (locs : List Loc), Hp G cI A s H locs [oR mq th (↑n) mp (↑org) ent kn gp ln m1 m2 m3 m4 m5 m6 m7 m8 pl st sp po m9, aI cI m7 256 mem] → W p l e rmX4_memory s m args below meth c H locs 0 0 Q (F0 m 0 ls []) from hw _ _ hp
  clear hp; intro H locs hp
  refine lv_aload_n hx hb dX4_memory_0 rfl (lv_at hl 0 rfl) ?_
  have jn1 : ∀ (t : Int) (H : Heap) (locs : List Loc) (ls : Array Slot), (t = if 0 ≤ i ∧ i < 256 then 0 else 1) → Hp G cI A s H locs [oR mq th (↑n) mp (↑org) ent kn gp ln m1 m2 m3 m4 m5 m6 m7 m8 pl st sp po m9, aI cI m7 256 mem] → lv_has ls 2 [(0, .ref mq), (1, .int (iZ (i)))] → W p l e rmX4_memory s m args below meth c H locs 0 0 Q (F0 m 13 ls [.int (iZ (t)), .ref mq]) := by
    intro t H locs ls ht hp hl
    have htb : 0 ≤ t ∧ t ≤ 4 := by rw [ht]; (repeat' split) <;> omega
    refine z_put hx hb hts hi4 tyX4 tyX4_ok nmX4 hown hp 0 rfl rfl 0 (by decide) f44 rfl (rfl) (rfl) (Nat.le_of_ble_eq_true rfl) dX4_memory_13 (ws' := [oR mq t (↑n) mp (↑org) ent kn gp ln m1 m2 m3 m4 m5 m6 m7 m8 pl st sp po m9, aI cI m7 256 mem]) rfl (fun H locs hp => ?_)
    refine lv_aload_n hx hb dX4_memory_16 rfl (lv_at hl 0 rfl) ?_
    refine z_get hx hb hts hi4 hown hp 0 rfl rfl 0 (by decide) f44 rfl dX4_memory_17 ?_
    refine z_if_le (tgt := 27) hx hb dX4_memory_20 (by decide) (by omega) (fun h3 => ?_) (fun h3 => ?_)
    · skip
      have hti : 0 ≤ i ∧ i < 256 := by revert ht; split <;> omega
      refine lv_aload_n hx hb dX4_memory_27 rfl (lv_at hl 0 rfl) ?_
      refine z_get hx hb hts hi4 hown hp 0 rfl rfl 14 (by decide) f31 rfl dX4_memory_28 ?_
      refine lv_iload_n hx hb dX4_memory_31 rfl (lv_at hl 1 rfl) ?_
      refine z_iald hx hb hp 1 rfl (i.toNat) (by omega) dX4_memory_32 (mem i.toNat) (rfl) ?_
      exact hret _ _ _ _ _ _ _ t (⟨ht, fun _ => rfl⟩) hp dX4_memory_33 (rfl) (Nat.le_of_ble_eq_true rfl) (Nat.le_of_ble_eq_true rfl)
    · skip
      refine z_iconst hx hb dX4_memory_23 ?_
      refine lv_goto (tgt := 33) hx hb dX4_memory_24 (by decide) ?_
      exact hret _ _ _ _ _ _ _ t (⟨ht, fun q => by omega⟩) hp dX4_memory_33 (rfl) (Nat.le_of_ble_eq_true rfl) (Nat.le_of_ble_eq_true rfl)
  refine lv_iload_n hx hb dX4_memory_1 rfl (lv_at hl 1 rfl) ?_
  refine zs_i (wr := [oR mq th (↑n) mp (↑org) ent kn gp ln m1 m2 m3 m4 m5 m6 m7 m8 pl st sp po m9, aI cI m7 256 mem]) (W0 := []) (wl2 := fun (u : Unit) => [oR mq th (↑n) mp (↑org) ent kn gp ln m1 m2 m3 m4 m5 m6 m7 m8 pl st sp po m9, aI cI m7 256 mem]) (As := [.int (iZ (i))]) (rest := [.ref mq]) hx hb hml hown hts hp (c_X4_isByte l G cI H.size i (by omega)) zPre_blind (z_pre hp [] rfl (by decide) [.int (iZ (i))]) (va_cwS 1 hts gX4_memory_X4_isByte rfl rfl rfl (by decide +kernel) ⟨Nat.le_of_ble_eq_true rfl, Nat.le_of_ble_eq_true rfl⟩) [] [0, 1] [0, 1] rfl rfl ⟨by decide, by decide, by decide⟩ (fun _ => rfl) rfl hl.1 rfl (Nat.le_of_ble_eq_true rfl) dX4_memory_2 ⟨Nat.le_of_ble_eq_true rfl, Nat.le_of_ble_eq_true rfl⟩ (fun rv u H locs hq4 hp => ?_)
  obtain rfl : rv = iZ (if 0 ≤ i ∧ i < 256 then 1 else 0) := hq4
  refine z_if_eq (tgt := 12) hx hb dX4_memory_5 (by decide) (by omega) (fun h5 => ?_) (fun h5 => ?_)
  · skip
    refine z_iconst hx hb dX4_memory_12 ?_
    exact jn1 1 _ _ _ (by (repeat' split) <;> omega) hp (lv_sub hl [0, 1] rfl)
  · skip
    refine z_iconst hx hb dX4_memory_8 ?_
    refine lv_goto (tgt := 13) hx hb dX4_memory_9 (by decide) ?_
    exact jn1 0 _ _ _ (by (repeat' split) <;> omega) hp (lv_sub hl [0, 1] rfl)
abbrev rmX4_out : Room := { frames := 0, cells := 0, slots := 0, locals := 0 }
set_option maxRecDepth 100000 in
set_option maxHeartbeats 4000000 in
theorem c_X4_out (l : Launch) (G : va_G) (cI : ClassId) (sz : Nat) (mq mp m1 m2 m3 m4 m5 m6 m7 m8 m9 : Nat) (n org : Nat) (th ent kn gp ln pl st sp po : Int) (kept : Nat → Int) (i : Int) (h_i : rg i) (h_p : 0 ≤ po ∧ po < 2147483648) : Met l yX4_out wsX4_out rmX4_out (zPre G cI [oR mq th (↑n) mp (↑org) ent kn gp ln m1 m2 m3 m4 m5 m6 m7 m8 pl st sp po m9, aI cI m9 32 kept] sz [.ref mq, .int (iZ (i))]) (va_Qi (fun (r : Int32) (u : Int) => u = (if 0 ≤ i ∧ i < po ∧ po - 32 ≤ i then 0 else 1) ∧ (u = 0 → r = iZ (kept (i % 32).toNat))) (fun (u : Int) t => zB G cI (va_A [oR mq th (↑n) mp (↑org) ent kn gp ln m1 m2 m3 m4 m5 m6 m7 m8 pl st sp po m9, aI cI m9 32 kept] sz) [oR mq u (↑n) mp (↑org) ent kn gp ln m1 m2 m3 m4 m5 m6 m7 m8 pl st sp po m9, aI cI m9 32 kept] t) (va_A [oR mq th (↑n) mp (↑org) ent kn gp ln m1 m2 m3 m4 m5 m6 m7 m8 pl st sp po m9, aI cI m9 32 kept] sz)) 0 0 (va_A [oR mq th (↑n) mp (↑org) ent kn gp ln m1 m2 m3 m4 m5 m6 m7 m8 pl st sp po m9, aI cI m9 32 kept] sz) := by
  refine zm_i (W1 := fun (u : Int) => [oR mq u (↑n) mp (↑org) ent kn gp ln m1 m2 m3 m4 m5 m6 m7 m8 pl st sp po m9, aI cI m9 32 kept]) (cc := cX4_out) (maxL := 2) (ty := .int) (by decide) rfl (Nat.le_of_ble_eq_true rfl) ?_
  intro p e s m args below meth c A Q ls hsz hx hb hml hown hts hret hp hl
  have hl : lv_has ls 2 [(0, .ref mq), (1, .int (iZ (i)))] := hl
  have hi4 : ∀ w ∈ wsX40, w ∈ wsX4_out := fun w h => List.mem_cons_of_mem _ (List.mem_append_right _ (h))
  have f44 := hts (.fieldLink RX4 44 "SelfOpenerModel" "thrown" "I") (List.mem_of_getElem? (i := 2) rfl)
  have f41 := hts (.fieldLink RX4 41 "SelfOpenerModel" "out" "[I") (List.mem_of_getElem? (i := 3) rfl)
  have f94 := hts (.fieldLink RX4 94 "SelfOpenerModel" "outs" "I") (List.mem_of_getElem? (i := 1) rfl)
  suffices hw : ∀ (H : Heap) (locs : List Loc), Hp G cI A s H locs [oR mq th (↑n) mp (↑org) ent kn gp ln m1 m2 m3 m4 m5 m6 m7 m8 pl st sp po m9, aI cI m9 32 kept] → W p l e rmX4_out s m args below meth c H locs 0 0 Q (F0 m 0 ls []) from hw _ _ hp
  clear hp; intro H locs hp
  refine lv_aload_n hx hb dX4_out_0 rfl (lv_at hl 0 rfl) ?_
  have jn1 : ∀ (t : Int) (H : Heap) (locs : List Loc) (ls : Array Slot), (t = if 0 ≤ i ∧ i < po ∧ po - 32 ≤ i then 0 else 1) → Hp G cI A s H locs [oR mq th (↑n) mp (↑org) ent kn gp ln m1 m2 m3 m4 m5 m6 m7 m8 pl st sp po m9, aI cI m9 32 kept] → lv_has ls 2 [(0, .ref mq), (1, .int (iZ (i)))] → W p l e rmX4_out s m args below meth c H locs 0 0 Q (F0 m 29 ls [.int (iZ (t)), .ref mq]) := by
    intro t H locs ls ht hp hl
    have htb : 0 ≤ t ∧ t ≤ 4 := by rw [ht]; (repeat' split) <;> omega
    refine z_put hx hb hts hi4 tyX4 tyX4_ok nmX4 hown hp 0 rfl rfl 0 (by decide) f44 rfl (rfl) (rfl) (Nat.le_of_ble_eq_true rfl) dX4_out_29 (ws' := [oR mq t (↑n) mp (↑org) ent kn gp ln m1 m2 m3 m4 m5 m6 m7 m8 pl st sp po m9, aI cI m9 32 kept]) rfl (fun H locs hp => ?_)
    refine lv_aload_n hx hb dX4_out_32 rfl (lv_at hl 0 rfl) ?_
    refine z_get hx hb hts hi4 hown hp 0 rfl rfl 0 (by decide) f44 rfl dX4_out_33 ?_
    refine z_if_le (tgt := 43) hx hb dX4_out_36 (by decide) (by omega) (fun h3 => ?_) (fun h3 => ?_)
    · skip
      have hti : 0 ≤ i ∧ i < po ∧ po - 32 ≤ i := by revert ht; split <;> omega
      refine lv_aload_n hx hb dX4_out_43 rfl (lv_at hl 0 rfl) ?_
      refine z_get hx hb hts hi4 hown hp 0 rfl rfl 20 (by decide) f41 rfl dX4_out_44 ?_
      refine lv_iload_n hx hb dX4_out_47 rfl (lv_at hl 1 rfl) ?_
      refine z_bipush hx hb dX4_out_48 (by decide +kernel) ?_
      refine z_irem hx hb (i % 32) (by omega) dX4_out_50 ?_
      refine z_iald hx hb hp 1 rfl ((i % 32).toNat) (by omega) dX4_out_51 (kept ((i % 32).toNat)) (rfl) ?_
      exact hret _ _ _ _ _ _ _ t (⟨ht, fun _ => rfl⟩) hp dX4_out_52 (rfl) (Nat.le_of_ble_eq_true rfl) (Nat.le_of_ble_eq_true rfl)
    · skip
      refine z_iconst hx hb dX4_out_39 ?_
      refine lv_goto (tgt := 52) hx hb dX4_out_40 (by decide) ?_
      exact hret _ _ _ _ _ _ _ t (⟨ht, fun q => by omega⟩) hp dX4_out_52 (rfl) (Nat.le_of_ble_eq_true rfl) (Nat.le_of_ble_eq_true rfl)
  refine lv_iload_n hx hb dX4_out_1 rfl (lv_at hl 1 rfl) ?_
  refine z_if_lt (tgt := 24) hx hb dX4_out_2 (by decide) (by omega) (fun h4 => ?_) (fun h4 => ?_)
  · skip
    refine z_iconst hx hb dX4_out_24 ?_
    refine lv_goto (tgt := 29) hx hb dX4_out_25 (by decide) ?_
    exact jn1 1 _ _ _ (by (repeat' split) <;> omega) hp (lv_sub hl [0, 1] rfl)
  · skip
    refine lv_iload_n hx hb dX4_out_5 rfl (lv_at hl 1 rfl) ?_
    refine lv_aload_n hx hb dX4_out_6 rfl (lv_at hl 0 rfl) ?_
    refine z_get hx hb hts hi4 hown hp 0 rfl rfl 19 (by decide) f94 rfl dX4_out_7 ?_
    refine z_icmp_ge (tgt := 24) hx hb dX4_out_10 (by decide) (by omega) (fun h5 => ?_) (fun h5 => ?_)
    · skip
      refine z_iconst hx hb dX4_out_24 ?_
      refine lv_goto (tgt := 29) hx hb dX4_out_25 (by decide) ?_
      exact jn1 1 _ _ _ (by (repeat' split) <;> omega) hp (lv_sub hl [0, 1] rfl)
    · skip
      refine lv_iload_n hx hb dX4_out_13 rfl (lv_at hl 1 rfl) ?_
      refine lv_aload_n hx hb dX4_out_14 rfl (lv_at hl 0 rfl) ?_
      refine z_get hx hb hts hi4 hown hp 0 rfl rfl 19 (by decide) f94 rfl dX4_out_15 ?_
      refine z_bipush hx hb dX4_out_18 (by decide +kernel) ?_
      refine z_isub hx hb (po - 32) (rfl) dX4_out_20 ?_
      refine z_icmp_ge (tgt := 28) hx hb dX4_out_21 (by decide) (by omega) (fun h6 => ?_) (fun h6 => ?_)
      · skip
        refine z_iconst hx hb dX4_out_28 ?_
        exact jn1 0 _ _ _ (by (repeat' split) <;> omega) hp (lv_sub hl [0, 1] rfl)
      · skip
        refine z_iconst hx hb dX4_out_24 ?_
        refine lv_goto (tgt := 29) hx hb dX4_out_25 (by decide) ?_
        exact jn1 1 _ _ _ (by (repeat' split) <;> omega) hp (lv_sub hl [0, 1] rfl)
