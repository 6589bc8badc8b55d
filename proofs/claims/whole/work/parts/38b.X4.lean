abbrev rmX4_wrong : Room := { frames := 0, cells := 0, slots := 0, locals := 0 }
set_option maxRecDepth 100000 in
set_option maxHeartbeats 4000000 in
theorem c_X4_wrong (l : Launch) (G : va_G) (cI : ClassId) (sz : Nat) (mq mp m1 m2 m3 m4 m5 m6 m7 m8 m9 : Nat) (n org : Nat) (th ent kn gp ln pl st sp po : Int) (pb : Nat → Int) (rd gr : Nat) (h_n : n ≤ 160) (h_b : BB pb 160) (h_rd : rd < n) (h_gr : gr ≤ 160) : Met l yX4_wrong wsX4_wrong rmX4_wrong (zPre G cI [oR mq th (↑n) mp (↑org) ent kn gp ln m1 m2 m3 m4 m5 m6 m7 m8 pl st sp po m9, aI cI mp 160 pb] sz [.ref mq, .int (iZ (↑rd)), .int (iZ (↑gr))]) (va_Qi (fun (r : Int32) (u : Unit) => r = iZ (wrZ pb n rd gr)) (fun (u : Unit) t => zB G cI (va_A [oR mq th (↑n) mp (↑org) ent kn gp ln m1 m2 m3 m4 m5 m6 m7 m8 pl st sp po m9, aI cI mp 160 pb] sz) [oR mq th (↑n) mp (↑org) ent kn gp ln m1 m2 m3 m4 m5 m6 m7 m8 pl st sp po m9, aI cI mp 160 pb] t) (va_A [oR mq th (↑n) mp (↑org) ent kn gp ln m1 m2 m3 m4 m5 m6 m7 m8 pl st sp po m9, aI cI mp 160 pb] sz)) 0 0 (va_A [oR mq th (↑n) mp (↑org) ent kn gp ln m1 m2 m3 m4 m5 m6 m7 m8 pl st sp po m9, aI cI mp 160 pb] sz) := by
  refine zm_i (W1 := fun (u : Unit) => [oR mq th (↑n) mp (↑org) ent kn gp ln m1 m2 m3 m4 m5 m6 m7 m8 pl st sp po m9, aI cI mp 160 pb]) (cc := cX4_wrong) (maxL := 5) (ty := .int) (by decide) rfl (Nat.le_of_ble_eq_true rfl) ?_
  intro p e s m args below meth c A Q ls hsz hx hb hml hown hts hret hp hl
  have hl : lv_has ls 5 [(0, .ref mq), (1, .int (iZ (↑rd))), (2, .int (iZ (↑gr)))] := hl
  have hi4 : ∀ w ∈ wsX40, w ∈ wsX4_wrong := fun w h => List.mem_cons_of_mem _ (List.mem_append_right _ (h))
  have f7 := hts (.fieldLink RX4 7 "SelfOpenerModel" "program" "[I") (List.mem_of_getElem? (i := 1) rfl)
  have f47 := hts (.fieldLink RX4 47 "SelfOpenerModel" "size" "I") (List.mem_of_getElem? (i := 2) rfl)
  have hb1 := h_b rd (by omega)
  suffices hw : ∀ (H : Heap) (locs : List Loc), Hp G cI A s H locs [oR mq th (↑n) mp (↑org) ent kn gp ln m1 m2 m3 m4 m5 m6 m7 m8 pl st sp po m9, aI cI mp 160 pb] → W p l e rmX4_wrong s m args below meth c H locs 0 0 Q (F0 m 0 ls []) from hw _ _ hp
  clear hp; intro H locs hp
  refine lv_aload_n hx hb dX4_wrong_0 rfl (lv_at hl 0 rfl) ?_
  refine z_get hx hb hts hi4 hown hp 0 rfl rfl 2 (by decide) f7 rfl dX4_wrong_1 ?_
  refine lv_iload_n hx hb dX4_wrong_4 rfl (lv_at hl 1 rfl) ?_
  refine z_iald hx hb hp 1 rfl (rd) (by omega) dX4_wrong_5 (pb rd) (rfl) ?_
  refine lv_istore_n (lv' := [(3, .int (iZ (pb rd))), (0, .ref mq), (1, .int (iZ (↑rd))), (2, .int (iZ (↑gr)))]) hx hb dX4_wrong_6 rfl hl (by decide) rfl (fun ls hl => ?_)
  refine lv_iload_n hx hb dX4_wrong_7 rfl (lv_at hl 0 rfl) ?_
  refine z_bipush hx hb dX4_wrong_8 (by decide +kernel) ?_
  refine z_icmp_le (tgt := 17) hx hb dX4_wrong_10 (by decide) (by omega) (fun h1 => ?_) (fun h1 => ?_)
  · skip
    refine z_iconst hx hb dX4_wrong_17 ?_
    refine lv_istore (lv' := [(4, .int (iZ (0))), (3, .int (iZ (pb rd))), (0, .ref mq), (1, .int (iZ (↑rd))), (2, .int (iZ (↑gr)))]) hx hb dX4_wrong_18 hl (by decide) rfl (fun ls hl => ?_)
    refine lv_iload_n hx hb dX4_wrong_20 rfl (lv_at hl 3 rfl) ?_
    refine lv_iload hx hb dX4_wrong_21 (lv_at hl 0 rfl) ?_
    refine z_if_eq (tgt := 30) hx hb dX4_wrong_23 (by decide) (by omega) (fun h2 => ?_) (fun h2 => ?_)
    · skip
      refine z_iconst hx hb dX4_wrong_30 ?_
      refine lv_iload_n hx hb dX4_wrong_31 rfl (lv_at hl 1 rfl) ?_
      refine z_iadd hx hb (1 + (pb rd)) (rfl) dX4_wrong_32 ?_
      refine z_iadd hx hb ((↑rd) + (1 + (pb rd))) (rfl) dX4_wrong_33 ?_
      refine lv_aload_n hx hb dX4_wrong_34 rfl (lv_at hl 2 rfl) ?_
      refine z_get hx hb hts hi4 hown hp 0 rfl rfl 1 (by decide) f47 rfl dX4_wrong_35 ?_
      refine z_icmp_le (tgt := 43) hx hb dX4_wrong_38 (by decide) (by omega) (fun h3 => ?_) (fun h3 => ?_)
      · skip
        refine lv_iload hx hb dX4_wrong_43 (lv_at hl 0 rfl) ?_
        refine z_if_eq (tgt := 73) hx hb dX4_wrong_45 (by decide) (by omega) (fun h4 => ?_) (fun h4 => ?_)
        · skip
          refine lv_iload_n hx hb dX4_wrong_73 rfl (lv_at hl 4 rfl) ?_
          refine lv_iload hx hb dX4_wrong_74 (lv_at hl 0 rfl) ?_
          refine z_if_eq (tgt := 86) hx hb dX4_wrong_76 (by decide) (by omega) (fun h5 => ?_) (fun h5 => ?_)
          · skip
            refine lv_iload_n hx hb dX4_wrong_86 rfl (lv_at hl 1 rfl) ?_
            refine z_iadd hx hb ((↑gr) + (pb rd)) (rfl) dX4_wrong_87 ?_
            refine z_sipush hx hb dX4_wrong_88 (by decide +kernel) ?_
            refine z_icmp_le (tgt := 98) hx hb dX4_wrong_91 (by decide) (by omega) (fun h6 => ?_) (fun h6 => ?_)
            · skip
              refine z_iconst hx hb dX4_wrong_98 ?_
              exact hret _ _ _ _ _ _ _ () (congrArg iZ (by unfold wrZ; (repeat' split) <;> omega)) hp dX4_wrong_99 (rfl) (Nat.le_of_ble_eq_true rfl) (Nat.le_of_ble_eq_true rfl)
            · skip
              refine z_iconst hx hb dX4_wrong_94 ?_
              refine lv_goto (tgt := 99) hx hb dX4_wrong_95 (by decide) ?_
              exact hret _ _ _ _ _ _ _ () (congrArg iZ (by unfold wrZ; (repeat' split) <;> omega)) hp dX4_wrong_99 (rfl) (Nat.le_of_ble_eq_true rfl) (Nat.le_of_ble_eq_true rfl)
          · skip
            exfalso; omega
        · skip
          exfalso; omega
      · skip
        refine z_iconst hx hb dX4_wrong_41 ?_
        exact hret _ _ _ _ _ _ _ () (congrArg iZ (by unfold wrZ; (repeat' split) <;> omega)) hp dX4_wrong_42 (rfl) (Nat.le_of_ble_eq_true rfl) (Nat.le_of_ble_eq_true rfl)
    · skip
      exfalso; omega
  · skip
    refine z_iconst hx hb dX4_wrong_13 ?_
    refine lv_goto (tgt := 18) hx hb dX4_wrong_14 (by decide) ?_
    refine lv_istore (lv' := [(4, .int (iZ (1))), (3, .int (iZ (pb rd))), (0, .ref mq), (1, .int (iZ (↑rd))), (2, .int (iZ (↑gr)))]) hx hb dX4_wrong_18 hl (by decide) rfl (fun ls hl => ?_)
    refine lv_iload_n hx hb dX4_wrong_20 rfl (lv_at hl 3 rfl) ?_
    refine lv_iload hx hb dX4_wrong_21 (lv_at hl 0 rfl) ?_
    refine z_if_eq (tgt := 30) hx hb dX4_wrong_23 (by decide) (by omega) (fun h7 => ?_) (fun h7 => ?_)
    · skip
      exfalso; omega
    · skip
      refine z_iconst hx hb dX4_wrong_26 ?_
      refine lv_goto (tgt := 33) hx hb dX4_wrong_27 (by decide) ?_
      refine z_iadd hx hb ((↑rd) + 2) (rfl) dX4_wrong_33 ?_
      refine lv_aload_n hx hb dX4_wrong_34 rfl (lv_at hl 2 rfl) ?_
      refine z_get hx hb hts hi4 hown hp 0 rfl rfl 1 (by decide) f47 rfl dX4_wrong_35 ?_
      refine z_icmp_le (tgt := 43) hx hb dX4_wrong_38 (by decide) (by omega) (fun h8 => ?_) (fun h8 => ?_)
      · skip
        refine lv_iload hx hb dX4_wrong_43 (lv_at hl 0 rfl) ?_
        refine z_if_eq (tgt := 73) hx hb dX4_wrong_45 (by decide) (by omega) (fun h9 => ?_) (fun h9 => ?_)
        · skip
          exfalso; omega
        · skip
          refine lv_aload_n hx hb dX4_wrong_48 rfl (lv_at hl 2 rfl) ?_
          refine z_get hx hb hts hi4 hown hp 0 rfl rfl 2 (by decide) f7 rfl dX4_wrong_49 ?_
          have hb2 := h_b (rd + 1) (by omega)
          refine lv_iload_n hx hb dX4_wrong_52 rfl (lv_at hl 3 rfl) ?_
          refine z_iconst hx hb dX4_wrong_53 ?_
          refine z_iadd hx hb ((↑rd) + 1) (rfl) dX4_wrong_54 ?_
          refine z_iald hx hb hp 1 rfl (rd + 1) (by omega) dX4_wrong_55 (pb (rd + 1)) (rfl) ?_
          refine z_if_eq (tgt := 71) hx hb dX4_wrong_56 (by decide) (by omega) (fun h10 => ?_) (fun h10 => ?_)
          · skip
            refine z_iconst hx hb dX4_wrong_71 ?_
            exact hret _ _ _ _ _ _ _ () (congrArg iZ (by unfold wrZ; (repeat' split) <;> omega)) hp dX4_wrong_72 (rfl) (Nat.le_of_ble_eq_true rfl) (Nat.le_of_ble_eq_true rfl)
          · skip
            refine lv_aload_n hx hb dX4_wrong_59 rfl (lv_at hl 2 rfl) ?_
            refine z_get hx hb hts hi4 hown hp 0 rfl rfl 2 (by decide) f7 rfl dX4_wrong_60 ?_
            refine lv_iload_n hx hb dX4_wrong_63 rfl (lv_at hl 3 rfl) ?_
            refine z_iconst hx hb dX4_wrong_64 ?_
            refine z_iadd hx hb ((↑rd) + 1) (rfl) dX4_wrong_65 ?_
            refine z_iald hx hb hp 1 rfl (rd + 1) (by omega) dX4_wrong_66 (pb (rd + 1)) (rfl) ?_
            refine lv_iload_n hx hb dX4_wrong_67 rfl (lv_at hl 4 rfl) ?_
            refine z_icmp_le (tgt := 73) hx hb dX4_wrong_68 (by decide) (by omega) (fun h11 => ?_) (fun h11 => ?_)
            · skip
              refine lv_iload_n hx hb dX4_wrong_73 rfl (lv_at hl 4 rfl) ?_
              refine lv_iload hx hb dX4_wrong_74 (lv_at hl 0 rfl) ?_
              refine z_if_eq (tgt := 86) hx hb dX4_wrong_76 (by decide) (by omega) (fun h12 => ?_) (fun h12 => ?_)
              · skip
                exfalso; omega
              · skip
                refine lv_iload_n hx hb dX4_wrong_79 rfl (lv_at hl 1 rfl) ?_
                refine z_bipush hx hb dX4_wrong_80 (by decide +kernel) ?_
                refine z_isub hx hb ((pb rd) - 126) (rfl) dX4_wrong_82 ?_
                refine lv_goto (tgt := 87) hx hb dX4_wrong_83 (by decide) ?_
                refine z_iadd hx hb ((↑gr) + ((pb rd) - 126)) (rfl) dX4_wrong_87 ?_
                refine z_sipush hx hb dX4_wrong_88 (by decide +kernel) ?_
                refine z_icmp_le (tgt := 98) hx hb dX4_wrong_91 (by decide) (by omega) (fun h13 => ?_) (fun h13 => ?_)
                · skip
                  refine z_iconst hx hb dX4_wrong_98 ?_
                  exact hret _ _ _ _ _ _ _ () (congrArg iZ (by unfold wrZ; (repeat' split) <;> omega)) hp dX4_wrong_99 (rfl) (Nat.le_of_ble_eq_true rfl) (Nat.le_of_ble_eq_true rfl)
                · skip
                  refine z_iconst hx hb dX4_wrong_94 ?_
                  refine lv_goto (tgt := 99) hx hb dX4_wrong_95 (by decide) ?_
                  exact hret _ _ _ _ _ _ _ () (congrArg iZ (by unfold wrZ; (repeat' split) <;> omega)) hp dX4_wrong_99 (rfl) (Nat.le_of_ble_eq_true rfl) (Nat.le_of_ble_eq_true rfl)
            · skip
              refine z_iconst hx hb dX4_wrong_71 ?_
              exact hret _ _ _ _ _ _ _ () (congrArg iZ (by unfold wrZ; (repeat' split) <;> omega)) hp dX4_wrong_72 (rfl) (Nat.le_of_ble_eq_true rfl) (Nat.le_of_ble_eq_true rfl)
      · skip
        refine z_iconst hx hb dX4_wrong_41 ?_
        exact hret _ _ _ _ _ _ _ () (congrArg iZ (by unfold wrZ; (repeat' split) <;> omega)) hp dX4_wrong_42 (rfl) (Nat.le_of_ble_eq_true rfl) (Nat.le_of_ble_eq_true rfl)
abbrev rmX4_unpack : Room := { frames := 1, cells := 0, slots := 0, locals := 40 }
set_option maxRecDepth 100000 in
set_option maxHeartbeats 4000000 in
theorem c_X4_unpack (l : Launch) (G : va_G) (cI : ClassId) (sz : Nat) (mq mp m1 m2 m3 m4 m5 m6 m7 m8 m9 : Nat) (n org : Nat) (th ent kn gp ln pl st sp po : Int) (pb opn : Nat → Int) (h_n : n ≤ 160) (h_b : BB pb 160) : Met l yX4_unpack wsX4_unpack rmX4_unpack (zPre G cI [oR mq th (↑n) mp (↑org) ent kn gp ln m1 m2 m3 m4 m5 m6 m7 m8 pl st sp po m9, aI cI mp 160 pb, aI cI m6 160 opn] sz [.ref mq]) (va_Qi (fun (r : Int32) (u : Int × Int × Nat × (Nat → Int) × (Nat → Int)) => u.1 = (unp pb n (n + 1) 0 0 opn).1 ∧ ((unp pb n (n + 1) 0 0 opn).1 = 0 → u.2.1 = 0 ∧ u.2.2.1 = (unp pb n (n + 1) 0 0 opn).2.1 ∧ u.2.2.2.1 = cpZ (unp pb n (n + 1) 0 0 opn).2.2 pb 0 0 (unp pb n (n + 1) 0 0 opn).2.1 ∧ r = iZ ↑(unp pb n (n + 1) 0 0 opn).2.1) ∧ ((unp pb n (n + 1) 0 0 opn).1 ≠ 0 → u.2.1 = kn ∧ u.2.2.1 = n ∧ u.2.2.2.1 = pb)) (fun (u : Int × Int × Nat × (Nat → Int) × (Nat → Int)) t => zB G cI (va_A [oR mq th (↑n) mp (↑org) ent kn gp ln m1 m2 m3 m4 m5 m6 m7 m8 pl st sp po m9, aI cI mp 160 pb, aI cI m6 160 opn] sz) [oR mq u.1 (↑u.2.2.1) mp (↑org) ent u.2.1 gp ln m1 m2 m3 m4 m5 m6 m7 m8 pl st sp po m9, aI cI mp 160 u.2.2.2.1, aI cI m6 160 u.2.2.2.2] t) (va_A [oR mq th (↑n) mp (↑org) ent kn gp ln m1 m2 m3 m4 m5 m6 m7 m8 pl st sp po m9, aI cI mp 160 pb, aI cI m6 160 opn] sz)) 0 0 (va_A [oR mq th (↑n) mp (↑org) ent kn gp ln m1 m2 m3 m4 m5 m6 m7 m8 pl st sp po m9, aI cI mp 160 pb, aI cI m6 160 opn] sz) := by
  refine zm_i (W1 := fun (u : Int × Int × Nat × (Nat → Int) × (Nat → Int)) => [oR mq u.1 (↑u.2.2.1) mp (↑org) ent u.2.1 gp ln m1 m2 m3 m4 m5 m6 m7 m8 pl st sp po m9, aI cI mp 160 u.2.2.2.1, aI cI m6 160 u.2.2.2.2]) (cc := cX4_unpack) (maxL := 7) (ty := .int) (by decide) rfl (Nat.le_of_ble_eq_true rfl) ?_
  intro p e s m args below meth c A Q ls hsz hx hb hml hown hts hret hp hl
  have hl : lv_has ls 7 [(0, .ref mq)] := hl
  have hi4 : ∀ w ∈ wsX40, w ∈ wsX4_unpack := fun w h => List.mem_cons_of_mem _ (List.mem_append_right _ (h))
  have f44 := hts (.fieldLink RX4 44 "SelfOpenerModel" "thrown" "I") (List.mem_of_getElem? (i := 1) rfl)
  have f47 := hts (.fieldLink RX4 47 "SelfOpenerModel" "size" "I") (List.mem_of_getElem? (i := 2) rfl)
  have f52 := hts (.fieldLink RX4 52 "SelfOpenerModel" "known" "Z") (List.mem_of_getElem? (i := 5) rfl)
  have f7 := hts (.fieldLink RX4 7 "SelfOpenerModel" "program" "[I") (List.mem_of_getElem? (i := 3) rfl)
  have f28 := hts (.fieldLink RX4 28 "SelfOpenerModel" "open" "[I") (List.mem_of_getElem? (i := 4) rfl)
  obtain ⟨R, hR0⟩ : ∃ z, z = (unp pb n (n + 1) 0 0 opn) := ⟨_, rfl⟩
  rw [← hR0] at hret
  suffices hw : ∀ (H : Heap) (locs : List Loc), Hp G cI A s H locs [oR mq th (↑n) mp (↑org) ent kn gp ln m1 m2 m3 m4 m5 m6 m7 m8 pl st sp po m9, aI cI mp 160 pb, aI cI m6 160 opn] → W p l e rmX4_unpack s m args below meth c H locs 0 0 Q (F0 m 0 ls []) from hw _ _ hp
  clear hp; intro H locs hp
  refine lv_aload_n hx hb dX4_unpack_0 rfl (lv_at hl 0 rfl) ?_
  refine z_iconst hx hb dX4_unpack_1 ?_
  refine z_put hx hb hts hi4 tyX4 tyX4_ok nmX4 hown hp 0 rfl rfl 0 (by decide) f44 rfl (rfl) (rfl) (Nat.le_of_ble_eq_true rfl) dX4_unpack_2 (ws' := [oR mq 0 (↑n) mp (↑org) ent kn gp ln m1 m2 m3 m4 m5 m6 m7 m8 pl st sp po m9, aI cI mp 160 pb, aI cI m6 160 opn]) rfl (fun H locs hp => ?_)
  refine z_iconst hx hb dX4_unpack_5 ?_
  refine lv_istore_n (lv' := [(1, .int (iZ (0))), (0, .ref mq)]) hx hb dX4_unpack_6 rfl hl (by decide) rfl (fun ls hl => ?_)
  refine z_iconst hx hb dX4_unpack_7 ?_
  refine lv_istore_n (lv' := [(2, .int (iZ (0))), (1, .int (iZ (0))), (0, .ref mq)]) hx hb dX4_unpack_8 rfl hl (by decide) rfl (fun ls hl => ?_)
  have jn1 : ∀ (rd gr : Nat) (op : Nat → Int) (H : Heap) (locs : List Loc) (ls : Array Slot), (rd ≤ n) → (gr ≤ 160) → ((if n ≤ rd then (1, gr, op) else if rd < n - 1 then (2, gr, op) else (0, gr, op)) = R) → Hp G cI A s H locs [oR mq 0 (↑n) mp (↑org) ent kn gp ln m1 m2 m3 m4 m5 m6 m7 m8 pl st sp po m9, aI cI mp 160 pb, aI cI m6 160 op] → lv_has ls 7 [(0, .ref mq), (2, .int (iZ (↑rd))), (1, .int (iZ (↑gr)))] → W p l e rmX4_unpack s m args below meth c H locs 0 0 Q (F0 m 152 ls []) := by
    intro rd gr op H locs ls hrd hgr hR hp hl
    refine lv_iload_n hx hb dX4_unpack_152 rfl (lv_at hl 1 rfl) ?_
    refine lv_aload_n hx hb dX4_unpack_153 rfl (lv_at hl 0 rfl) ?_
    refine z_get hx hb hts hi4 hown hp 0 rfl rfl 1 (by decide) f47 rfl dX4_unpack_154 ?_
    refine z_icmp_ne (tgt := 166) hx hb dX4_unpack_157 (by decide) (by omega) (fun h5 => ?_) (fun h5 => ?_)
    · skip
      refine lv_iload_n hx hb dX4_unpack_166 rfl (lv_at hl 1 rfl) ?_
      refine z_iconst hx hb dX4_unpack_167 ?_
      refine z_iadd hx hb ((↑rd) + 1) (rfl) dX4_unpack_168 ?_
      refine lv_aload_n hx hb dX4_unpack_169 rfl (lv_at hl 0 rfl) ?_
      refine z_get hx hb hts hi4 hown hp 0 rfl rfl 1 (by decide) f47 rfl dX4_unpack_170 ?_
      refine z_icmp_ge (tgt := 182) hx hb dX4_unpack_173 (by decide) (by omega) (fun h6 => ?_) (fun h6 => ?_)
      · skip
        rw [if_neg (by omega), if_neg (by omega)] at hR
        subst hR
        refine z_iconst hx hb dX4_unpack_182 ?_
        refine lv_istore_n (lv' := [(3, .int (iZ (0))), (0, .ref mq), (2, .int (iZ (↑rd))), (1, .int (iZ (↑gr)))]) hx hb dX4_unpack_183 rfl hl (by decide) rfl (fun ls hl => ?_)
        have hp := z_alike hp 1 rfl (cpZ op pb 0 0 0) (fun j _ => by rw [cpZ_0]) (ws' := [oR mq 0 (↑n) mp (↑org) ent kn gp ln m1 m2 m3 m4 m5 m6 m7 m8 pl st sp po m9, aI cI mp 160 (cpZ op pb 0 0 0), aI cI m6 160 op]) rfl
        have lp7 : ∀ (N_lp7 : Nat) (k : Nat) (H : Heap) (locs : List Loc) (ls : Array Slot), (k ≤ gr) → (gr - k) < N_lp7 → Hp G cI A s H locs [oR mq 0 (↑n) mp (↑org) ent kn gp ln m1 m2 m3 m4 m5 m6 m7 m8 pl st sp po m9, aI cI mp 160 (cpZ op pb 0 0 k), aI cI m6 160 op] → lv_has ls 7 [(3, .int (iZ (↑k))), (0, .ref mq), (2, .int (iZ (↑rd))), (1, .int (iZ (↑gr)))] → W p l e rmX4_unpack s m args below meth c H locs 0 0 Q (F0 m 184 ls []) := by
          intro N_lp7
          induction N_lp7 with
          | zero => intros; exfalso; omega
          | succ N_lp7 ih_lp7 =>
            intro k H locs ls hk9 hN hp hl
            refine lv_iload_n hx hb dX4_unpack_184 rfl (lv_at hl 0 rfl) ?_
            refine lv_iload_n hx hb dX4_unpack_185 rfl (lv_at hl 3 rfl) ?_
            refine z_icmp_ge (tgt := 207) hx hb dX4_unpack_186 (by decide) (by omega) (fun h8 => ?_) (fun h8 => ?_)
            · skip
              obtain rfl : k = gr := by omega
              skip
              refine lv_aload_n hx hb dX4_unpack_207 rfl (lv_at hl 1 rfl) ?_
              refine lv_iload_n hx hb dX4_unpack_208 rfl (lv_at hl 3 rfl) ?_
              refine z_put hx hb hts hi4 tyX4 tyX4_ok nmX4 hown hp 0 rfl rfl 1 (by decide) f47 rfl (rfl) (rfl) (Nat.le_of_ble_eq_true rfl) dX4_unpack_209 (ws' := [oR mq 0 (↑k) mp (↑org) ent kn gp ln m1 m2 m3 m4 m5 m6 m7 m8 pl st sp po m9, aI cI mp 160 (cpZ op pb 0 0 k), aI cI m6 160 op]) rfl (fun H locs hp => ?_)
              refine lv_aload_n hx hb dX4_unpack_212 rfl (lv_at hl 1 rfl) ?_
              refine z_iconst hx hb dX4_unpack_213 ?_
              refine z_put hx hb hts hi4 tyX4 tyX4_ok nmX4 hown hp 0 rfl rfl 5 (by decide) f52 rfl (by decide +kernel) (by decide +kernel) (Nat.le_of_ble_eq_true rfl) dX4_unpack_214 (ws' := [oR mq 0 (↑k) mp (↑org) ent 0 gp ln m1 m2 m3 m4 m5 m6 m7 m8 pl st sp po m9, aI cI mp 160 (cpZ op pb 0 0 k), aI cI m6 160 op]) rfl (fun H locs hp => ?_)
              refine lv_iload_n hx hb dX4_unpack_217 rfl (lv_at hl 3 rfl) ?_
              exact hret _ _ _ _ _ _ _ (0, 0, k, cpZ op pb 0 0 k, op) (⟨rfl, fun _ => ⟨rfl, rfl, rfl, rfl⟩, fun q => absurd rfl q⟩) hp dX4_unpack_218 (rfl) (Nat.le_of_ble_eq_true rfl) (Nat.le_of_ble_eq_true rfl)
            · skip
              refine lv_aload_n hx hb dX4_unpack_189 rfl (lv_at hl 1 rfl) ?_
              refine z_get hx hb hts hi4 hown hp 0 rfl rfl 2 (by decide) f7 rfl dX4_unpack_190 ?_
              refine lv_iload_n hx hb dX4_unpack_193 rfl (lv_at hl 0 rfl) ?_
              refine lv_aload_n hx hb dX4_unpack_194 rfl (lv_at hl 1 rfl) ?_
              refine z_get hx hb hts hi4 hown hp 0 rfl rfl 13 (by decide) f28 rfl dX4_unpack_195 ?_
              refine lv_iload_n hx hb dX4_unpack_198 rfl (lv_at hl 0 rfl) ?_
              refine z_iald hx hb hp 2 rfl (k) (by omega) dX4_unpack_199 (op k) (rfl) ?_
              refine z_iast hx hb hp 1 rfl (k) (by omega) dX4_unpack_200 (ws' := [oR mq 0 (↑n) mp (↑org) ent kn gp ln m1 m2 m3 m4 m5 m6 m7 m8 pl st sp po m9, aI cI mp 160 (upZ (cpZ op pb 0 0 k) k (op k)), aI cI m6 160 op]) rfl (fun H locs hp => ?_)
              have hp := z_alike hp 1 rfl (cpZ op pb 0 0 (k + 1)) (fun j _ => by rw [cpZ_up, Nat.zero_add]) (ws' := [oR mq 0 (↑n) mp (↑org) ent kn gp ln m1 m2 m3 m4 m5 m6 m7 m8 pl st sp po m9, aI cI mp 160 (cpZ op pb 0 0 (k + 1)), aI cI m6 160 op]) rfl
              refine z_iinc (k := 0) (lv' := [(3, .int (iZ (↑(k + 1)))), (0, .ref mq), (2, .int (iZ (↑rd))), (1, .int (iZ (↑gr)))]) hx hb (↑(k + 1)) (by omega) dX4_unpack_201 hl rfl (by decide) rfl (fun ls hl => ?_)
              refine lv_goto (tgt := 184) hx hb dX4_unpack_204 (by decide) ?_
              exact ih_lp7 (k + 1) _ _ _ (by omega) (by omega) hp (lv_sub hl [0, 1, 2, 3] rfl)
        exact lp7 _ 0 _ _ _ (by omega) (Nat.lt_succ_self _) hp (lv_sub hl [0, 1, 2, 3] rfl)
      · skip
        rw [if_neg (by omega), if_pos (by omega)] at hR
        subst hR
        refine lv_aload_n hx hb dX4_unpack_176 rfl (lv_at hl 0 rfl) ?_
        refine z_iconst hx hb dX4_unpack_177 ?_
        refine zc_i (wr := [aI cI mp 160 pb, aI cI m6 160 op]) (W0 := [oR mq 0 (↑n) mp (↑org) ent kn gp ln m1 m2 m3 m4 m5 m6 m7 m8 pl st sp po m9]) (wl2 := fun (u : Unit) => [oR mq 2 (↑n) mp (↑org) ent kn gp ln m1 m2 m3 m4 m5 m6 m7 m8 pl st sp po m9, aI cI mp 160 pb, aI cI m6 160 op]) (As := [.int (iZ (2))]) (rest := []) hx hb hml hown hts hp (c_X4_fail l G cI H.size mq mp m1 m2 m3 m4 m5 m6 m7 m8 m9 n org 0 ent kn gp ln pl st sp po 2) zPre_blind (z_pre hp [0] rfl (by decide) [.ref mq, .int (iZ (2))]) (cwV 1 hts gX4_unpack_X4_fail rfl rfl rfl (by decide +kernel) ⟨Nat.le_of_ble_eq_true rfl, Nat.le_of_ble_eq_true rfl⟩) [0] [1, 2] [2, 0, 1] rfl rfl ⟨by decide, by decide, by decide⟩ (fun _ => rfl) 0 4 rfl rfl rfl rfl hl.1 rfl (Nat.le_of_ble_eq_true rfl) dX4_unpack_178 ⟨Nat.le_of_ble_eq_true rfl, Nat.le_of_ble_eq_true rfl⟩ (fun rv u H locs hq9 hp => ?_)
        obtain rfl : rv = iZ (0) := hq9
        exact hret _ _ _ _ _ _ _ (2, kn, n, pb, op) (⟨rfl, fun q => by dsimp only at q; omega, fun _ => ⟨rfl, rfl, rfl⟩⟩) hp dX4_unpack_181 (rfl) (Nat.le_of_ble_eq_true rfl) (Nat.le_of_ble_eq_true rfl)
    · skip
      rw [if_pos (by omega)] at hR
      subst hR
      refine lv_aload_n hx hb dX4_unpack_160 rfl (lv_at hl 0 rfl) ?_
      refine z_iconst hx hb dX4_unpack_161 ?_
      refine zc_i (wr := [aI cI mp 160 pb, aI cI m6 160 op]) (W0 := [oR mq 0 (↑n) mp (↑org) ent kn gp ln m1 m2 m3 m4 m5 m6 m7 m8 pl st sp po m9]) (wl2 := fun (u : Unit) => [oR mq 1 (↑n) mp (↑org) ent kn gp ln m1 m2 m3 m4 m5 m6 m7 m8 pl st sp po m9, aI cI mp 160 pb, aI cI m6 160 op]) (As := [.int (iZ (1))]) (rest := []) hx hb hml hown hts hp (c_X4_fail l G cI H.size mq mp m1 m2 m3 m4 m5 m6 m7 m8 m9 n org 0 ent kn gp ln pl st sp po 1) zPre_blind (z_pre hp [0] rfl (by decide) [.ref mq, .int (iZ (1))]) (cwV 1 hts gX4_unpack_X4_fail rfl rfl rfl (by decide +kernel) ⟨Nat.le_of_ble_eq_true rfl, Nat.le_of_ble_eq_true rfl⟩) [0] [1, 2] [2, 0, 1] rfl rfl ⟨by decide, by decide, by decide⟩ (fun _ => rfl) 0 4 rfl rfl rfl rfl hl.1 rfl (Nat.le_of_ble_eq_true rfl) dX4_unpack_162 ⟨Nat.le_of_ble_eq_true rfl, Nat.le_of_ble_eq_true rfl⟩ (fun rv u H locs hq10 hp => ?_)
      obtain rfl : rv = iZ (0) := hq10
      exact hret _ _ _ _ _ _ _ (1, kn, n, pb, op) (⟨rfl, fun q => by dsimp only at q; omega, fun _ => ⟨rfl, rfl, rfl⟩⟩) hp dX4_unpack_165 (rfl) (Nat.le_of_ble_eq_true rfl) (Nat.le_of_ble_eq_true rfl)
  have lp11 : ∀ (N_lp11 : Nat) (f rd gr : Nat) (op : Nat → Int) (H : Heap) (locs : List Loc) (ls : Array Slot), (rd ≤ n) → (gr ≤ 160) → (n + 1 ≤ f + rd) → (unp pb n f rd gr op = R) → (n - rd) < N_lp11 → Hp G cI A s H locs [oR mq 0 (↑n) mp (↑org) ent kn gp ln m1 m2 m3 m4 m5 m6 m7 m8 pl st sp po m9, aI cI mp 160 pb, aI cI m6 160 op] → lv_has ls 7 [(0, .ref mq), (2, .int (iZ (↑rd))), (1, .int (iZ (↑gr)))] → W p l e rmX4_unpack s m args below meth c H locs 0 0 Q (F0 m 9 ls []) := by
    intro N_lp11
    induction N_lp11 with
    | zero => intros; exfalso; omega
    | succ N_lp11 ih_lp11 =>
      intro f rd gr op H locs ls hrd hgr hf hR hN hp hl
      obtain ⟨f, rfl⟩ : ∃ f9, f = f9 + 1 := ⟨f - 1, by omega⟩
      refine lv_iload_n hx hb dX4_unpack_9 rfl (lv_at hl 1 rfl) ?_
      refine lv_aload_n hx hb dX4_unpack_10 rfl (lv_at hl 0 rfl) ?_
      refine z_get hx hb hts hi4 hown hp 0 rfl rfl 1 (by decide) f47 rfl dX4_unpack_11 ?_
      refine z_icmp_ge (tgt := 152) hx hb dX4_unpack_14 (by decide) (by omega) (fun h12 => ?_) (fun h12 => ?_)
      · skip
        exact jn1 rd gr op _ _ _ (by omega) (by omega) (by rw [unp_end (by omega)] at hR; exact hR) hp (lv_sub hl [0, 1, 2] rfl)
      · skip
        have hb1 := h_b rd (by omega)
        refine lv_aload_n hx hb dX4_unpack_17 rfl (lv_at hl 0 rfl) ?_
        refine z_get hx hb hts hi4 hown hp 0 rfl rfl 2 (by decide) f7 rfl dX4_unpack_18 ?_
        refine lv_iload_n hx hb dX4_unpack_21 rfl (lv_at hl 1 rfl) ?_
        refine z_iald hx hb hp 1 rfl (rd) (by omega) dX4_unpack_22 (pb rd) (rfl) ?_
        refine z_if_le (tgt := 152) hx hb dX4_unpack_23 (by decide) (by omega) (fun h13 => ?_) (fun h13 => ?_)
        · skip
          exact jn1 rd gr op _ _ _ (by omega) (by omega) (by rw [unp_end (by omega)] at hR; exact hR) hp (lv_sub hl [0, 1, 2] rfl)
        · skip
          refine lv_aload_n hx hb dX4_unpack_26 rfl (lv_at hl 0 rfl) ?_
          refine lv_iload_n hx hb dX4_unpack_27 rfl (lv_at hl 1 rfl) ?_
          refine lv_iload_n hx hb dX4_unpack_28 rfl (lv_at hl 2 rfl) ?_
          refine zc_i (wr := [aI cI m6 160 op]) (W0 := [oR mq 0 (↑n) mp (↑org) ent kn gp ln m1 m2 m3 m4 m5 m6 m7 m8 pl st sp po m9, aI cI mp 160 pb]) (wl2 := fun (u : Unit) => [oR mq 0 (↑n) mp (↑org) ent kn gp ln m1 m2 m3 m4 m5 m6 m7 m8 pl st sp po m9, aI cI mp 160 pb, aI cI m6 160 op]) (As := [.int (iZ (↑rd)), .int (iZ (↑gr))]) (rest := []) hx hb hml hown hts hp (c_X4_wrong l G cI H.size mq mp m1 m2 m3 m4 m5 m6 m7 m8 m9 n org 0 ent kn gp ln pl st sp po pb rd gr (by omega) (h_b) (by omega) (by omega)) zPre_blind (z_pre hp [0, 1] rfl (by decide) [.ref mq, .int (iZ (↑rd)), .int (iZ (↑gr))]) (cwV 2 hts gX4_unpack_X4_wrong rfl rfl rfl (by decide +kernel) ⟨Nat.le_of_ble_eq_true rfl, Nat.le_of_ble_eq_true rfl⟩) [0, 1] [2] [1, 2, 0] rfl rfl ⟨by decide, by decide, by decide⟩ (fun _ => rfl) 0 4 rfl rfl rfl rfl hl.1 rfl (Nat.le_of_ble_eq_true rfl) dX4_unpack_29 ⟨Nat.le_of_ble_eq_true rfl, Nat.le_of_ble_eq_true rfl⟩ (fun rv u H locs hq14 hp => ?_)
          obtain rfl : rv = iZ (wrZ pb n rd gr) := hq14
          refine lv_istore_n (lv' := [(3, .int (iZ (wrZ pb n rd gr))), (0, .ref mq), (2, .int (iZ (↑rd))), (1, .int (iZ (↑gr)))]) hx hb dX4_unpack_32 rfl hl (by decide) rfl (fun ls hl => ?_)
          have hwb := wrZ_b pb n rd gr
          refine lv_iload_n hx hb dX4_unpack_33 rfl (lv_at hl 0 rfl) ?_
          refine z_if_le (tgt := 43) hx hb dX4_unpack_34 (by decide) (by omega) (fun h15 => ?_) (fun h15 => ?_)
          · skip
            refine lv_aload_n hx hb dX4_unpack_43 rfl (lv_at hl 1 rfl) ?_
            refine z_get hx hb hts hi4 hown hp 0 rfl rfl 2 (by decide) f7 rfl dX4_unpack_44 ?_
            refine lv_iload_n hx hb dX4_unpack_47 rfl (lv_at hl 2 rfl) ?_
            refine z_iald hx hb hp 1 rfl (rd) (by omega) dX4_unpack_48 (pb rd) (rfl) ?_
            refine lv_istore (lv' := [(4, .int (iZ (pb rd))), (3, .int (iZ (wrZ pb n rd gr))), (0, .ref mq), (2, .int (iZ (↑rd))), (1, .int (iZ (↑gr)))]) hx hb dX4_unpack_49 hl (by decide) rfl (fun ls hl => ?_)
            refine lv_iload hx hb dX4_unpack_51 (lv_at hl 0 rfl) ?_
            refine z_bipush hx hb dX4_unpack_53 (by decide +kernel) ?_
            refine z_icmp_le (tgt := 66) hx hb dX4_unpack_55 (by decide) (by omega) (fun h16 => ?_) (fun h16 => ?_)
            · skip
              have hwr := wrZ_run (pb := pb) (n := n) (rd := rd) (gr := gr) (by omega) (by omega)
              refine lv_iload hx hb dX4_unpack_66 (lv_at hl 0 rfl) ?_
              refine z_top (↑((pb rd).toNat)) (by omega) ?_
              refine lv_istore (lv' := [(5, .int (iZ (↑((pb rd).toNat)))), (4, .int (iZ (pb rd))), (3, .int (iZ (wrZ pb n rd gr))), (0, .ref mq), (2, .int (iZ (↑rd))), (1, .int (iZ (↑gr)))]) hx hb dX4_unpack_68 hl (by decide) rfl (fun ls hl => ?_)
              refine z_iconst hx hb dX4_unpack_70 ?_
              refine lv_istore (lv' := [(6, .int (iZ (0))), (5, .int (iZ (↑((pb rd).toNat)))), (4, .int (iZ (pb rd))), (3, .int (iZ (wrZ pb n rd gr))), (0, .ref mq), (2, .int (iZ (↑rd))), (1, .int (iZ (↑gr)))]) hx hb dX4_unpack_71 hl (by decide) rfl (fun ls hl => ?_)
              have hp := z_alike hp 2 rfl (cpZ pb op (rd + 1) gr 0) (fun j _ => by rw [cpZ_0]) (ws' := [oR mq 0 (↑n) mp (↑org) ent kn gp ln m1 m2 m3 m4 m5 m6 m7 m8 pl st sp po m9, aI cI mp 160 pb, aI cI m6 160 (cpZ pb op (rd + 1) gr 0)]) rfl
              have hl : lv_has ls 7 [(6, .int (iZ (0))), (5, .int (iZ (↑((pb rd).toNat)))), (4, .int (iZ (pb rd))), (3, .int (iZ (wrZ pb n rd gr))), (0, .ref mq), (2, .int (iZ (↑rd))), (1, .int (iZ (↑(gr + 0))))] := by
                have e9 : ([(6, .int (iZ (0))), (5, .int (iZ (↑((pb rd).toNat)))), (4, .int (iZ (pb rd))), (3, .int (iZ (wrZ pb n rd gr))), (0, .ref mq), (2, .int (iZ (↑rd))), (1, .int (iZ (↑gr)))] : List (Nat × Value)) = [(6, .int (iZ (0))), (5, .int (iZ (↑((pb rd).toNat)))), (4, .int (iZ (pb rd))), (3, .int (iZ (wrZ pb n rd gr))), (0, .ref mq), (2, .int (iZ (↑rd))), (1, .int (iZ (↑(gr + 0))))] := rfl
                rw [← e9]; exact hl
              have lp17 : ∀ (N_lp17 : Nat) (k : Nat) (H : Heap) (locs : List Loc) (ls : Array Slot), (k ≤ (pb rd).toNat) → ((pb rd).toNat - k) < N_lp17 → Hp G cI A s H locs [oR mq 0 (↑n) mp (↑org) ent kn gp ln m1 m2 m3 m4 m5 m6 m7 m8 pl st sp po m9, aI cI mp 160 pb, aI cI m6 160 (cpZ pb op (rd + 1) gr k)] → lv_has ls 7 [(6, .int (iZ (↑k))), (1, .int (iZ (↑(gr + k)))), (5, .int (iZ (↑((pb rd).toNat)))), (4, .int (iZ (pb rd))), (3, .int (iZ (wrZ pb n rd gr))), (0, .ref mq), (2, .int (iZ (↑rd)))] → W p l e rmX4_unpack s m args below meth c H locs 0 0 Q (F0 m 73 ls []) := by
                intro N_lp17
                induction N_lp17 with
                | zero => intros; exfalso; omega
                | succ N_lp17 ih_lp17 =>
                  intro k H locs ls hk9 hN hp hl
                  refine lv_iload hx hb dX4_unpack_73 (lv_at hl 0 rfl) ?_
                  refine lv_iload hx hb dX4_unpack_75 (lv_at hl 2 rfl) ?_
                  refine z_icmp_ge (tgt := 131) hx hb dX4_unpack_77 (by decide) (by omega) (fun h18 => ?_) (fun h18 => ?_)
                  · skip
                    obtain rfl : k = (pb rd).toNat := by omega
                    skip
                    refine lv_iload_n hx hb dX4_unpack_131 rfl (lv_at hl 6 rfl) ?_
                    refine lv_iload hx hb dX4_unpack_132 (lv_at hl 3 rfl) ?_
                    refine z_bipush hx hb dX4_unpack_134 (by decide +kernel) ?_
                    refine z_icmp_le (tgt := 143) hx hb dX4_unpack_136 (by decide) (by omega) (fun h19 => ?_) (fun h19 => ?_)
                    · skip
                      refine z_iconst hx hb dX4_unpack_143 ?_
                      refine lv_iload hx hb dX4_unpack_144 (lv_at hl 3 rfl) ?_
                      refine z_iadd hx hb (1 + (pb rd)) (rfl) dX4_unpack_146 ?_
                      refine z_iadd hx hb (↑(rd + 1 + (pb rd).toNat)) (by omega) dX4_unpack_147 ?_
                      refine lv_istore_n (lv' := [(2, .int (iZ (↑(rd + 1 + (pb rd).toNat)))), (6, .int (iZ (↑(pb rd).toNat))), (1, .int (iZ (↑(gr + (pb rd).toNat)))), (5, .int (iZ (↑((pb rd).toNat)))), (4, .int (iZ (pb rd))), (3, .int (iZ (wrZ pb n rd gr))), (0, .ref mq)]) hx hb dX4_unpack_148 rfl hl (by decide) rfl (fun ls hl => ?_)
                      refine lv_goto (tgt := 9) hx hb dX4_unpack_149 (by decide) ?_
                      exact ih_lp11 f (rd + 1 + (pb rd).toNat) (gr + (pb rd).toNat) (cpZ pb op (rd + 1) gr (pb rd).toNat) _ _ _ (by omega) (by omega) (by omega) (by rw [unp_run (by omega) (by omega) (by omega), if_neg (by omega), if_neg (by omega)] at hR; exact hR) (by omega) hp (lv_sub hl [6, 0, 2] rfl)
                    · skip
                      exfalso; omega
                  · skip
                    refine lv_aload_n hx hb dX4_unpack_80 rfl (lv_at hl 5 rfl) ?_
                    refine z_get hx hb hts hi4 hown hp 0 rfl rfl 13 (by decide) f28 rfl dX4_unpack_81 ?_
                    refine lv_iload_n hx hb dX4_unpack_84 rfl (lv_at hl 1 rfl) ?_
                    refine lv_iload hx hb dX4_unpack_85 (lv_at hl 3 rfl) ?_
                    refine z_bipush hx hb dX4_unpack_87 (by decide +kernel) ?_
                    refine z_icmp_le (tgt := 110) hx hb dX4_unpack_89 (by decide) (by omega) (fun h20 => ?_) (fun h20 => ?_)
                    · skip
                      refine lv_aload_n hx hb dX4_unpack_110 rfl (lv_at hl 5 rfl) ?_
                      refine z_get hx hb hts hi4 hown hp 0 rfl rfl 2 (by decide) f7 rfl dX4_unpack_111 ?_
                      refine lv_iload_n hx hb dX4_unpack_114 rfl (lv_at hl 6 rfl) ?_
                      refine z_iconst hx hb dX4_unpack_115 ?_
                      refine z_iadd hx hb ((↑rd) + 1) (rfl) dX4_unpack_116 ?_
                      refine lv_iload hx hb dX4_unpack_117 (lv_at hl 0 rfl) ?_
                      refine z_iadd hx hb (((↑rd) + 1) + (↑k)) (rfl) dX4_unpack_119 ?_
                      refine z_iald hx hb hp 1 rfl (rd + 1 + k) (by omega) dX4_unpack_120 (pb (rd + 1 + k)) (rfl) ?_
                      refine z_iast hx hb hp 2 rfl (gr + k) (by omega) dX4_unpack_121 (ws' := [oR mq 0 (↑n) mp (↑org) ent kn gp ln m1 m2 m3 m4 m5 m6 m7 m8 pl st sp po m9, aI cI mp 160 pb, aI cI m6 160 (upZ (cpZ pb op (rd + 1) gr k) (gr + k) (pb (rd + 1 + k)))]) rfl (fun H locs hp => ?_)
                      have hp := z_alike hp 2 rfl (cpZ pb op (rd + 1) gr (k + 1)) (fun j _ => cpZ_up pb op (rd + 1) gr k j) (ws' := [oR mq 0 (↑n) mp (↑org) ent kn gp ln m1 m2 m3 m4 m5 m6 m7 m8 pl st sp po m9, aI cI mp 160 pb, aI cI m6 160 (cpZ pb op (rd + 1) gr (k + 1))]) rfl
                      refine z_iinc (k := 1) (lv' := [(1, .int (iZ (↑(gr + (k + 1))))), (6, .int (iZ (↑k))), (5, .int (iZ (↑((pb rd).toNat)))), (4, .int (iZ (pb rd))), (3, .int (iZ (wrZ pb n rd gr))), (0, .ref mq), (2, .int (iZ (↑rd)))]) hx hb (↑(gr + (k + 1))) (by omega) dX4_unpack_122 hl rfl (by decide) rfl (fun ls hl => ?_)
                      refine z_iinc (k := 1) (lv' := [(6, .int (iZ (↑(k + 1)))), (1, .int (iZ (↑(gr + (k + 1))))), (5, .int (iZ (↑((pb rd).toNat)))), (4, .int (iZ (pb rd))), (3, .int (iZ (wrZ pb n rd gr))), (0, .ref mq), (2, .int (iZ (↑rd)))]) hx hb (↑(k + 1)) (by omega) dX4_unpack_125 hl rfl (by decide) rfl (fun ls hl => ?_)
                      refine lv_goto (tgt := 73) hx hb dX4_unpack_128 (by decide) ?_
                      exact ih_lp17 (k + 1) _ _ _ (by omega) (by omega) hp (lv_sub hl [0, 1, 2, 3, 4, 5, 6] rfl)
                    · skip
                      exfalso; omega
              exact lp17 _ 0 _ _ _ (by omega) (Nat.lt_succ_self _) hp (lv_sub hl [0, 6, 1, 2, 3, 4, 5] rfl)
            · skip
              have hwr := wrZ_cpy (pb := pb) (n := n) (rd := rd) (gr := gr) (by omega) (by omega)
              have hb2 := h_b (rd + 1) (by omega)
              refine lv_iload hx hb dX4_unpack_58 (lv_at hl 0 rfl) ?_
              refine z_bipush hx hb dX4_unpack_60 (by decide +kernel) ?_
              refine z_isub hx hb ((pb rd) - 126) (rfl) dX4_unpack_62 ?_
              refine lv_goto (tgt := 68) hx hb dX4_unpack_63 (by decide) ?_
              refine z_top (↑((pb rd).toNat - 126)) (by omega) ?_
              refine lv_istore (lv' := [(5, .int (iZ (↑((pb rd).toNat - 126)))), (4, .int (iZ (pb rd))), (3, .int (iZ (wrZ pb n rd gr))), (0, .ref mq), (2, .int (iZ (↑rd))), (1, .int (iZ (↑gr)))]) hx hb dX4_unpack_68 hl (by decide) rfl (fun ls hl => ?_)
              refine z_iconst hx hb dX4_unpack_70 ?_
              refine lv_istore (lv' := [(6, .int (iZ (0))), (5, .int (iZ (↑((pb rd).toNat - 126)))), (4, .int (iZ (pb rd))), (3, .int (iZ (wrZ pb n rd gr))), (0, .ref mq), (2, .int (iZ (↑rd))), (1, .int (iZ (↑gr)))]) hx hb dX4_unpack_71 hl (by decide) rfl (fun ls hl => ?_)
              have hp := z_alike hp 2 rfl (cpy1 op gr (pb (rd + 1)).toNat 0) (fun j _ => rfl) (ws' := [oR mq 0 (↑n) mp (↑org) ent kn gp ln m1 m2 m3 m4 m5 m6 m7 m8 pl st sp po m9, aI cI mp 160 pb, aI cI m6 160 (cpy1 op gr (pb (rd + 1)).toNat 0)]) rfl
              have hl : lv_has ls 7 [(6, .int (iZ (0))), (5, .int (iZ (↑((pb rd).toNat - 126)))), (4, .int (iZ (pb rd))), (3, .int (iZ (wrZ pb n rd gr))), (0, .ref mq), (2, .int (iZ (↑rd))), (1, .int (iZ (↑(gr + 0))))] := by
                have e9 : ([(6, .int (iZ (0))), (5, .int (iZ (↑((pb rd).toNat - 126)))), (4, .int (iZ (pb rd))), (3, .int (iZ (wrZ pb n rd gr))), (0, .ref mq), (2, .int (iZ (↑rd))), (1, .int (iZ (↑gr)))] : List (Nat × Value)) = [(6, .int (iZ (0))), (5, .int (iZ (↑((pb rd).toNat - 126)))), (4, .int (iZ (pb rd))), (3, .int (iZ (wrZ pb n rd gr))), (0, .ref mq), (2, .int (iZ (↑rd))), (1, .int (iZ (↑(gr + 0))))] := rfl
                rw [← e9]; exact hl
              have lp21 : ∀ (N_lp21 : Nat) (k : Nat) (H : Heap) (locs : List Loc) (ls : Array Slot), (k ≤ (pb rd).toNat - 126) → ((pb rd).toNat - 126 - k) < N_lp21 → Hp G cI A s H locs [oR mq 0 (↑n) mp (↑org) ent kn gp ln m1 m2 m3 m4 m5 m6 m7 m8 pl st sp po m9, aI cI mp 160 pb, aI cI m6 160 (cpy1 op gr (pb (rd + 1)).toNat k)] → lv_has ls 7 [(6, .int (iZ (↑k))), (1, .int (iZ (↑(gr + k)))), (5, .int (iZ (↑((pb rd).toNat - 126)))), (4, .int (iZ (pb rd))), (3, .int (iZ (wrZ pb n rd gr))), (0, .ref mq), (2, .int (iZ (↑rd)))] → W p l e rmX4_unpack s m args below meth c H locs 0 0 Q (F0 m 73 ls []) := by
                intro N_lp21
                induction N_lp21 with
                | zero => intros; exfalso; omega
                | succ N_lp21 ih_lp21 =>
                  intro k H locs ls hk9 hN hp hl
                  refine lv_iload hx hb dX4_unpack_73 (lv_at hl 0 rfl) ?_
                  refine lv_iload hx hb dX4_unpack_75 (lv_at hl 2 rfl) ?_
                  refine z_icmp_ge (tgt := 131) hx hb dX4_unpack_77 (by decide) (by omega) (fun h22 => ?_) (fun h22 => ?_)
                  · skip
                    obtain rfl : k = (pb rd).toNat - 126 := by omega
                    skip
                    refine lv_iload_n hx hb dX4_unpack_131 rfl (lv_at hl 6 rfl) ?_
                    refine lv_iload hx hb dX4_unpack_132 (lv_at hl 3 rfl) ?_
                    refine z_bipush hx hb dX4_unpack_134 (by decide +kernel) ?_
                    refine z_icmp_le (tgt := 143) hx hb dX4_unpack_136 (by decide) (by omega) (fun h23 => ?_) (fun h23 => ?_)
                    · skip
                      exfalso; omega
                    · skip
                      refine z_iconst hx hb dX4_unpack_139 ?_
                      refine lv_goto (tgt := 147) hx hb dX4_unpack_140 (by decide) ?_
                      refine z_iadd hx hb (↑(rd + 2)) (by omega) dX4_unpack_147 ?_
                      refine lv_istore_n (lv' := [(2, .int (iZ (↑(rd + 2)))), (6, .int (iZ (↑((pb rd).toNat - 126)))), (1, .int (iZ (↑(gr + ((pb rd).toNat - 126))))), (5, .int (iZ (↑((pb rd).toNat - 126)))), (4, .int (iZ (pb rd))), (3, .int (iZ (wrZ pb n rd gr))), (0, .ref mq)]) hx hb dX4_unpack_148 rfl hl (by decide) rfl (fun ls hl => ?_)
                      refine lv_goto (tgt := 9) hx hb dX4_unpack_149 (by decide) ?_
                      exact ih_lp11 f (rd + 2) (gr + ((pb rd).toNat - 126)) (cpy1 op gr (pb (rd + 1)).toNat ((pb rd).toNat - 126)) _ _ _ (by omega) (by omega) (by omega) (by rw [unp_cpy (by omega) (by omega) (by omega), if_neg (by omega), if_neg (by omega), if_neg (by omega)] at hR; exact hR) (by omega) hp (lv_sub hl [6, 0, 2] rfl)
                  · skip
                    refine lv_aload_n hx hb dX4_unpack_80 rfl (lv_at hl 5 rfl) ?_
                    refine z_get hx hb hts hi4 hown hp 0 rfl rfl 13 (by decide) f28 rfl dX4_unpack_81 ?_
                    refine lv_iload_n hx hb dX4_unpack_84 rfl (lv_at hl 1 rfl) ?_
                    refine lv_iload hx hb dX4_unpack_85 (lv_at hl 3 rfl) ?_
                    refine z_bipush hx hb dX4_unpack_87 (by decide +kernel) ?_
                    refine z_icmp_le (tgt := 110) hx hb dX4_unpack_89 (by decide) (by omega) (fun h24 => ?_) (fun h24 => ?_)
                    · skip
                      exfalso; omega
                    · skip
                      refine lv_aload_n hx hb dX4_unpack_92 rfl (lv_at hl 5 rfl) ?_
                      refine z_get hx hb hts hi4 hown hp 0 rfl rfl 13 (by decide) f28 rfl dX4_unpack_93 ?_
                      refine lv_iload_n hx hb dX4_unpack_96 rfl (lv_at hl 1 rfl) ?_
                      refine lv_aload_n hx hb dX4_unpack_97 rfl (lv_at hl 5 rfl) ?_
                      refine z_get hx hb hts hi4 hown hp 0 rfl rfl 2 (by decide) f7 rfl dX4_unpack_98 ?_
                      refine lv_iload_n hx hb dX4_unpack_101 rfl (lv_at hl 6 rfl) ?_
                      refine z_iconst hx hb dX4_unpack_102 ?_
                      refine z_iadd hx hb ((↑rd) + 1) (rfl) dX4_unpack_103 ?_
                      refine z_iald hx hb hp 1 rfl (rd + 1) (by omega) dX4_unpack_104 (pb (rd + 1)) (rfl) ?_
                      refine z_isub hx hb ((↑(gr + k)) - (pb (rd + 1))) (rfl) dX4_unpack_105 ?_
                      refine z_iald hx hb hp 2 rfl (gr + k - (pb (rd + 1)).toNat) (by omega) dX4_unpack_106 (cpy1 op gr (pb (rd + 1)).toNat k (gr + k - (pb (rd + 1)).toNat)) (rfl) ?_
                      refine lv_goto (tgt := 121) hx hb dX4_unpack_107 (by decide) ?_
                      refine z_iast hx hb hp 2 rfl (gr + k) (by omega) dX4_unpack_121 (ws' := [oR mq 0 (↑n) mp (↑org) ent kn gp ln m1 m2 m3 m4 m5 m6 m7 m8 pl st sp po m9, aI cI mp 160 pb, aI cI m6 160 (upZ (cpy1 op gr (pb (rd + 1)).toNat k) (gr + k) (cpy1 op gr (pb (rd + 1)).toNat k (gr + k - (pb (rd + 1)).toNat)))]) rfl (fun H locs hp => ?_)
                      have hp := z_alike hp 2 rfl (cpy1 op gr (pb (rd + 1)).toNat (k + 1)) (fun j _ => rfl) (ws' := [oR mq 0 (↑n) mp (↑org) ent kn gp ln m1 m2 m3 m4 m5 m6 m7 m8 pl st sp po m9, aI cI mp 160 pb, aI cI m6 160 (cpy1 op gr (pb (rd + 1)).toNat (k + 1))]) rfl
                      refine z_iinc (k := 1) (lv' := [(1, .int (iZ (↑(gr + (k + 1))))), (6, .int (iZ (↑k))), (5, .int (iZ (↑((pb rd).toNat - 126)))), (4, .int (iZ (pb rd))), (3, .int (iZ (wrZ pb n rd gr))), (0, .ref mq), (2, .int (iZ (↑rd)))]) hx hb (↑(gr + (k + 1))) (by omega) dX4_unpack_122 hl rfl (by decide) rfl (fun ls hl => ?_)
                      refine z_iinc (k := 1) (lv' := [(6, .int (iZ (↑(k + 1)))), (1, .int (iZ (↑(gr + (k + 1))))), (5, .int (iZ (↑((pb rd).toNat - 126)))), (4, .int (iZ (pb rd))), (3, .int (iZ (wrZ pb n rd gr))), (0, .ref mq), (2, .int (iZ (↑rd)))]) hx hb (↑(k + 1)) (by omega) dX4_unpack_125 hl rfl (by decide) rfl (fun ls hl => ?_)
                      refine lv_goto (tgt := 73) hx hb dX4_unpack_128 (by decide) ?_
                      exact ih_lp21 (k + 1) _ _ _ (by omega) (by omega) hp (lv_sub hl [0, 1, 2, 3, 4, 5, 6] rfl)
              exact lp21 _ 0 _ _ _ (by omega) (Nat.lt_succ_self _) hp (lv_sub hl [0, 6, 1, 2, 3, 4, 5] rfl)
          · skip
            rw [unp_wrong h_b h_n hgr (by omega) (by omega) (by omega)] at hR
            subst hR
            refine lv_aload_n hx hb dX4_unpack_37 rfl (lv_at hl 1 rfl) ?_
            refine lv_iload_n hx hb dX4_unpack_38 rfl (lv_at hl 0 rfl) ?_
            refine zc_i (wr := [aI cI mp 160 pb, aI cI m6 160 op]) (W0 := [oR mq 0 (↑n) mp (↑org) ent kn gp ln m1 m2 m3 m4 m5 m6 m7 m8 pl st sp po m9]) (wl2 := fun (u : Unit) => [oR mq (wrZ pb n rd gr) (↑n) mp (↑org) ent kn gp ln m1 m2 m3 m4 m5 m6 m7 m8 pl st sp po m9, aI cI mp 160 pb, aI cI m6 160 op]) (As := [.int (iZ (wrZ pb n rd gr))]) (rest := []) hx hb hml hown hts hp (c_X4_fail l G cI H.size mq mp m1 m2 m3 m4 m5 m6 m7 m8 m9 n org 0 ent kn gp ln pl st sp po (wrZ pb n rd gr)) zPre_blind (z_pre hp [0] rfl (by decide) [.ref mq, .int (iZ (wrZ pb n rd gr))]) (cwV 1 hts gX4_unpack_X4_fail rfl rfl rfl (by decide +kernel) ⟨Nat.le_of_ble_eq_true rfl, Nat.le_of_ble_eq_true rfl⟩) [0] [1, 2] [2, 0, 1] rfl rfl ⟨by decide, by decide, by decide⟩ (fun _ => rfl) 0 4 rfl rfl rfl rfl hl.1 rfl (Nat.le_of_ble_eq_true rfl) dX4_unpack_39 ⟨Nat.le_of_ble_eq_true rfl, Nat.le_of_ble_eq_true rfl⟩ (fun rv u H locs hq25 hp => ?_)
            obtain rfl : rv = iZ (0) := hq25
            exact hret _ _ _ _ _ _ _ (wrZ pb n rd gr, kn, n, pb, op) (⟨rfl, fun q => by dsimp only at q; omega, fun _ => ⟨rfl, rfl, rfl⟩⟩) hp dX4_unpack_42 (rfl) (Nat.le_of_ble_eq_true rfl) (Nat.le_of_ble_eq_true rfl)
  exact lp11 _ (n + 1) 0 0 opn _ _ _ (by omega) (by omega) (by omega) (hR0.symm) (Nat.lt_succ_self _) hp (lv_sub hl [2, 0, 1] rfl)
