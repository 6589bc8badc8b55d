abbrev rmX0_writeStub : Room := { frames := 0, cells := 0, slots := 0, locals := 0 }
set_option maxRecDepth 100000 in
set_option maxHeartbeats 4000000 in
theorem c_X0_writeStub (l : Launch) (G : va_G) (cI : ClassId) (t : Nat) (sz : Nat) (q0 a0 b0 c0 : Nat) (mem : Nat → Int) (pl st sp po : Int) (stub : Nat) (start org ent : Int) (h_0 : stub + 60 ≤ 256) : Met l yX0_writeStub wsX0_writeStub rmX0_writeStub (zPreC t G cI [oM q0 a0 b0 c0 pl st sp po, aI cI a0 256 mem] sz [.ref q0, .int (iZ (↑stub)), .int (iZ (start)), .int (iZ (org)), .int (iZ (ent))]) (va_Qv (fun (u : Unit) => True) (fun (u : Unit) t => zB G cI (va_A [oM q0 a0 b0 c0 pl st sp po, aI cI a0 256 mem] sz) [oM q0 a0 b0 c0 pl st sp po, aI cI a0 256 (stubRow mem stub start org ent)] t) (va_A [oM q0 a0 b0 c0 pl st sp po, aI cI a0 256 mem] sz)) 0 0 (va_A [oM q0 a0 b0 c0 pl st sp po, aI cI a0 256 mem] sz) := by
  refine zm_cv (W1 := fun (u : Unit) => [oM q0 a0 b0 c0 pl st sp po, aI cI a0 256 (stubRow mem stub start org ent)]) (cc := cX0_writeStub) (maxL := 7) (by decide) rfl (Nat.le_of_ble_eq_true rfl) ?_
  intro p e s m args below meth c A Q ls hsz hx hb hml hown hts hC hret hp hl
  have hl : lv_has ls 7 [(0, .ref q0), (1, .int (iZ (↑stub))), (2, .int (iZ (start))), (3, .int (iZ (org))), (4, .int (iZ (ent)))] := hl
  have hi0 : ∀ w ∈ wsX00, w ∈ wsX0_writeStub := fun w h => List.mem_cons_of_mem _ (List.mem_append_right _ (h))
  have f9 := hts (.fieldLink RX0 9 "SelfOpener$Machine" "memory" "[I") (List.mem_of_getElem? (i := 2) rfl)
  have f40 := hts (.fieldLink RX0 40 "SelfOpener$Machine" "STUB" "[I") (List.mem_of_getElem? (i := 1) rfl)
  suffices hw : ∀ (H : Heap) (locs : List Loc), Hp G cI A s H locs [oM q0 a0 b0 c0 pl st sp po, aI cI a0 256 mem] → W p l e rmX0_writeStub s m args below meth c H locs 0 0 Q (F0 m 0 ls []) from hw _ _ hp
  clear hp; intro H locs hp
  refine z_iconst hx hb dX0_writeStub_0 ?_
  refine lv_istore (lv' := [(5, .int (iZ (0))), (0, .ref q0), (1, .int (iZ (↑stub))), (2, .int (iZ (start))), (3, .int (iZ (org))), (4, .int (iZ (ent)))]) hx hb dX0_writeStub_1 hl (by decide) rfl (fun ls hl => ?_)
  have lp1 : ∀ (N_lp1 : Nat) (i : Nat) (f : Nat → Int) (H : Heap) (locs : List Loc) (ls : Array Slot), (i ≤ 60) → (i % 2 = 0) → (∀ j, f j = if stub ≤ j ∧ j < stub + i then stubS stub (j - stub) else mem j) → (60 - i) < N_lp1 → Hp G cI A s H locs [oM q0 a0 b0 c0 pl st sp po, aI cI a0 256 f] → lv_has ls 7 [(5, .int (iZ (↑i))), (0, .ref q0), (1, .int (iZ (↑stub))), (2, .int (iZ (start))), (3, .int (iZ (org))), (4, .int (iZ (ent)))] → W p l e rmX0_writeStub s m args below meth c H locs 0 0 Q (F0 m 3 ls []) := by
    intro N_lp1
    induction N_lp1 with
    | zero => intros; exfalso; omega
    | succ N_lp1 ih_lp1 =>
      intro i f H locs ls hi he hf hN hp hl
      refine lv_iload hx hb dX0_writeStub_3 (lv_at hl 0 rfl) ?_
      refine z_bipush hx hb dX0_writeStub_5 (by decide +kernel) ?_
      refine z_icmp_ge (tgt := 76) hx hb dX0_writeStub_7 (by decide) (by omega) (fun h2 => ?_) (fun h2 => ?_)
      · skip
        obtain rfl : i = 60 := by omega
        refine lv_aload_n hx hb dX0_writeStub_76 rfl (lv_at hl 1 rfl) ?_
        refine z_get hx hb hts hi0 hown hp 0 rfl rfl 0 (by decide) f9 rfl dX0_writeStub_77 ?_
        refine lv_iload_n hx hb dX0_writeStub_80 rfl (lv_at hl 2 rfl) ?_
        refine z_iconst hx hb dX0_writeStub_81 ?_
        refine z_iadd hx hb ((↑stub) + 1) (rfl) dX0_writeStub_82 ?_
        refine lv_iload_n hx hb dX0_writeStub_83 rfl (lv_at hl 3 rfl) ?_
        refine z_iast hx hb hp 1 rfl (stub + 1) (by omega) dX0_writeStub_84 (ws' := [oM q0 a0 b0 c0 pl st sp po, aI cI a0 256 (upZ f (stub + 1) start)]) rfl (fun H locs hp => ?_)
        refine lv_aload_n hx hb dX0_writeStub_85 rfl (lv_at hl 1 rfl) ?_
        refine z_get hx hb hts hi0 hown hp 0 rfl rfl 0 (by decide) f9 rfl dX0_writeStub_86 ?_
        refine lv_iload_n hx hb dX0_writeStub_89 rfl (lv_at hl 2 rfl) ?_
        refine z_iconst hx hb dX0_writeStub_90 ?_
        refine z_iadd hx hb ((↑stub) + 3) (rfl) dX0_writeStub_91 ?_
        refine lv_iload_n hx hb dX0_writeStub_92 rfl (lv_at hl 4 rfl) ?_
        refine z_iast hx hb hp 1 rfl (stub + 3) (by omega) dX0_writeStub_93 (ws' := [oM q0 a0 b0 c0 pl st sp po, aI cI a0 256 (upZ (upZ f (stub + 1) start) (stub + 3) org)]) rfl (fun H locs hp => ?_)
        refine lv_aload_n hx hb dX0_writeStub_94 rfl (lv_at hl 1 rfl) ?_
        refine z_get hx hb hts hi0 hown hp 0 rfl rfl 0 (by decide) f9 rfl dX0_writeStub_95 ?_
        refine lv_iload_n hx hb dX0_writeStub_98 rfl (lv_at hl 2 rfl) ?_
        refine z_bipush hx hb dX0_writeStub_99 (by decide +kernel) ?_
        refine z_iadd hx hb ((↑stub) + 60) (rfl) dX0_writeStub_101 ?_
        refine z_iconst hx hb dX0_writeStub_102 ?_
        refine z_isub hx hb (((↑stub) + 60) - 1) (rfl) dX0_writeStub_103 ?_
        refine lv_iload hx hb dX0_writeStub_104 (lv_at hl 5 rfl) ?_
        refine z_iast hx hb hp 1 rfl (stub + 59) (by omega) dX0_writeStub_106 (ws' := [oM q0 a0 b0 c0 pl st sp po, aI cI a0 256 (upZ (upZ (upZ f (stub + 1) start) (stub + 3) org) (stub + 59) ent)]) rfl (fun H locs hp => ?_)
        have hp := z_alike hp 1 rfl (stubRow mem stub start org ent) (fun j _ => stub_end hf j) (ws' := [oM q0 a0 b0 c0 pl st sp po, aI cI a0 256 (stubRow mem stub start org ent)]) rfl
        exact hret _ _ _ _ _ _ () (trivial) hp dX0_writeStub_107 (Nat.le_of_ble_eq_true rfl) (Nat.le_of_ble_eq_true rfl)
      · skip
        have hs := stubZ_b i
        have hs2 := stubZ_b (i + 1)
        have jn3 : ∀ (v : Int) (H : Heap) (locs : List Loc) (ls : Array Slot), (v = if 128 ≤ stubZ i then (stub : Int) else 0) → Hp G cI A s H locs [oM q0 a0 b0 c0 pl st sp po, aI cI a0 256 f] → lv_has ls 7 [(5, .int (iZ (↑i))), (0, .ref q0), (1, .int (iZ (↑stub))), (2, .int (iZ (start))), (3, .int (iZ (org))), (4, .int (iZ (ent)))] → W p l e rmX0_writeStub s m args below meth c H locs 0 0 Q (F0 m 27 ls [.int (iZ (v))]) := by
          intro v H locs ls hv hp hl
          refine lv_istore (lv' := [(6, .int (iZ (v))), (5, .int (iZ (↑i))), (0, .ref q0), (1, .int (iZ (↑stub))), (2, .int (iZ (start))), (3, .int (iZ (org))), (4, .int (iZ (ent)))]) hx hb dX0_writeStub_27 hl (by decide) rfl (fun ls hl => ?_)
          refine lv_aload_n hx hb dX0_writeStub_29 rfl (lv_at hl 2 rfl) ?_
          refine z_get hx hb hts hi0 hown hp 0 rfl rfl 0 (by decide) f9 rfl dX0_writeStub_30 ?_
          refine lv_iload_n hx hb dX0_writeStub_33 rfl (lv_at hl 3 rfl) ?_
          refine lv_iload hx hb dX0_writeStub_34 (lv_at hl 1 rfl) ?_
          refine z_iadd hx hb ((↑stub) + (↑i)) (rfl) dX0_writeStub_36 ?_
          refine va_gets hx hb hC.2.2.1 hp.2.2.1 hown f40 (fun _ h => h) dX0_writeStub_37 ?_
          refine lv_iload hx hb dX0_writeStub_40 (lv_at hl 1 rfl) ?_
          refine z_tab hx hb hC hp (i) (by omega) dX0_writeStub_42 ?_
          refine z_iast hx hb hp 1 rfl (stub + i) (by omega) dX0_writeStub_43 (ws' := [oM q0 a0 b0 c0 pl st sp po, aI cI a0 256 (upZ f (stub + i) (stubZ i))]) rfl (fun H locs hp => ?_)
          refine lv_aload_n hx hb dX0_writeStub_44 rfl (lv_at hl 2 rfl) ?_
          refine z_get hx hb hts hi0 hown hp 0 rfl rfl 0 (by decide) f9 rfl dX0_writeStub_45 ?_
          refine lv_iload_n hx hb dX0_writeStub_48 rfl (lv_at hl 3 rfl) ?_
          refine lv_iload hx hb dX0_writeStub_49 (lv_at hl 1 rfl) ?_
          refine z_iadd hx hb ((↑stub) + (↑i)) (rfl) dX0_writeStub_51 ?_
          refine z_iconst hx hb dX0_writeStub_52 ?_
          refine z_iadd hx hb (((↑stub) + (↑i)) + 1) (rfl) dX0_writeStub_53 ?_
          refine va_gets hx hb hC.2.2.1 hp.2.2.1 hown f40 (fun _ h => h) dX0_writeStub_54 ?_
          refine lv_iload hx hb dX0_writeStub_57 (lv_at hl 1 rfl) ?_
          refine z_iconst hx hb dX0_writeStub_59 ?_
          refine z_iadd hx hb ((↑i) + 1) (rfl) dX0_writeStub_60 ?_
          refine z_tab hx hb hC hp (i + 1) (by omega) dX0_writeStub_61 ?_
          refine lv_iload hx hb dX0_writeStub_62 (lv_at hl 0 rfl) ?_
          refine z_iadd hx hb (stubZ (i + 1) + v) (rfl) dX0_writeStub_64 ?_
          refine z_sipush hx hb dX0_writeStub_65 (by decide +kernel) ?_
          refine z_iand hx hb ((stubZ (i + 1) + v) % 256) (iZ_and255 _) dX0_writeStub_68 ?_
          refine z_iast hx hb hp 1 rfl (stub + i + 1) (by omega) dX0_writeStub_69 (ws' := [oM q0 a0 b0 c0 pl st sp po, aI cI a0 256 (upZ (upZ f (stub + i) (stubZ i)) (stub + i + 1) ((stubZ (i + 1) + v) % 256))]) rfl (fun H locs hp => ?_)
          refine z_iinc (k := 1) (lv' := [(5, .int (iZ (↑(i + 2)))), (6, .int (iZ (v))), (0, .ref q0), (1, .int (iZ (↑stub))), (2, .int (iZ (start))), (3, .int (iZ (org))), (4, .int (iZ (ent)))]) hx hb (↑(i + 2)) (by omega) dX0_writeStub_70 hl rfl (by decide) rfl (fun ls hl => ?_)
          refine lv_goto (tgt := 3) hx hb dX0_writeStub_73 (by decide) ?_
          exact ih_lp1 (i + 2) (upZ (upZ f (stub + i) (stubZ i)) (stub + i + 1) ((stubZ (i + 1) + v) % 256)) _ _ _ (by omega) (by omega) (stub_step he hv hf) (by omega) hp (lv_sub hl [0, 2, 3, 4, 5, 6] rfl)
        refine va_gets hx hb hC.2.2.1 hp.2.2.1 hown f40 (fun _ h => h) dX0_writeStub_10 ?_
        refine lv_iload hx hb dX0_writeStub_13 (lv_at hl 0 rfl) ?_
        refine z_tab hx hb hC hp (i) (by omega) dX0_writeStub_15 ?_
        refine z_sipush hx hb dX0_writeStub_16 (by decide +kernel) ?_
        refine z_icmp_lt (tgt := 26) hx hb dX0_writeStub_19 (by decide) (by omega) (fun h5 => ?_) (fun h5 => ?_)
        · skip
          refine z_iconst hx hb dX0_writeStub_26 ?_
          exact jn3 0 _ _ _ (by (repeat' split) <;> omega) hp (lv_sub hl [0, 1, 2, 3, 4, 5] rfl)
        · skip
          refine lv_iload_n hx hb dX0_writeStub_22 rfl (lv_at hl 2 rfl) ?_
          refine lv_goto (tgt := 27) hx hb dX0_writeStub_23 (by decide) ?_
          exact jn3 (↑stub) _ _ _ (by (repeat' split) <;> omega) hp (lv_sub hl [0, 1, 2, 3, 4, 5] rfl)
  exact lp1 _ 0 mem _ _ _ (by omega) (by omega) (fun j => by rw [if_neg (by omega)]) (Nat.lt_succ_self _) hp (lv_sub hl [0, 1, 2, 3, 4, 5] rfl)
