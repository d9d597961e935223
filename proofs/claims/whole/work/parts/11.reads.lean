set_option maxHeartbeats 4000000 in
set_option maxRecDepth 100000 in
theorem kJ6_bitCount (l : Launch) (dC : Nat → ClassId) (dI : Nat → Nat → Nat) (x0 : Int32) : Met l yJ6_bitCount wsJ6_bitCount ({ frames := 0, cells := 0, slots := 0, locals := 0 }) (va_Pc [.int x0] (fun U => True)) (vp_Si (fun r => r = fJ6_bitCount x0)) 0 0 (fun _ => False) := by
  refine Met.ofW (cc := cJ6_bitCount) (maxL := 1) (ret := (some .int)) (by decide) rfl ?_
  intro p e s m args below meth c s₁ B hml hv
  obtain ⟨rfl, -⟩ := hv
  have hx := B.exec
  have hb := B.bytes
  have hr := B.returns
  have hts := atoms_spec (ws := wsJ6_bitCount) B.pre
  have hown : s.vm.findClass RJ6 = some m.cls := findClass_of_methodNamed B.named
  have hlocks := B.notSynchronized
  have hS : va_S (fun _ => False) s.heap s.heap [] := va_S.rf
  have hl := lv_entry ([.int x0]) (n := 1) (Nat.le_of_ble_eq_true rfl)
  rw [lg_entry_eq]
  generalize (lg_sl ([.int x0]) ++ List.replicate (1 - (lg_sl ([.int x0])).length) Slot.unset).toArray = ls at hl ⊢
  have hl : lv_has ls 1 [(0, .int x0)] := hl
  refine lv_iload_n hx hb dJ6_bitCount_0 rfl (lv_at hl 0 rfl) ?_
  refine lv_iload_n hx hb dJ6_bitCount_1 rfl (lv_at hl 0 rfl) ?_
  refine lv_iconst (v := 1) hx hb dJ6_bitCount_2 (by decide) ?_
  refine lv_iushr (v := (x0.toUInt32 >>> ((1 : Int32).toUInt32 &&& Int32.toUInt32 31)).toInt32) hx hb dJ6_bitCount_3 rfl ?_
  refine lv_ldcw (v := 1431655765) hx hb hown (hts _ (List.mem_cons_of_mem _ wd_0)) dJ6_bitCount_4 ?_
  refine lv_iand hx hb dJ6_bitCount_7 ?_
  refine lv_isub hx hb dJ6_bitCount_8 ?_
  refine lv_istore_n (lv' := [(0, .int (x0 - (((x0.toUInt32 >>> ((1 : Int32).toUInt32 &&& Int32.toUInt32 31)).toInt32) &&& 1431655765)))]) hx hb dJ6_bitCount_9 rfl hl (by decide) rfl (fun ls hl => ?_)
  refine lv_iload_n hx hb dJ6_bitCount_10 rfl (lv_at hl 0 rfl) ?_
  refine lv_ldcw (v := 858993459) hx hb hown (hts _ (List.mem_cons_of_mem _ wd_1)) dJ6_bitCount_11 ?_
  refine lv_iand hx hb dJ6_bitCount_14 ?_
  refine lv_iload_n hx hb dJ6_bitCount_15 rfl (lv_at hl 0 rfl) ?_
  refine lv_iconst (v := 2) hx hb dJ6_bitCount_16 (by decide) ?_
  refine lv_iushr (v := ((x0 - (((x0.toUInt32 >>> ((1 : Int32).toUInt32 &&& Int32.toUInt32 31)).toInt32) &&& 1431655765)).toUInt32 >>> ((2 : Int32).toUInt32 &&& Int32.toUInt32 31)).toInt32) hx hb dJ6_bitCount_17 rfl ?_
  refine lv_ldcw (v := 858993459) hx hb hown (hts _ (List.mem_cons_of_mem _ wd_1)) dJ6_bitCount_18 ?_
  refine lv_iand hx hb dJ6_bitCount_21 ?_
  refine lv_iadd hx hb dJ6_bitCount_22 ?_
  refine lv_istore_n (lv' := [(0, .int (((x0 - (((x0.toUInt32 >>> ((1 : Int32).toUInt32 &&& Int32.toUInt32 31)).toInt32) &&& 1431655765)) &&& 858993459) + ((((x0 - (((x0.toUInt32 >>> ((1 : Int32).toUInt32 &&& Int32.toUInt32 31)).toInt32) &&& 1431655765)).toUInt32 >>> ((2 : Int32).toUInt32 &&& Int32.toUInt32 31)).toInt32) &&& 858993459)))]) hx hb dJ6_bitCount_23 rfl hl (by decide) rfl (fun ls hl => ?_)
  refine lv_iload_n hx hb dJ6_bitCount_24 rfl (lv_at hl 0 rfl) ?_
  refine lv_iload_n hx hb dJ6_bitCount_25 rfl (lv_at hl 0 rfl) ?_
  refine lv_iconst (v := 4) hx hb dJ6_bitCount_26 (by decide) ?_
  refine lv_iushr (v := ((((x0 - (((x0.toUInt32 >>> ((1 : Int32).toUInt32 &&& Int32.toUInt32 31)).toInt32) &&& 1431655765)) &&& 858993459) + ((((x0 - (((x0.toUInt32 >>> ((1 : Int32).toUInt32 &&& Int32.toUInt32 31)).toInt32) &&& 1431655765)).toUInt32 >>> ((2 : Int32).toUInt32 &&& Int32.toUInt32 31)).toInt32) &&& 858993459)).toUInt32 >>> ((4 : Int32).toUInt32 &&& Int32.toUInt32 31)).toInt32) hx hb dJ6_bitCount_27 rfl ?_
  refine lv_iadd hx hb dJ6_bitCount_28 ?_
  refine lv_ldcw (v := 252645135) hx hb hown (hts _ (List.mem_cons_of_mem _ wd_2)) dJ6_bitCount_29 ?_
  refine lv_iand hx hb dJ6_bitCount_32 ?_
  refine lv_istore_n (lv' := [(0, .int (((((x0 - (((x0.toUInt32 >>> ((1 : Int32).toUInt32 &&& Int32.toUInt32 31)).toInt32) &&& 1431655765)) &&& 858993459) + ((((x0 - (((x0.toUInt32 >>> ((1 : Int32).toUInt32 &&& Int32.toUInt32 31)).toInt32) &&& 1431655765)).toUInt32 >>> ((2 : Int32).toUInt32 &&& Int32.toUInt32 31)).toInt32) &&& 858993459)) + (((((x0 - (((x0.toUInt32 >>> ((1 : Int32).toUInt32 &&& Int32.toUInt32 31)).toInt32) &&& 1431655765)) &&& 858993459) + ((((x0 - (((x0.toUInt32 >>> ((1 : Int32).toUInt32 &&& Int32.toUInt32 31)).toInt32) &&& 1431655765)).toUInt32 >>> ((2 : Int32).toUInt32 &&& Int32.toUInt32 31)).toInt32) &&& 858993459)).toUInt32 >>> ((4 : Int32).toUInt32 &&& Int32.toUInt32 31)).toInt32)) &&& 252645135))]) hx hb dJ6_bitCount_33 rfl hl (by decide) rfl (fun ls hl => ?_)
  refine lv_iload_n hx hb dJ6_bitCount_34 rfl (lv_at hl 0 rfl) ?_
  refine lv_iload_n hx hb dJ6_bitCount_35 rfl (lv_at hl 0 rfl) ?_
  refine lv_bipush (v := 8) hx hb dJ6_bitCount_36 (by decide) ?_
  refine lv_iushr (v := ((((((x0 - (((x0.toUInt32 >>> ((1 : Int32).toUInt32 &&& Int32.toUInt32 31)).toInt32) &&& 1431655765)) &&& 858993459) + ((((x0 - (((x0.toUInt32 >>> ((1 : Int32).toUInt32 &&& Int32.toUInt32 31)).toInt32) &&& 1431655765)).toUInt32 >>> ((2 : Int32).toUInt32 &&& Int32.toUInt32 31)).toInt32) &&& 858993459)) + (((((x0 - (((x0.toUInt32 >>> ((1 : Int32).toUInt32 &&& Int32.toUInt32 31)).toInt32) &&& 1431655765)) &&& 858993459) + ((((x0 - (((x0.toUInt32 >>> ((1 : Int32).toUInt32 &&& Int32.toUInt32 31)).toInt32) &&& 1431655765)).toUInt32 >>> ((2 : Int32).toUInt32 &&& Int32.toUInt32 31)).toInt32) &&& 858993459)).toUInt32 >>> ((4 : Int32).toUInt32 &&& Int32.toUInt32 31)).toInt32)) &&& 252645135).toUInt32 >>> ((8 : Int32).toUInt32 &&& Int32.toUInt32 31)).toInt32) hx hb dJ6_bitCount_38 rfl ?_
  refine lv_iadd hx hb dJ6_bitCount_39 ?_
  refine lv_istore_n (lv' := [(0, .int ((((((x0 - (((x0.toUInt32 >>> ((1 : Int32).toUInt32 &&& Int32.toUInt32 31)).toInt32) &&& 1431655765)) &&& 858993459) + ((((x0 - (((x0.toUInt32 >>> ((1 : Int32).toUInt32 &&& Int32.toUInt32 31)).toInt32) &&& 1431655765)).toUInt32 >>> ((2 : Int32).toUInt32 &&& Int32.toUInt32 31)).toInt32) &&& 858993459)) + (((((x0 - (((x0.toUInt32 >>> ((1 : Int32).toUInt32 &&& Int32.toUInt32 31)).toInt32) &&& 1431655765)) &&& 858993459) + ((((x0 - (((x0.toUInt32 >>> ((1 : Int32).toUInt32 &&& Int32.toUInt32 31)).toInt32) &&& 1431655765)).toUInt32 >>> ((2 : Int32).toUInt32 &&& Int32.toUInt32 31)).toInt32) &&& 858993459)).toUInt32 >>> ((4 : Int32).toUInt32 &&& Int32.toUInt32 31)).toInt32)) &&& 252645135) + (((((((x0 - (((x0.toUInt32 >>> ((1 : Int32).toUInt32 &&& Int32.toUInt32 31)).toInt32) &&& 1431655765)) &&& 858993459) + ((((x0 - (((x0.toUInt32 >>> ((1 : Int32).toUInt32 &&& Int32.toUInt32 31)).toInt32) &&& 1431655765)).toUInt32 >>> ((2 : Int32).toUInt32 &&& Int32.toUInt32 31)).toInt32) &&& 858993459)) + (((((x0 - (((x0.toUInt32 >>> ((1 : Int32).toUInt32 &&& Int32.toUInt32 31)).toInt32) &&& 1431655765)) &&& 858993459) + ((((x0 - (((x0.toUInt32 >>> ((1 : Int32).toUInt32 &&& Int32.toUInt32 31)).toInt32) &&& 1431655765)).toUInt32 >>> ((2 : Int32).toUInt32 &&& Int32.toUInt32 31)).toInt32) &&& 858993459)).toUInt32 >>> ((4 : Int32).toUInt32 &&& Int32.toUInt32 31)).toInt32)) &&& 252645135).toUInt32 >>> ((8 : Int32).toUInt32 &&& Int32.toUInt32 31)).toInt32)))]) hx hb dJ6_bitCount_40 rfl hl (by decide) rfl (fun ls hl => ?_)
  refine lv_iload_n hx hb dJ6_bitCount_41 rfl (lv_at hl 0 rfl) ?_
  refine lv_iload_n hx hb dJ6_bitCount_42 rfl (lv_at hl 0 rfl) ?_
  refine lv_bipush (v := 16) hx hb dJ6_bitCount_43 (by decide) ?_
  refine lv_iushr (v := (((((((x0 - (((x0.toUInt32 >>> ((1 : Int32).toUInt32 &&& Int32.toUInt32 31)).toInt32) &&& 1431655765)) &&& 858993459) + ((((x0 - (((x0.toUInt32 >>> ((1 : Int32).toUInt32 &&& Int32.toUInt32 31)).toInt32) &&& 1431655765)).toUInt32 >>> ((2 : Int32).toUInt32 &&& Int32.toUInt32 31)).toInt32) &&& 858993459)) + (((((x0 - (((x0.toUInt32 >>> ((1 : Int32).toUInt32 &&& Int32.toUInt32 31)).toInt32) &&& 1431655765)) &&& 858993459) + ((((x0 - (((x0.toUInt32 >>> ((1 : Int32).toUInt32 &&& Int32.toUInt32 31)).toInt32) &&& 1431655765)).toUInt32 >>> ((2 : Int32).toUInt32 &&& Int32.toUInt32 31)).toInt32) &&& 858993459)).toUInt32 >>> ((4 : Int32).toUInt32 &&& Int32.toUInt32 31)).toInt32)) &&& 252645135) + (((((((x0 - (((x0.toUInt32 >>> ((1 : Int32).toUInt32 &&& Int32.toUInt32 31)).toInt32) &&& 1431655765)) &&& 858993459) + ((((x0 - (((x0.toUInt32 >>> ((1 : Int32).toUInt32 &&& Int32.toUInt32 31)).toInt32) &&& 1431655765)).toUInt32 >>> ((2 : Int32).toUInt32 &&& Int32.toUInt32 31)).toInt32) &&& 858993459)) + (((((x0 - (((x0.toUInt32 >>> ((1 : Int32).toUInt32 &&& Int32.toUInt32 31)).toInt32) &&& 1431655765)) &&& 858993459) + ((((x0 - (((x0.toUInt32 >>> ((1 : Int32).toUInt32 &&& Int32.toUInt32 31)).toInt32) &&& 1431655765)).toUInt32 >>> ((2 : Int32).toUInt32 &&& Int32.toUInt32 31)).toInt32) &&& 858993459)).toUInt32 >>> ((4 : Int32).toUInt32 &&& Int32.toUInt32 31)).toInt32)) &&& 252645135).toUInt32 >>> ((8 : Int32).toUInt32 &&& Int32.toUInt32 31)).toInt32)).toUInt32 >>> ((16 : Int32).toUInt32 &&& Int32.toUInt32 31)).toInt32) hx hb dJ6_bitCount_45 rfl ?_
  refine lv_iadd hx hb dJ6_bitCount_46 ?_
  refine lv_istore_n (lv' := [(0, .int (((((((x0 - (((x0.toUInt32 >>> ((1 : Int32).toUInt32 &&& Int32.toUInt32 31)).toInt32) &&& 1431655765)) &&& 858993459) + ((((x0 - (((x0.toUInt32 >>> ((1 : Int32).toUInt32 &&& Int32.toUInt32 31)).toInt32) &&& 1431655765)).toUInt32 >>> ((2 : Int32).toUInt32 &&& Int32.toUInt32 31)).toInt32) &&& 858993459)) + (((((x0 - (((x0.toUInt32 >>> ((1 : Int32).toUInt32 &&& Int32.toUInt32 31)).toInt32) &&& 1431655765)) &&& 858993459) + ((((x0 - (((x0.toUInt32 >>> ((1 : Int32).toUInt32 &&& Int32.toUInt32 31)).toInt32) &&& 1431655765)).toUInt32 >>> ((2 : Int32).toUInt32 &&& Int32.toUInt32 31)).toInt32) &&& 858993459)).toUInt32 >>> ((4 : Int32).toUInt32 &&& Int32.toUInt32 31)).toInt32)) &&& 252645135) + (((((((x0 - (((x0.toUInt32 >>> ((1 : Int32).toUInt32 &&& Int32.toUInt32 31)).toInt32) &&& 1431655765)) &&& 858993459) + ((((x0 - (((x0.toUInt32 >>> ((1 : Int32).toUInt32 &&& Int32.toUInt32 31)).toInt32) &&& 1431655765)).toUInt32 >>> ((2 : Int32).toUInt32 &&& Int32.toUInt32 31)).toInt32) &&& 858993459)) + (((((x0 - (((x0.toUInt32 >>> ((1 : Int32).toUInt32 &&& Int32.toUInt32 31)).toInt32) &&& 1431655765)) &&& 858993459) + ((((x0 - (((x0.toUInt32 >>> ((1 : Int32).toUInt32 &&& Int32.toUInt32 31)).toInt32) &&& 1431655765)).toUInt32 >>> ((2 : Int32).toUInt32 &&& Int32.toUInt32 31)).toInt32) &&& 858993459)).toUInt32 >>> ((4 : Int32).toUInt32 &&& Int32.toUInt32 31)).toInt32)) &&& 252645135).toUInt32 >>> ((8 : Int32).toUInt32 &&& Int32.toUInt32 31)).toInt32)) + ((((((((x0 - (((x0.toUInt32 >>> ((1 : Int32).toUInt32 &&& Int32.toUInt32 31)).toInt32) &&& 1431655765)) &&& 858993459) + ((((x0 - (((x0.toUInt32 >>> ((1 : Int32).toUInt32 &&& Int32.toUInt32 31)).toInt32) &&& 1431655765)).toUInt32 >>> ((2 : Int32).toUInt32 &&& Int32.toUInt32 31)).toInt32) &&& 858993459)) + (((((x0 - (((x0.toUInt32 >>> ((1 : Int32).toUInt32 &&& Int32.toUInt32 31)).toInt32) &&& 1431655765)) &&& 858993459) + ((((x0 - (((x0.toUInt32 >>> ((1 : Int32).toUInt32 &&& Int32.toUInt32 31)).toInt32) &&& 1431655765)).toUInt32 >>> ((2 : Int32).toUInt32 &&& Int32.toUInt32 31)).toInt32) &&& 858993459)).toUInt32 >>> ((4 : Int32).toUInt32 &&& Int32.toUInt32 31)).toInt32)) &&& 252645135) + (((((((x0 - (((x0.toUInt32 >>> ((1 : Int32).toUInt32 &&& Int32.toUInt32 31)).toInt32) &&& 1431655765)) &&& 858993459) + ((((x0 - (((x0.toUInt32 >>> ((1 : Int32).toUInt32 &&& Int32.toUInt32 31)).toInt32) &&& 1431655765)).toUInt32 >>> ((2 : Int32).toUInt32 &&& Int32.toUInt32 31)).toInt32) &&& 858993459)) + (((((x0 - (((x0.toUInt32 >>> ((1 : Int32).toUInt32 &&& Int32.toUInt32 31)).toInt32) &&& 1431655765)) &&& 858993459) + ((((x0 - (((x0.toUInt32 >>> ((1 : Int32).toUInt32 &&& Int32.toUInt32 31)).toInt32) &&& 1431655765)).toUInt32 >>> ((2 : Int32).toUInt32 &&& Int32.toUInt32 31)).toInt32) &&& 858993459)).toUInt32 >>> ((4 : Int32).toUInt32 &&& Int32.toUInt32 31)).toInt32)) &&& 252645135).toUInt32 >>> ((8 : Int32).toUInt32 &&& Int32.toUInt32 31)).toInt32)).toUInt32 >>> ((16 : Int32).toUInt32 &&& Int32.toUInt32 31)).toInt32)))]) hx hb dJ6_bitCount_47 rfl hl (by decide) rfl (fun ls hl => ?_)
  refine lv_iload_n hx hb dJ6_bitCount_48 rfl (lv_at hl 0 rfl) ?_
  refine lv_bipush (v := 63) hx hb dJ6_bitCount_49 (by decide) ?_
  refine lv_iand hx hb dJ6_bitCount_51 ?_
  exact W.iret (v := (((((((x0 - (((x0.toUInt32 >>> ((1 : Int32).toUInt32 &&& Int32.toUInt32 31)).toInt32) &&& 1431655765)) &&& 858993459) + ((((x0 - (((x0.toUInt32 >>> ((1 : Int32).toUInt32 &&& Int32.toUInt32 31)).toInt32) &&& 1431655765)).toUInt32 >>> ((2 : Int32).toUInt32 &&& Int32.toUInt32 31)).toInt32) &&& 858993459)) + (((((x0 - (((x0.toUInt32 >>> ((1 : Int32).toUInt32 &&& Int32.toUInt32 31)).toInt32) &&& 1431655765)) &&& 858993459) + ((((x0 - (((x0.toUInt32 >>> ((1 : Int32).toUInt32 &&& Int32.toUInt32 31)).toInt32) &&& 1431655765)).toUInt32 >>> ((2 : Int32).toUInt32 &&& Int32.toUInt32 31)).toInt32) &&& 858993459)).toUInt32 >>> ((4 : Int32).toUInt32 &&& Int32.toUInt32 31)).toInt32)) &&& 252645135) + (((((((x0 - (((x0.toUInt32 >>> ((1 : Int32).toUInt32 &&& Int32.toUInt32 31)).toInt32) &&& 1431655765)) &&& 858993459) + ((((x0 - (((x0.toUInt32 >>> ((1 : Int32).toUInt32 &&& Int32.toUInt32 31)).toInt32) &&& 1431655765)).toUInt32 >>> ((2 : Int32).toUInt32 &&& Int32.toUInt32 31)).toInt32) &&& 858993459)) + (((((x0 - (((x0.toUInt32 >>> ((1 : Int32).toUInt32 &&& Int32.toUInt32 31)).toInt32) &&& 1431655765)) &&& 858993459) + ((((x0 - (((x0.toUInt32 >>> ((1 : Int32).toUInt32 &&& Int32.toUInt32 31)).toInt32) &&& 1431655765)).toUInt32 >>> ((2 : Int32).toUInt32 &&& Int32.toUInt32 31)).toInt32) &&& 858993459)).toUInt32 >>> ((4 : Int32).toUInt32 &&& Int32.toUInt32 31)).toInt32)) &&& 252645135).toUInt32 >>> ((8 : Int32).toUInt32 &&& Int32.toUInt32 31)).toInt32)) + ((((((((x0 - (((x0.toUInt32 >>> ((1 : Int32).toUInt32 &&& Int32.toUInt32 31)).toInt32) &&& 1431655765)) &&& 858993459) + ((((x0 - (((x0.toUInt32 >>> ((1 : Int32).toUInt32 &&& Int32.toUInt32 31)).toInt32) &&& 1431655765)).toUInt32 >>> ((2 : Int32).toUInt32 &&& Int32.toUInt32 31)).toInt32) &&& 858993459)) + (((((x0 - (((x0.toUInt32 >>> ((1 : Int32).toUInt32 &&& Int32.toUInt32 31)).toInt32) &&& 1431655765)) &&& 858993459) + ((((x0 - (((x0.toUInt32 >>> ((1 : Int32).toUInt32 &&& Int32.toUInt32 31)).toInt32) &&& 1431655765)).toUInt32 >>> ((2 : Int32).toUInt32 &&& Int32.toUInt32 31)).toInt32) &&& 858993459)).toUInt32 >>> ((4 : Int32).toUInt32 &&& Int32.toUInt32 31)).toInt32)) &&& 252645135) + (((((((x0 - (((x0.toUInt32 >>> ((1 : Int32).toUInt32 &&& Int32.toUInt32 31)).toInt32) &&& 1431655765)) &&& 858993459) + ((((x0 - (((x0.toUInt32 >>> ((1 : Int32).toUInt32 &&& Int32.toUInt32 31)).toInt32) &&& 1431655765)).toUInt32 >>> ((2 : Int32).toUInt32 &&& Int32.toUInt32 31)).toInt32) &&& 858993459)) + (((((x0 - (((x0.toUInt32 >>> ((1 : Int32).toUInt32 &&& Int32.toUInt32 31)).toInt32) &&& 1431655765)) &&& 858993459) + ((((x0 - (((x0.toUInt32 >>> ((1 : Int32).toUInt32 &&& Int32.toUInt32 31)).toInt32) &&& 1431655765)).toUInt32 >>> ((2 : Int32).toUInt32 &&& Int32.toUInt32 31)).toInt32) &&& 858993459)).toUInt32 >>> ((4 : Int32).toUInt32 &&& Int32.toUInt32 31)).toInt32)) &&& 252645135).toUInt32 >>> ((8 : Int32).toUInt32 &&& Int32.toUInt32 31)).toInt32)).toUInt32 >>> ((16 : Int32).toUInt32 &&& Int32.toUInt32 31)).toInt32)) &&& 63) hx hb hr (fun t ht hW => ⟨((((((((x0 - (((x0.toUInt32 >>> ((1 : Int32).toUInt32 &&& Int32.toUInt32 31)).toInt32) &&& 1431655765)) &&& 858993459) + ((((x0 - (((x0.toUInt32 >>> ((1 : Int32).toUInt32 &&& Int32.toUInt32 31)).toInt32) &&& 1431655765)).toUInt32 >>> ((2 : Int32).toUInt32 &&& Int32.toUInt32 31)).toInt32) &&& 858993459)) + (((((x0 - (((x0.toUInt32 >>> ((1 : Int32).toUInt32 &&& Int32.toUInt32 31)).toInt32) &&& 1431655765)) &&& 858993459) + ((((x0 - (((x0.toUInt32 >>> ((1 : Int32).toUInt32 &&& Int32.toUInt32 31)).toInt32) &&& 1431655765)).toUInt32 >>> ((2 : Int32).toUInt32 &&& Int32.toUInt32 31)).toInt32) &&& 858993459)).toUInt32 >>> ((4 : Int32).toUInt32 &&& Int32.toUInt32 31)).toInt32)) &&& 252645135) + (((((((x0 - (((x0.toUInt32 >>> ((1 : Int32).toUInt32 &&& Int32.toUInt32 31)).toInt32) &&& 1431655765)) &&& 858993459) + ((((x0 - (((x0.toUInt32 >>> ((1 : Int32).toUInt32 &&& Int32.toUInt32 31)).toInt32) &&& 1431655765)).toUInt32 >>> ((2 : Int32).toUInt32 &&& Int32.toUInt32 31)).toInt32) &&& 858993459)) + (((((x0 - (((x0.toUInt32 >>> ((1 : Int32).toUInt32 &&& Int32.toUInt32 31)).toInt32) &&& 1431655765)) &&& 858993459) + ((((x0 - (((x0.toUInt32 >>> ((1 : Int32).toUInt32 &&& Int32.toUInt32 31)).toInt32) &&& 1431655765)).toUInt32 >>> ((2 : Int32).toUInt32 &&& Int32.toUInt32 31)).toInt32) &&& 858993459)).toUInt32 >>> ((4 : Int32).toUInt32 &&& Int32.toUInt32 31)).toInt32)) &&& 252645135).toUInt32 >>> ((8 : Int32).toUInt32 &&& Int32.toUInt32 31)).toInt32)) + ((((((((x0 - (((x0.toUInt32 >>> ((1 : Int32).toUInt32 &&& Int32.toUInt32 31)).toInt32) &&& 1431655765)) &&& 858993459) + ((((x0 - (((x0.toUInt32 >>> ((1 : Int32).toUInt32 &&& Int32.toUInt32 31)).toInt32) &&& 1431655765)).toUInt32 >>> ((2 : Int32).toUInt32 &&& Int32.toUInt32 31)).toInt32) &&& 858993459)) + (((((x0 - (((x0.toUInt32 >>> ((1 : Int32).toUInt32 &&& Int32.toUInt32 31)).toInt32) &&& 1431655765)) &&& 858993459) + ((((x0 - (((x0.toUInt32 >>> ((1 : Int32).toUInt32 &&& Int32.toUInt32 31)).toInt32) &&& 1431655765)).toUInt32 >>> ((2 : Int32).toUInt32 &&& Int32.toUInt32 31)).toInt32) &&& 858993459)).toUInt32 >>> ((4 : Int32).toUInt32 &&& Int32.toUInt32 31)).toInt32)) &&& 252645135) + (((((((x0 - (((x0.toUInt32 >>> ((1 : Int32).toUInt32 &&& Int32.toUInt32 31)).toInt32) &&& 1431655765)) &&& 858993459) + ((((x0 - (((x0.toUInt32 >>> ((1 : Int32).toUInt32 &&& Int32.toUInt32 31)).toInt32) &&& 1431655765)).toUInt32 >>> ((2 : Int32).toUInt32 &&& Int32.toUInt32 31)).toInt32) &&& 858993459)) + (((((x0 - (((x0.toUInt32 >>> ((1 : Int32).toUInt32 &&& Int32.toUInt32 31)).toInt32) &&& 1431655765)) &&& 858993459) + ((((x0 - (((x0.toUInt32 >>> ((1 : Int32).toUInt32 &&& Int32.toUInt32 31)).toInt32) &&& 1431655765)).toUInt32 >>> ((2 : Int32).toUInt32 &&& Int32.toUInt32 31)).toInt32) &&& 858993459)).toUInt32 >>> ((4 : Int32).toUInt32 &&& Int32.toUInt32 31)).toInt32)) &&& 252645135).toUInt32 >>> ((8 : Int32).toUInt32 &&& Int32.toUInt32 31)).toInt32)).toUInt32 >>> ((16 : Int32).toUInt32 &&& Int32.toUInt32 31)).toInt32)) &&& 63), rfl, rfl, ht⟩) (fun _ h => nomatch h) dJ6_bitCount_52
set_option maxHeartbeats 4000000 in
set_option maxRecDepth 100000 in
theorem kX1_haveRoom (l : Launch) (dC : Nat → ClassId) (dI : Nat → Nat → Nat) (g : cG) (h : Nat → Nat) (u : cS) : Met l yX1_haveRoom wsX1_haveRoom ({ frames := 0, cells := 0, slots := 0, locals := 0 }) (va_Pc [.ref (h 1)] (fun U => va_P (dC, dI) vwCl (cw g h u) U.heap ∧ va_K (dC, dI) vwCl (cTys g) U)) (vp_Si (fun r => r = fX1_haveRoom u)) 0 0 (fun _ => False) := by
  refine Met.ofW (cc := cX1_haveRoom) (maxL := 1) (ret := (some .boolean)) (by decide) rfl ?_
  intro p e s m args below meth c s₁ B hml hv
  obtain ⟨rfl, hP, hK⟩ := hv
  have hx := B.exec
  have hb := B.bytes
  have hr := B.returns
  have hts := atoms_spec (ws := wsX1_haveRoom) B.pre
  have hown : s.vm.findClass RX1 = some m.cls := findClass_of_methodNamed B.named
  have hlocks := B.notSynchronized
  have hS : va_S (fun _ => False) s.heap s.heap [] := va_S.rf
  have hl := lv_entry ([.ref (h 1)]) (n := 1) (Nat.le_of_ble_eq_true rfl)
  rw [lg_entry_eq]
  generalize (lg_sl ([.ref (h 1)]) ++ List.replicate (1 - (lg_sl ([.ref (h 1)])).length) Slot.unset).toArray = ls at hl ⊢
  have hl : lv_has ls 1 [(0, .ref (h 1))] := hl
  refine lv_aload_n hx hb dX1_haveRoom_0 rfl (lv_at hl 0 rfl) ?_
  refine va_get (D := (dC, dI)) (C := RX1) (T := TX1) (N := 9) (v := .int (k_lmade u)) hx hb hts (fi_X1 _) hown hK hP 1 (cw_at1 _ _ _) rfl 8 (by decide) (hts _ (List.mem_cons_of_mem _ wd_15)) (fun _ h9 => h9) rfl dX1_haveRoom_1 ?_
  refine lv_bipush (v := 40) hx hb dX1_haveRoom_4 (by decide) ?_
  refine lv_icmp_ge (tgt := 13) hx hb dX1_haveRoom_6 (by decide) (fun c_1 => ?_) (fun c_1 => ?_)
  · skip
    have t_2 : 40 ≤ (k_lmade u).toInt := i_le c_1 (by decide) rfl
    refine lv_iconst (v := 0) hx hb dX1_haveRoom_13 (by decide) ?_
    exact W.zret (v := 0) hx hb hr rfl (fun t ht hW => ⟨0, rfl, (by unfold fX1_haveRoom; rw [if_pos c_1]), ht⟩) (fun _ h => nomatch h) dX1_haveRoom_14
  · skip
    have t_3 : (k_lmade u).toInt < 40 := i_nle c_1 (by decide) rfl
    refine lv_iconst (v := 1) hx hb dX1_haveRoom_9 (by decide) ?_
    refine lv_goto (tgt := 14) hx hb dX1_haveRoom_10 (by decide) ?_
    exact W.zret (v := 1) hx hb hr rfl (fun t ht hW => ⟨1, rfl, (by unfold fX1_haveRoom; rw [if_neg c_1]), ht⟩) (fun _ h => nomatch h) dX1_haveRoom_14
set_option maxHeartbeats 4000000 in
set_option maxRecDepth 100000 in
theorem kX1_areAlike (l : Launch) (dC : Nat → ClassId) (dI : Nat → Nat → Nat) (g : cG) (h : Nat → Nat) (u : cS) (x1 : Int32) (x2 : Int32) (h1 : 0 ≤ x1.toInt ∧ x1.toInt ≤ 40) (h2 : 0 ≤ x2.toInt ∧ x2.toInt ≤ 40) : Met l yX1_areAlike wsX1_areAlike ({ frames := 0, cells := 0, slots := 0, locals := 0 }) (va_Pc [.ref (h 1), .int x1, .int x2] (fun U => va_P (dC, dI) vwCl (cw g h u) U.heap ∧ va_K (dC, dI) vwCl (cTys g) U)) (vp_Si (fun r => r = fX1_areAlike u x1 x2)) 0 0 (fun _ => False) := by
  refine Met.ofW (cc := cX1_areAlike) (maxL := 3) (ret := (some .boolean)) (by decide) rfl ?_
  intro p e s m args below meth c s₁ B hml hv
  obtain ⟨rfl, hP, hK⟩ := hv
  have hx := B.exec
  have hb := B.bytes
  have hr := B.returns
  have hts := atoms_spec (ws := wsX1_areAlike) B.pre
  have hown : s.vm.findClass RX1 = some m.cls := findClass_of_methodNamed B.named
  have hlocks := B.notSynchronized
  have hS : va_S (fun _ => False) s.heap s.heap [] := va_S.rf
  have hl := lv_entry ([.ref (h 1), .int x1, .int x2]) (n := 3) (Nat.le_of_ble_eq_true rfl)
  rw [lg_entry_eq]
  generalize (lg_sl ([.ref (h 1), .int x1, .int x2]) ++ List.replicate (3 - (lg_sl ([.ref (h 1), .int x1, .int x2])).length) Slot.unset).toArray = ls at hl ⊢
  have hl : lv_has ls 3 [(0, .ref (h 1)), (1, .int x1), (2, .int x2)] := hl
  refine lv_aload_n hx hb dX1_areAlike_0 rfl (lv_at hl 0 rfl) ?_
  refine va_get (D := (dC, dI)) (C := RX1) (T := TX1) (N := 9) (v := .ref (h 8)) hx hb hts (fi_X1 _) hown hK hP 1 (cw_at1 _ _ _) rfl 0 (by decide) (hts _ (List.mem_cons_of_mem _ wd_16)) (fun _ h9 => h9) rfl dX1_areAlike_1 ?_
  refine lv_iload_n hx hb dX1_areAlike_4 rfl (lv_at hl 1 rfl) ?_
  refine va_iald (f := k_goods u) hx hb hK hP 8 0 (cw_at8 _ _ _) rfl (vp_in_iff.mpr (by omega)) dX1_areAlike_5 ?_
  refine lv_aload_n hx hb dX1_areAlike_6 rfl (lv_at hl 0 rfl) ?_
  refine va_get (D := (dC, dI)) (C := RX1) (T := TX1) (N := 9) (v := .ref (h 8)) hx hb hts (fi_X1 _) hown hK hP 1 (cw_at1 _ _ _) rfl 0 (by decide) (hts _ (List.mem_cons_of_mem _ wd_16)) (fun _ h9 => h9) rfl dX1_areAlike_7 ?_
  refine lv_iload_n hx hb dX1_areAlike_10 rfl (lv_at hl 2 rfl) ?_
  refine va_iald (f := k_goods u) hx hb hK hP 8 0 (cw_at8 _ _ _) rfl (vp_in_iff.mpr (by omega)) dX1_areAlike_11 ?_
  refine lv_icmp_ne (tgt := 79) hx hb dX1_areAlike_12 (by decide) (fun c_1 => ?_) (fun c_1 => ?_)
  · skip
    have t_2 : (k_goods u x1.toNatClampNeg).toInt ≠ (k_goods u x2.toNatClampNeg).toInt := i_ne c_1 rfl rfl
    refine lv_iconst (v := 0) hx hb dX1_areAlike_79 (by decide) ?_
    exact W.zret (v := 0) hx hb hr rfl (fun t ht hW => ⟨0, rfl, (by unfold fX1_areAlike; rw [if_neg c_1]), ht⟩) (fun _ h => nomatch h) dX1_areAlike_80
  · skip
    have t_3 : (k_goods u x1.toNatClampNeg).toInt = (k_goods u x2.toNatClampNeg).toInt := i_eq c_1 rfl rfl
    refine lv_aload_n hx hb dX1_areAlike_15 rfl (lv_at hl 0 rfl) ?_
    refine va_get (D := (dC, dI)) (C := RX1) (T := TX1) (N := 9) (v := .ref (h 9)) hx hb hts (fi_X1 _) hown hK hP 1 (cw_at1 _ _ _) rfl 1 (by decide) (hts _ (List.mem_cons_of_mem _ wd_17)) (fun _ h9 => h9) rfl dX1_areAlike_16 ?_
    refine lv_iload_n hx hb dX1_areAlike_19 rfl (lv_at hl 1 rfl) ?_
    refine va_iald (f := k_owners u) hx hb hK hP 9 0 (cw_at9 _ _ _) rfl (vp_in_iff.mpr (by omega)) dX1_areAlike_20 ?_
    refine lv_aload_n hx hb dX1_areAlike_21 rfl (lv_at hl 0 rfl) ?_
    refine va_get (D := (dC, dI)) (C := RX1) (T := TX1) (N := 9) (v := .ref (h 9)) hx hb hts (fi_X1 _) hown hK hP 1 (cw_at1 _ _ _) rfl 1 (by decide) (hts _ (List.mem_cons_of_mem _ wd_17)) (fun _ h9 => h9) rfl dX1_areAlike_22 ?_
    refine lv_iload_n hx hb dX1_areAlike_25 rfl (lv_at hl 2 rfl) ?_
    refine va_iald (f := k_owners u) hx hb hK hP 9 0 (cw_at9 _ _ _) rfl (vp_in_iff.mpr (by omega)) dX1_areAlike_26 ?_
    refine lv_icmp_ne (tgt := 79) hx hb dX1_areAlike_27 (by decide) (fun c_4 => ?_) (fun c_4 => ?_)
    · skip
      have t_5 : (k_owners u x1.toNatClampNeg).toInt ≠ (k_owners u x2.toNatClampNeg).toInt := i_ne c_4 rfl rfl
      refine lv_iconst (v := 0) hx hb dX1_areAlike_79 (by decide) ?_
      exact W.zret (v := 0) hx hb hr rfl (fun t ht hW => ⟨0, rfl, (by unfold fX1_areAlike; rw [if_pos c_1, if_neg c_4]), ht⟩) (fun _ h => nomatch h) dX1_areAlike_80
    · skip
      have t_6 : (k_owners u x1.toNatClampNeg).toInt = (k_owners u x2.toNatClampNeg).toInt := i_eq c_4 rfl rfl
      refine lv_aload_n hx hb dX1_areAlike_30 rfl (lv_at hl 0 rfl) ?_
      refine va_get (D := (dC, dI)) (C := RX1) (T := TX1) (N := 9) (v := .ref (h 10)) hx hb hts (fi_X1 _) hown hK hP 1 (cw_at1 _ _ _) rfl 2 (by decide) (hts _ (List.mem_cons_of_mem _ wd_18)) (fun _ h9 => h9) rfl dX1_areAlike_31 ?_
      refine lv_iload_n hx hb dX1_areAlike_34 rfl (lv_at hl 1 rfl) ?_
      refine va_iald (f := k_last u) hx hb hK hP 10 0 (cw_at10 _ _ _) rfl (vp_in_iff.mpr (by omega)) dX1_areAlike_35 ?_
      refine lv_aload_n hx hb dX1_areAlike_36 rfl (lv_at hl 0 rfl) ?_
      refine va_get (D := (dC, dI)) (C := RX1) (T := TX1) (N := 9) (v := .ref (h 10)) hx hb hts (fi_X1 _) hown hK hP 1 (cw_at1 _ _ _) rfl 2 (by decide) (hts _ (List.mem_cons_of_mem _ wd_18)) (fun _ h9 => h9) rfl dX1_areAlike_37 ?_
      refine lv_iload_n hx hb dX1_areAlike_40 rfl (lv_at hl 2 rfl) ?_
      refine va_iald (f := k_last u) hx hb hK hP 10 0 (cw_at10 _ _ _) rfl (vp_in_iff.mpr (by omega)) dX1_areAlike_41 ?_
      refine lv_icmp_ne (tgt := 79) hx hb dX1_areAlike_42 (by decide) (fun c_7 => ?_) (fun c_7 => ?_)
      · skip
        have t_8 : (k_last u x1.toNatClampNeg).toInt ≠ (k_last u x2.toNatClampNeg).toInt := i_ne c_7 rfl rfl
        refine lv_iconst (v := 0) hx hb dX1_areAlike_79 (by decide) ?_
        exact W.zret (v := 0) hx hb hr rfl (fun t ht hW => ⟨0, rfl, (by unfold fX1_areAlike; rw [if_pos c_1, if_pos c_4, if_neg c_7]), ht⟩) (fun _ h => nomatch h) dX1_areAlike_80
      · skip
        have t_9 : (k_last u x1.toNatClampNeg).toInt = (k_last u x2.toNatClampNeg).toInt := i_eq c_7 rfl rfl
        refine lv_aload_n hx hb dX1_areAlike_45 rfl (lv_at hl 0 rfl) ?_
        refine va_get (D := (dC, dI)) (C := RX1) (T := TX1) (N := 9) (v := .ref (h 13)) hx hb hts (fi_X1 _) hown hK hP 1 (cw_at1 _ _ _) rfl 5 (by decide) (hts _ (List.mem_cons_of_mem _ wd_19)) (fun _ h9 => h9) rfl dX1_areAlike_46 ?_
        refine lv_iload_n hx hb dX1_areAlike_49 rfl (lv_at hl 1 rfl) ?_
        refine va_iald (f := k_reas u) hx hb hK hP 13 0 (cw_at13 _ _ _) rfl (vp_in_iff.mpr (by omega)) dX1_areAlike_50 ?_
        refine lv_aload_n hx hb dX1_areAlike_51 rfl (lv_at hl 0 rfl) ?_
        refine va_get (D := (dC, dI)) (C := RX1) (T := TX1) (N := 9) (v := .ref (h 13)) hx hb hts (fi_X1 _) hown hK hP 1 (cw_at1 _ _ _) rfl 5 (by decide) (hts _ (List.mem_cons_of_mem _ wd_19)) (fun _ h9 => h9) rfl dX1_areAlike_52 ?_
        refine lv_iload_n hx hb dX1_areAlike_55 rfl (lv_at hl 2 rfl) ?_
        refine va_iald (f := k_reas u) hx hb hK hP 13 0 (cw_at13 _ _ _) rfl (vp_in_iff.mpr (by omega)) dX1_areAlike_56 ?_
        refine lv_icmp_ne (tgt := 79) hx hb dX1_areAlike_57 (by decide) (fun c_10 => ?_) (fun c_10 => ?_)
        · skip
          have t_11 : (k_reas u x1.toNatClampNeg).toInt ≠ (k_reas u x2.toNatClampNeg).toInt := i_ne c_10 rfl rfl
          refine lv_iconst (v := 0) hx hb dX1_areAlike_79 (by decide) ?_
          exact W.zret (v := 0) hx hb hr rfl (fun t ht hW => ⟨0, rfl, (by unfold fX1_areAlike; rw [if_pos c_1, if_pos c_4, if_pos c_7, if_neg c_10]), ht⟩) (fun _ h => nomatch h) dX1_areAlike_80
        · skip
          have t_12 : (k_reas u x1.toNatClampNeg).toInt = (k_reas u x2.toNatClampNeg).toInt := i_eq c_10 rfl rfl
          refine lv_aload_n hx hb dX1_areAlike_60 rfl (lv_at hl 0 rfl) ?_
          refine va_get (D := (dC, dI)) (C := RX1) (T := TX1) (N := 9) (v := .ref (h 14)) hx hb hts (fi_X1 _) hown hK hP 1 (cw_at1 _ _ _) rfl 6 (by decide) (hts _ (List.mem_cons_of_mem _ wd_20)) (fun _ h9 => h9) rfl dX1_areAlike_61 ?_
          refine lv_iload_n hx hb dX1_areAlike_64 rfl (lv_at hl 1 rfl) ?_
          refine va_zald (f := k_quar u) hx hb hK hP 14 1 (cw_at14 _ _ _) rfl (vp_in_iff.mpr (by omega)) dX1_areAlike_65 ?_
          refine lv_aload_n hx hb dX1_areAlike_66 rfl (lv_at hl 0 rfl) ?_
          refine va_get (D := (dC, dI)) (C := RX1) (T := TX1) (N := 9) (v := .ref (h 14)) hx hb hts (fi_X1 _) hown hK hP 1 (cw_at1 _ _ _) rfl 6 (by decide) (hts _ (List.mem_cons_of_mem _ wd_20)) (fun _ h9 => h9) rfl dX1_areAlike_67 ?_
          refine lv_iload_n hx hb dX1_areAlike_70 rfl (lv_at hl 2 rfl) ?_
          refine va_zald (f := k_quar u) hx hb hK hP 14 1 (cw_at14 _ _ _) rfl (vp_in_iff.mpr (by omega)) dX1_areAlike_71 ?_
          refine lv_icmp_ne (tgt := 79) hx hb dX1_areAlike_72 (by decide) (fun c_13 => ?_) (fun c_13 => ?_)
          · skip
            have t_14 : (k_quar u x1.toNatClampNeg).toInt ≠ (k_quar u x2.toNatClampNeg).toInt := i_ne c_13 rfl rfl
            refine lv_iconst (v := 0) hx hb dX1_areAlike_79 (by decide) ?_
            exact W.zret (v := 0) hx hb hr rfl (fun t ht hW => ⟨0, rfl, (by unfold fX1_areAlike; rw [if_pos c_1, if_pos c_4, if_pos c_7, if_pos c_10, if_neg c_13]), ht⟩) (fun _ h => nomatch h) dX1_areAlike_80
          · skip
            have t_15 : (k_quar u x1.toNatClampNeg).toInt = (k_quar u x2.toNatClampNeg).toInt := i_eq c_13 rfl rfl
            refine lv_iconst (v := 1) hx hb dX1_areAlike_75 (by decide) ?_
            refine lv_goto (tgt := 80) hx hb dX1_areAlike_76 (by decide) ?_
            exact W.zret (v := 1) hx hb hr rfl (fun t ht hW => ⟨1, rfl, (by unfold fX1_areAlike; rw [if_pos c_1, if_pos c_4, if_pos c_7, if_pos c_10, if_pos c_13]), ht⟩) (fun _ h => nomatch h) dX1_areAlike_80
set_option maxHeartbeats 4000000 in
set_option maxRecDepth 100000 in
theorem kX1_lieTooFarApart (l : Launch) (dC : Nat → ClassId) (dI : Nat → Nat → Nat) (g : cG) (h : Nat → Nat) (u : cS) (x1 : Int32) (x2 : Int32) (x3 : Int32) (h1 : 0 ≤ x1.toInt ∧ x1.toInt ≤ 40) (h2 : 0 ≤ x2.toInt ∧ x2.toInt ≤ 40) : Met l yX1_lieTooFarApart wsX1_lieTooFarApart ({ frames := 1, cells := 0, slots := 0, locals := 21 }) (va_Pc [.ref (h 1), .int x1, .int x2, .int x3] (fun U => va_P (dC, dI) vwCl (cw g h u) U.heap ∧ va_K (dC, dI) vwCl (cTys g) U)) (vp_Si (fun r => r = fX1_lieTooFarApart u x1 x2 x3)) 0 0 (fun _ => False) := by
  refine Met.ofW (cc := cX1_lieTooFarApart) (maxL := 4) (ret := (some .boolean)) (by decide) rfl ?_
  intro p e s m args below meth c s₁ B hml hv
  obtain ⟨rfl, hP, hK⟩ := hv
  have hx := B.exec
  have hb := B.bytes
  have hr := B.returns
  have hts := atoms_spec (ws := wsX1_lieTooFarApart) B.pre
  have hown : s.vm.findClass RX1 = some m.cls := findClass_of_methodNamed B.named
  have hlocks := B.notSynchronized
  have hS : va_S (fun _ => False) s.heap s.heap [] := va_S.rf
  have hl := lv_entry ([.ref (h 1), .int x1, .int x2, .int x3]) (n := 4) (Nat.le_of_ble_eq_true rfl)
  rw [lg_entry_eq]
  generalize (lg_sl ([.ref (h 1), .int x1, .int x2, .int x3]) ++ List.replicate (4 - (lg_sl ([.ref (h 1), .int x1, .int x2, .int x3])).length) Slot.unset).toArray = ls at hl ⊢
  have hl : lv_has ls 4 [(0, .ref (h 1)), (1, .int x1), (2, .int x2), (3, .int x3)] := hl
  refine lv_aload_n hx hb dX1_lieTooFarApart_0 rfl (lv_at hl 0 rfl) ?_
  refine va_get (D := (dC, dI)) (C := RX1) (T := TX1) (N := 9) (v := .ref (h 8)) hx hb hts (fi_X1 _) hown hK hP 1 (cw_at1 _ _ _) rfl 0 (by decide) (hts _ (List.mem_cons_of_mem _ wd_16)) (fun _ h9 => h9) rfl dX1_lieTooFarApart_1 ?_
  refine lv_iload_n hx hb dX1_lieTooFarApart_4 rfl (lv_at hl 1 rfl) ?_
  refine va_iald (f := k_goods u) hx hb hK hP 8 0 (cw_at8 _ _ _) rfl (vp_in_iff.mpr (by omega)) dX1_lieTooFarApart_5 ?_
  refine lv_aload_n hx hb dX1_lieTooFarApart_6 rfl (lv_at hl 0 rfl) ?_
  refine va_get (D := (dC, dI)) (C := RX1) (T := TX1) (N := 9) (v := .ref (h 8)) hx hb hts (fi_X1 _) hown hK hP 1 (cw_at1 _ _ _) rfl 0 (by decide) (hts _ (List.mem_cons_of_mem _ wd_16)) (fun _ h9 => h9) rfl dX1_lieTooFarApart_7 ?_
  refine lv_iload_n hx hb dX1_lieTooFarApart_10 rfl (lv_at hl 2 rfl) ?_
  refine va_iald (f := k_goods u) hx hb hK hP 8 0 (cw_at8 _ _ _) rfl (vp_in_iff.mpr (by omega)) dX1_lieTooFarApart_11 ?_
  refine lv_icmp_ne (tgt := 54) hx hb dX1_lieTooFarApart_12 (by decide) (fun c_1 => ?_) (fun c_1 => ?_)
  · skip
    have t_2 : (k_goods u x1.toNatClampNeg).toInt ≠ (k_goods u x2.toNatClampNeg).toInt := i_ne c_1 rfl rfl
    refine lv_iconst (v := 0) hx hb dX1_lieTooFarApart_54 (by decide) ?_
    exact W.zret (v := 0) hx hb hr rfl (fun t ht hW => ⟨0, rfl, (by unfold fX1_lieTooFarApart; rw [if_neg c_1]), ht⟩) (fun _ h => nomatch h) dX1_lieTooFarApart_55
  · skip
    have t_3 : (k_goods u x1.toNatClampNeg).toInt = (k_goods u x2.toNatClampNeg).toInt := i_eq c_1 rfl rfl
    refine lv_aload_n hx hb dX1_lieTooFarApart_15 rfl (lv_at hl 0 rfl) ?_
    refine va_get (D := (dC, dI)) (C := RX1) (T := TX1) (N := 9) (v := .ref (h 9)) hx hb hts (fi_X1 _) hown hK hP 1 (cw_at1 _ _ _) rfl 1 (by decide) (hts _ (List.mem_cons_of_mem _ wd_17)) (fun _ h9 => h9) rfl dX1_lieTooFarApart_16 ?_
    refine lv_iload_n hx hb dX1_lieTooFarApart_19 rfl (lv_at hl 1 rfl) ?_
    refine va_iald (f := k_owners u) hx hb hK hP 9 0 (cw_at9 _ _ _) rfl (vp_in_iff.mpr (by omega)) dX1_lieTooFarApart_20 ?_
    refine lv_aload_n hx hb dX1_lieTooFarApart_21 rfl (lv_at hl 0 rfl) ?_
    refine va_get (D := (dC, dI)) (C := RX1) (T := TX1) (N := 9) (v := .ref (h 9)) hx hb hts (fi_X1 _) hown hK hP 1 (cw_at1 _ _ _) rfl 1 (by decide) (hts _ (List.mem_cons_of_mem _ wd_17)) (fun _ h9 => h9) rfl dX1_lieTooFarApart_22 ?_
    refine lv_iload_n hx hb dX1_lieTooFarApart_25 rfl (lv_at hl 2 rfl) ?_
    refine va_iald (f := k_owners u) hx hb hK hP 9 0 (cw_at9 _ _ _) rfl (vp_in_iff.mpr (by omega)) dX1_lieTooFarApart_26 ?_
    refine lv_icmp_ne (tgt := 54) hx hb dX1_lieTooFarApart_27 (by decide) (fun c_4 => ?_) (fun c_4 => ?_)
    · skip
      have t_5 : (k_owners u x1.toNatClampNeg).toInt ≠ (k_owners u x2.toNatClampNeg).toInt := i_ne c_4 rfl rfl
      refine lv_iconst (v := 0) hx hb dX1_lieTooFarApart_54 (by decide) ?_
      exact W.zret (v := 0) hx hb hr rfl (fun t ht hW => ⟨0, rfl, (by unfold fX1_lieTooFarApart; rw [if_pos c_1, if_neg c_4]), ht⟩) (fun _ h => nomatch h) dX1_lieTooFarApart_55
    · skip
      have t_6 : (k_owners u x1.toNatClampNeg).toInt = (k_owners u x2.toNatClampNeg).toInt := i_eq c_4 rfl rfl
      refine lv_aload_n hx hb dX1_lieTooFarApart_30 rfl (lv_at hl 0 rfl) ?_
      refine va_get (D := (dC, dI)) (C := RX1) (T := TX1) (N := 9) (v := .ref (h 10)) hx hb hts (fi_X1 _) hown hK hP 1 (cw_at1 _ _ _) rfl 2 (by decide) (hts _ (List.mem_cons_of_mem _ wd_18)) (fun _ h9 => h9) rfl dX1_lieTooFarApart_31 ?_
      refine lv_iload_n hx hb dX1_lieTooFarApart_34 rfl (lv_at hl 1 rfl) ?_
      refine va_iald (f := k_last u) hx hb hK hP 10 0 (cw_at10 _ _ _) rfl (vp_in_iff.mpr (by omega)) dX1_lieTooFarApart_35 ?_
      refine lv_aload_n hx hb dX1_lieTooFarApart_36 rfl (lv_at hl 0 rfl) ?_
      refine va_get (D := (dC, dI)) (C := RX1) (T := TX1) (N := 9) (v := .ref (h 10)) hx hb hts (fi_X1 _) hown hK hP 1 (cw_at1 _ _ _) rfl 2 (by decide) (hts _ (List.mem_cons_of_mem _ wd_18)) (fun _ h9 => h9) rfl dX1_lieTooFarApart_37 ?_
      refine lv_iload_n hx hb dX1_lieTooFarApart_40 rfl (lv_at hl 2 rfl) ?_
      refine va_iald (f := k_last u) hx hb hK hP 10 0 (cw_at10 _ _ _) rfl (vp_in_iff.mpr (by omega)) dX1_lieTooFarApart_41 ?_
      refine lv_isub hx hb dX1_lieTooFarApart_42 ?_
      refine va_mabs hx hb (hml.trans hl.1.symm) hown (hts _ (List.mem_cons_of_mem _ wd_21)) (hts _ (List.mem_cons_of_mem _ wd_22)) (hts _ (List.mem_cons_of_mem _ wd_23)) (hts _ (List.mem_cons_of_mem _ wcabs)) (Nat.le_of_ble_eq_true rfl) (Nat.le_of_ble_eq_true rfl) (Nat.le_of_ble_eq_true rfl) (Nat.le_of_ble_eq_true rfl) dX1_lieTooFarApart_43 ?_
      refine lv_iload_n hx hb dX1_lieTooFarApart_46 rfl (lv_at hl 3 rfl) ?_
      refine lv_icmp_le (tgt := 54) hx hb dX1_lieTooFarApart_47 (by decide) (fun c_7 => ?_) (fun c_7 => ?_)
      · skip
        have t_8 : (if 0 ≤ (k_last u x1.toNatClampNeg) - (k_last u x2.toNatClampNeg) then (k_last u x1.toNatClampNeg) - (k_last u x2.toNatClampNeg) else 0 - ((k_last u x1.toNatClampNeg) - (k_last u x2.toNatClampNeg))).toInt ≤ x3.toInt := i_le c_7 rfl rfl
        refine lv_iconst (v := 0) hx hb dX1_lieTooFarApart_54 (by decide) ?_
        exact W.zret (v := 0) hx hb hr rfl (fun t ht hW => ⟨0, rfl, (by unfold fX1_lieTooFarApart; rw [if_pos c_1, if_pos c_4, if_pos c_7]), ht⟩) (fun _ h => nomatch h) dX1_lieTooFarApart_55
      · skip
        have t_9 : x3.toInt < (if 0 ≤ (k_last u x1.toNatClampNeg) - (k_last u x2.toNatClampNeg) then (k_last u x1.toNatClampNeg) - (k_last u x2.toNatClampNeg) else 0 - ((k_last u x1.toNatClampNeg) - (k_last u x2.toNatClampNeg))).toInt := i_nle c_7 rfl rfl
        refine lv_iconst (v := 1) hx hb dX1_lieTooFarApart_50 (by decide) ?_
        refine lv_goto (tgt := 55) hx hb dX1_lieTooFarApart_51 (by decide) ?_
        exact W.zret (v := 1) hx hb hr rfl (fun t ht hW => ⟨1, rfl, (by unfold fX1_lieTooFarApart; rw [if_pos c_1, if_pos c_4, if_neg c_7]), ht⟩) (fun _ h => nomatch h) dX1_lieTooFarApart_55
set_option maxHeartbeats 4000000 in
set_option maxRecDepth 100000 in
theorem kX1_mayBeTaken (l : Launch) (dC : Nat → ClassId) (dI : Nat → Nat → Nat) (g : cG) (h : Nat → Nat) (u : cS) (x1 : Int32) (h1 : 0 ≤ x1.toInt ∧ x1.toInt ≤ 40) : Met l yX1_mayBeTaken wsX1_mayBeTaken ({ frames := 0, cells := 0, slots := 0, locals := 0 }) (va_Pc [.ref (h 1), .int x1] (fun U => va_P (dC, dI) vwCl (cw g h u) U.heap ∧ va_K (dC, dI) vwCl (cTys g) U)) (vp_Si (fun r => r = fX1_mayBeTaken u x1)) 0 0 (fun _ => False) := by
  refine Met.ofW (cc := cX1_mayBeTaken) (maxL := 2) (ret := (some .boolean)) (by decide) rfl ?_
  intro p e s m args below meth c s₁ B hml hv
  obtain ⟨rfl, hP, hK⟩ := hv
  have hx := B.exec
  have hb := B.bytes
  have hr := B.returns
  have hts := atoms_spec (ws := wsX1_mayBeTaken) B.pre
  have hown : s.vm.findClass RX1 = some m.cls := findClass_of_methodNamed B.named
  have hlocks := B.notSynchronized
  have hS : va_S (fun _ => False) s.heap s.heap [] := va_S.rf
  have hl := lv_entry ([.ref (h 1), .int x1]) (n := 2) (Nat.le_of_ble_eq_true rfl)
  rw [lg_entry_eq]
  generalize (lg_sl ([.ref (h 1), .int x1]) ++ List.replicate (2 - (lg_sl ([.ref (h 1), .int x1])).length) Slot.unset).toArray = ls at hl ⊢
  have hl : lv_has ls 2 [(0, .ref (h 1)), (1, .int x1)] := hl
  refine lv_aload_n hx hb dX1_mayBeTaken_0 rfl (lv_at hl 0 rfl) ?_
  refine va_get (D := (dC, dI)) (C := RX1) (T := TX1) (N := 9) (v := .ref (h 12)) hx hb hts (fi_X1 _) hown hK hP 1 (cw_at1 _ _ _) rfl 4 (by decide) (hts _ (List.mem_cons_of_mem _ wd_24)) (fun _ h9 => h9) rfl dX1_mayBeTaken_1 ?_
  refine lv_iload_n hx hb dX1_mayBeTaken_4 rfl (lv_at hl 1 rfl) ?_
  refine va_zald (f := k_open u) hx hb hK hP 12 1 (cw_at12 _ _ _) rfl (vp_in_iff.mpr (by omega)) dX1_mayBeTaken_5 ?_
  refine lv_if_eq (tgt := 31) hx hb dX1_mayBeTaken_6 (by decide) (fun c_1 => ?_) (fun c_1 => ?_)
  · skip
    have t_2 : (k_open u x1.toNatClampNeg).toInt = 0 := i_eq c_1 rfl (by decide)
    refine lv_iconst (v := 0) hx hb dX1_mayBeTaken_31 (by decide) ?_
    exact W.zret (v := 0) hx hb hr rfl (fun t ht hW => ⟨0, rfl, (by unfold fX1_mayBeTaken; rw [if_pos c_1]), ht⟩) (fun _ h => nomatch h) dX1_mayBeTaken_32
  · skip
    have t_3 : (k_open u x1.toNatClampNeg).toInt ≠ 0 := i_ne c_1 rfl (by decide)
    refine lv_aload_n hx hb dX1_mayBeTaken_9 rfl (lv_at hl 0 rfl) ?_
    refine va_get (D := (dC, dI)) (C := RX1) (T := TX1) (N := 9) (v := .ref (h 13)) hx hb hts (fi_X1 _) hown hK hP 1 (cw_at1 _ _ _) rfl 5 (by decide) (hts _ (List.mem_cons_of_mem _ wd_19)) (fun _ h9 => h9) rfl dX1_mayBeTaken_10 ?_
    refine lv_iload_n hx hb dX1_mayBeTaken_13 rfl (lv_at hl 1 rfl) ?_
    refine va_iald (f := k_reas u) hx hb hK hP 13 0 (cw_at13 _ _ _) rfl (vp_in_iff.mpr (by omega)) dX1_mayBeTaken_14 ?_
    refine lv_if_ne (tgt := 31) hx hb dX1_mayBeTaken_15 (by decide) (fun c_4 => ?_) (fun c_4 => ?_)
    · skip
      have t_5 : (k_reas u x1.toNatClampNeg).toInt ≠ 0 := i_ne c_4 rfl (by decide)
      refine lv_iconst (v := 0) hx hb dX1_mayBeTaken_31 (by decide) ?_
      exact W.zret (v := 0) hx hb hr rfl (fun t ht hW => ⟨0, rfl, (by unfold fX1_mayBeTaken; rw [if_neg c_1, if_neg c_4]), ht⟩) (fun _ h => nomatch h) dX1_mayBeTaken_32
    · skip
      have t_6 : (k_reas u x1.toNatClampNeg).toInt = 0 := i_eq c_4 rfl (by decide)
      refine lv_aload_n hx hb dX1_mayBeTaken_18 rfl (lv_at hl 0 rfl) ?_
      refine va_get (D := (dC, dI)) (C := RX1) (T := TX1) (N := 9) (v := .ref (h 14)) hx hb hts (fi_X1 _) hown hK hP 1 (cw_at1 _ _ _) rfl 6 (by decide) (hts _ (List.mem_cons_of_mem _ wd_20)) (fun _ h9 => h9) rfl dX1_mayBeTaken_19 ?_
      refine lv_iload_n hx hb dX1_mayBeTaken_22 rfl (lv_at hl 1 rfl) ?_
      refine va_zald (f := k_quar u) hx hb hK hP 14 1 (cw_at14 _ _ _) rfl (vp_in_iff.mpr (by omega)) dX1_mayBeTaken_23 ?_
      refine lv_if_ne (tgt := 31) hx hb dX1_mayBeTaken_24 (by decide) (fun c_7 => ?_) (fun c_7 => ?_)
      · skip
        have t_8 : (k_quar u x1.toNatClampNeg).toInt ≠ 0 := i_ne c_7 rfl (by decide)
        refine lv_iconst (v := 0) hx hb dX1_mayBeTaken_31 (by decide) ?_
        exact W.zret (v := 0) hx hb hr rfl (fun t ht hW => ⟨0, rfl, (by unfold fX1_mayBeTaken; rw [if_neg c_1, if_pos c_4, if_neg c_7]), ht⟩) (fun _ h => nomatch h) dX1_mayBeTaken_32
      · skip
        have t_9 : (k_quar u x1.toNatClampNeg).toInt = 0 := i_eq c_7 rfl (by decide)
        refine lv_iconst (v := 1) hx hb dX1_mayBeTaken_27 (by decide) ?_
        refine lv_goto (tgt := 32) hx hb dX1_mayBeTaken_28 (by decide) ?_
        exact W.zret (v := 1) hx hb hr rfl (fun t ht hW => ⟨1, rfl, (by unfold fX1_mayBeTaken; rw [if_neg c_1, if_pos c_4, if_pos c_7]), ht⟩) (fun _ h => nomatch h) dX1_mayBeTaken_32
set_option maxHeartbeats 4000000 in
set_option maxRecDepth 100000 in
theorem kX1_mayBeTakenFor (l : Launch) (dC : Nat → ClassId) (dI : Nat → Nat → Nat) (g : cG) (h : Nat → Nat) (u : cS) (x1 : Int32) (x2 : Int32) (x3 : Int32) (h1 : 0 ≤ x1.toInt ∧ x1.toInt ≤ 40) : Met l yX1_mayBeTakenFor wsX1_mayBeTakenFor ({ frames := 1, cells := 0, slots := 0, locals := 21 }) (va_Pc [.ref (h 1), .int x1, .int x2, .int x3] (fun U => va_P (dC, dI) vwCl (cw g h u) U.heap ∧ va_K (dC, dI) vwCl (cTys g) U)) (vp_Si (fun r => r = fX1_mayBeTakenFor u x1 x2 x3)) 0 0 (fun _ => False) := by
  refine Met.ofW (cc := cX1_mayBeTakenFor) (maxL := 4) (ret := (some .boolean)) (by decide) rfl ?_
  intro p e s m args below meth c s₁ B hml hv
  obtain ⟨rfl, hP, hK⟩ := hv
  have hx := B.exec
  have hb := B.bytes
  have hr := B.returns
  have hts := atoms_spec (ws := wsX1_mayBeTakenFor) B.pre
  have hown : s.vm.findClass RX1 = some m.cls := findClass_of_methodNamed B.named
  have hlocks := B.notSynchronized
  have hS : va_S (fun _ => False) s.heap s.heap [] := va_S.rf
  have hl := lv_entry ([.ref (h 1), .int x1, .int x2, .int x3]) (n := 4) (Nat.le_of_ble_eq_true rfl)
  rw [lg_entry_eq]
  generalize (lg_sl ([.ref (h 1), .int x1, .int x2, .int x3]) ++ List.replicate (4 - (lg_sl ([.ref (h 1), .int x1, .int x2, .int x3])).length) Slot.unset).toArray = ls at hl ⊢
  have hl : lv_has ls 4 [(0, .ref (h 1)), (1, .int x1), (2, .int x2), (3, .int x3)] := hl
  refine lv_aload_n hx hb dX1_mayBeTakenFor_0 rfl (lv_at hl 0 rfl) ?_
  refine va_get (D := (dC, dI)) (C := RX1) (T := TX1) (N := 9) (v := .ref (h 8)) hx hb hts (fi_X1 _) hown hK hP 1 (cw_at1 _ _ _) rfl 0 (by decide) (hts _ (List.mem_cons_of_mem _ wd_16)) (fun _ h9 => h9) rfl dX1_mayBeTakenFor_1 ?_
  refine lv_iload_n hx hb dX1_mayBeTakenFor_4 rfl (lv_at hl 1 rfl) ?_
  refine va_iald (f := k_goods u) hx hb hK hP 8 0 (cw_at8 _ _ _) rfl (vp_in_iff.mpr (by omega)) dX1_mayBeTakenFor_5 ?_
  refine lv_iload_n hx hb dX1_mayBeTakenFor_6 rfl (lv_at hl 2 rfl) ?_
  refine lv_icmp_ne (tgt := 32) hx hb dX1_mayBeTakenFor_7 (by decide) (fun c_1 => ?_) (fun c_1 => ?_)
  · skip
    have t_2 : (k_goods u x1.toNatClampNeg).toInt ≠ x2.toInt := i_ne c_1 rfl rfl
    refine lv_iconst (v := 0) hx hb dX1_mayBeTakenFor_32 (by decide) ?_
    exact W.zret (v := 0) hx hb hr rfl (fun t ht hW => ⟨0, rfl, (by unfold fX1_mayBeTakenFor; rw [if_neg c_1]), ht⟩) (fun _ h => nomatch h) dX1_mayBeTakenFor_33
  · skip
    have t_3 : (k_goods u x1.toNatClampNeg).toInt = x2.toInt := i_eq c_1 rfl rfl
    refine lv_aload_n hx hb dX1_mayBeTakenFor_10 rfl (lv_at hl 0 rfl) ?_
    refine va_get (D := (dC, dI)) (C := RX1) (T := TX1) (N := 9) (v := .ref (h 9)) hx hb hts (fi_X1 _) hown hK hP 1 (cw_at1 _ _ _) rfl 1 (by decide) (hts _ (List.mem_cons_of_mem _ wd_17)) (fun _ h9 => h9) rfl dX1_mayBeTakenFor_11 ?_
    refine lv_iload_n hx hb dX1_mayBeTakenFor_14 rfl (lv_at hl 1 rfl) ?_
    refine va_iald (f := k_owners u) hx hb hK hP 9 0 (cw_at9 _ _ _) rfl (vp_in_iff.mpr (by omega)) dX1_mayBeTakenFor_15 ?_
    refine lv_iload_n hx hb dX1_mayBeTakenFor_16 rfl (lv_at hl 3 rfl) ?_
    refine lv_icmp_ne (tgt := 32) hx hb dX1_mayBeTakenFor_17 (by decide) (fun c_4 => ?_) (fun c_4 => ?_)
    · skip
      have t_5 : (k_owners u x1.toNatClampNeg).toInt ≠ x3.toInt := i_ne c_4 rfl rfl
      refine lv_iconst (v := 0) hx hb dX1_mayBeTakenFor_32 (by decide) ?_
      exact W.zret (v := 0) hx hb hr rfl (fun t ht hW => ⟨0, rfl, (by unfold fX1_mayBeTakenFor; rw [if_pos c_1, if_neg c_4]), ht⟩) (fun _ h => nomatch h) dX1_mayBeTakenFor_33
    · skip
      have t_6 : (k_owners u x1.toNatClampNeg).toInt = x3.toInt := i_eq c_4 rfl rfl
      refine lv_aload_n hx hb dX1_mayBeTakenFor_20 rfl (lv_at hl 0 rfl) ?_
      refine lv_iload_n hx hb dX1_mayBeTakenFor_21 rfl (lv_at hl 1 rfl) ?_
      refine vp_callSi (W.runV (As := [.int x1]) (rest := []) ⟨hx, hb, hml, hown, hts⟩ (kX1_mayBeTaken l dC dI g h u x1 (by omega)) (cwV 1 hts (gV wd_25 wd_26 wd_27 wd_28 wcX1_mayBeTaken) rfl rfl rfl (by decide +kernel) ⟨(Nat.le_of_ble_eq_true rfl), (Nat.le_of_ble_eq_true rfl)⟩) ⟨fun a U g mk q => by obtain ⟨q0, qP, qK⟩ := q; exact ⟨q0, qP, va_K.moved (u := U) (U := U.calling g mk a) (Vm.Alike.refl U.vm) qK⟩, va_recv hK hP (ci := 0) (q0 := 1) rfl (cw_at1 _ _ _), fun U hU hW => ⟨rfl, by rw [hU]; exact hP, va_K.moved hW.alike hK⟩⟩ rfl rfl hl.1 rfl (lv_room (Nat.le_of_ble_eq_true rfl)) dX1_mayBeTakenFor_22 ⟨(Nat.le_of_ble_eq_true rfl), (Nat.le_of_ble_eq_true rfl)⟩) (fun r_7 hw => ?_)
      subst hw
      refine lv_if_eq (tgt := 32) hx hb dX1_mayBeTakenFor_25 (by decide) (fun c_8 => ?_) (fun c_8 => ?_)
      · skip
        have t_9 : (fX1_mayBeTaken u x1).toInt = 0 := i_eq c_8 rfl (by decide)
        refine lv_iconst (v := 0) hx hb dX1_mayBeTakenFor_32 (by decide) ?_
        exact W.zret (v := 0) hx hb hr rfl (fun t ht hW => ⟨0, rfl, (by unfold fX1_mayBeTakenFor; rw [if_pos c_1, if_pos c_4, if_pos c_8]), ht⟩) (fun _ h => nomatch h) dX1_mayBeTakenFor_33
      · skip
        have t_10 : (fX1_mayBeTaken u x1).toInt ≠ 0 := i_ne c_8 rfl (by decide)
        refine lv_iconst (v := 1) hx hb dX1_mayBeTakenFor_28 (by decide) ?_
        refine lv_goto (tgt := 33) hx hb dX1_mayBeTakenFor_29 (by decide) ?_
        exact W.zret (v := 1) hx hb hr rfl (fun t ht hW => ⟨1, rfl, (by unfold fX1_mayBeTakenFor; rw [if_pos c_1, if_pos c_4, if_neg c_8]), ht⟩) (fun _ h => nomatch h) dX1_mayBeTakenFor_33
set_option maxHeartbeats 4000000 in
set_option maxRecDepth 100000 in
theorem kX1_arrivedBefore (l : Launch) (dC : Nat → ClassId) (dI : Nat → Nat → Nat) (g : cG) (h : Nat → Nat) (u : cS) (x1 : Int32) (x2 : Int32) (h1 : 0 ≤ x1.toInt ∧ x1.toInt ≤ 40) (h2 : 0 ≤ x2.toInt ∧ x2.toInt ≤ 40) : Met l yX1_arrivedBefore wsX1_arrivedBefore ({ frames := 0, cells := 0, slots := 0, locals := 0 }) (va_Pc [.ref (h 1), .int x1, .int x2] (fun U => va_P (dC, dI) vwCl (cw g h u) U.heap ∧ va_K (dC, dI) vwCl (cTys g) U)) (vp_Si (fun r => r = fX1_arrivedBefore u x1 x2)) 0 0 (fun _ => False) := by
  refine Met.ofW (cc := cX1_arrivedBefore) (maxL := 3) (ret := (some .boolean)) (by decide) rfl ?_
  intro p e s m args below meth c s₁ B hml hv
  obtain ⟨rfl, hP, hK⟩ := hv
  have hx := B.exec
  have hb := B.bytes
  have hr := B.returns
  have hts := atoms_spec (ws := wsX1_arrivedBefore) B.pre
  have hown : s.vm.findClass RX1 = some m.cls := findClass_of_methodNamed B.named
  have hlocks := B.notSynchronized
  have hS : va_S (fun _ => False) s.heap s.heap [] := va_S.rf
  have hl := lv_entry ([.ref (h 1), .int x1, .int x2]) (n := 3) (Nat.le_of_ble_eq_true rfl)
  rw [lg_entry_eq]
  generalize (lg_sl ([.ref (h 1), .int x1, .int x2]) ++ List.replicate (3 - (lg_sl ([.ref (h 1), .int x1, .int x2])).length) Slot.unset).toArray = ls at hl ⊢
  have hl : lv_has ls 3 [(0, .ref (h 1)), (1, .int x1), (2, .int x2)] := hl
  refine lv_aload_n hx hb dX1_arrivedBefore_0 rfl (lv_at hl 0 rfl) ?_
  refine va_get (D := (dC, dI)) (C := RX1) (T := TX1) (N := 9) (v := .ref (h 11)) hx hb hts (fi_X1 _) hown hK hP 1 (cw_at1 _ _ _) rfl 3 (by decide) (hts _ (List.mem_cons_of_mem _ wd_30)) (fun _ h9 => h9) rfl dX1_arrivedBefore_1 ?_
  refine lv_iload_n hx hb dX1_arrivedBefore_4 rfl (lv_at hl 1 rfl) ?_
  refine va_iald (f := k_arr u) hx hb hK hP 11 0 (cw_at11 _ _ _) rfl (vp_in_iff.mpr (by omega)) dX1_arrivedBefore_5 ?_
  refine lv_aload_n hx hb dX1_arrivedBefore_6 rfl (lv_at hl 0 rfl) ?_
  refine va_get (D := (dC, dI)) (C := RX1) (T := TX1) (N := 9) (v := .ref (h 11)) hx hb hts (fi_X1 _) hown hK hP 1 (cw_at1 _ _ _) rfl 3 (by decide) (hts _ (List.mem_cons_of_mem _ wd_30)) (fun _ h9 => h9) rfl dX1_arrivedBefore_7 ?_
  refine lv_iload_n hx hb dX1_arrivedBefore_10 rfl (lv_at hl 2 rfl) ?_
  refine va_iald (f := k_arr u) hx hb hK hP 11 0 (cw_at11 _ _ _) rfl (vp_in_iff.mpr (by omega)) dX1_arrivedBefore_11 ?_
  refine lv_icmp_eq (tgt := 36) hx hb dX1_arrivedBefore_12 (by decide) (fun c_1 => ?_) (fun c_1 => ?_)
  · skip
    have t_2 : (k_arr u x1.toNatClampNeg).toInt = (k_arr u x2.toNatClampNeg).toInt := i_eq c_1 rfl rfl
    refine lv_iload_n hx hb dX1_arrivedBefore_36 rfl (lv_at hl 1 rfl) ?_
    refine lv_iload_n hx hb dX1_arrivedBefore_37 rfl (lv_at hl 2 rfl) ?_
    refine lv_icmp_ge (tgt := 45) hx hb dX1_arrivedBefore_38 (by decide) (fun c_3 => ?_) (fun c_3 => ?_)
    · skip
      have t_4 : x2.toInt ≤ x1.toInt := i_le c_3 rfl rfl
      refine lv_iconst (v := 0) hx hb dX1_arrivedBefore_45 (by decide) ?_
      exact W.zret (v := 0) hx hb hr rfl (fun t ht hW => ⟨0, rfl, (by unfold fX1_arrivedBefore; rw [if_pos c_1, if_pos c_3]), ht⟩) (fun _ h => nomatch h) dX1_arrivedBefore_46
    · skip
      have t_5 : x1.toInt < x2.toInt := i_nle c_3 rfl rfl
      refine lv_iconst (v := 1) hx hb dX1_arrivedBefore_41 (by decide) ?_
      refine lv_goto (tgt := 46) hx hb dX1_arrivedBefore_42 (by decide) ?_
      exact W.zret (v := 1) hx hb hr rfl (fun t ht hW => ⟨1, rfl, (by unfold fX1_arrivedBefore; rw [if_pos c_1, if_neg c_3]), ht⟩) (fun _ h => nomatch h) dX1_arrivedBefore_46
  · skip
    have t_6 : (k_arr u x1.toNatClampNeg).toInt ≠ (k_arr u x2.toNatClampNeg).toInt := i_ne c_1 rfl rfl
    refine lv_aload_n hx hb dX1_arrivedBefore_15 rfl (lv_at hl 0 rfl) ?_
    refine va_get (D := (dC, dI)) (C := RX1) (T := TX1) (N := 9) (v := .ref (h 11)) hx hb hts (fi_X1 _) hown hK hP 1 (cw_at1 _ _ _) rfl 3 (by decide) (hts _ (List.mem_cons_of_mem _ wd_30)) (fun _ h9 => h9) rfl dX1_arrivedBefore_16 ?_
    refine lv_iload_n hx hb dX1_arrivedBefore_19 rfl (lv_at hl 1 rfl) ?_
    refine va_iald (f := k_arr u) hx hb hK hP 11 0 (cw_at11 _ _ _) rfl (vp_in_iff.mpr (by omega)) dX1_arrivedBefore_20 ?_
    refine lv_aload_n hx hb dX1_arrivedBefore_21 rfl (lv_at hl 0 rfl) ?_
    refine va_get (D := (dC, dI)) (C := RX1) (T := TX1) (N := 9) (v := .ref (h 11)) hx hb hts (fi_X1 _) hown hK hP 1 (cw_at1 _ _ _) rfl 3 (by decide) (hts _ (List.mem_cons_of_mem _ wd_30)) (fun _ h9 => h9) rfl dX1_arrivedBefore_22 ?_
    refine lv_iload_n hx hb dX1_arrivedBefore_25 rfl (lv_at hl 2 rfl) ?_
    refine va_iald (f := k_arr u) hx hb hK hP 11 0 (cw_at11 _ _ _) rfl (vp_in_iff.mpr (by omega)) dX1_arrivedBefore_26 ?_
    refine lv_icmp_ge (tgt := 34) hx hb dX1_arrivedBefore_27 (by decide) (fun c_7 => ?_) (fun c_7 => ?_)
    · skip
      have t_8 : (k_arr u x2.toNatClampNeg).toInt ≤ (k_arr u x1.toNatClampNeg).toInt := i_le c_7 rfl rfl
      refine lv_iconst (v := 0) hx hb dX1_arrivedBefore_34 (by decide) ?_
      exact W.zret (v := 0) hx hb hr rfl (fun t ht hW => ⟨0, rfl, (by unfold fX1_arrivedBefore; rw [if_neg c_1, if_pos c_7]), ht⟩) (fun _ h => nomatch h) dX1_arrivedBefore_35
    · skip
      have t_9 : (k_arr u x1.toNatClampNeg).toInt < (k_arr u x2.toNatClampNeg).toInt := i_nle c_7 rfl rfl
      refine lv_iconst (v := 1) hx hb dX1_arrivedBefore_30 (by decide) ?_
      refine lv_goto (tgt := 35) hx hb dX1_arrivedBefore_31 (by decide) ?_
      exact W.zret (v := 1) hx hb hr rfl (fun t ht hW => ⟨1, rfl, (by unfold fX1_arrivedBefore; rw [if_neg c_1, if_neg c_7]), ht⟩) (fun _ h => nomatch h) dX1_arrivedBefore_35
set_option maxHeartbeats 4000000 in
set_option maxRecDepth 100000 in
theorem kX1_comesBefore (l : Launch) (dC : Nat → ClassId) (dI : Nat → Nat → Nat) (g : cG) (h : Nat → Nat) (u : cS) (x1 : Int32) (x2 : Int32) (x3 : Int32) (h1 : 0 ≤ x1.toInt ∧ x1.toInt ≤ 40) (h2 : 0 ≤ x2.toInt ∧ x2.toInt ≤ 40) : Met l yX1_comesBefore wsX1_comesBefore ({ frames := 1, cells := 0, slots := 0, locals := 22 }) (va_Pc [.ref (h 1), .int x1, .int x2, .int x3] (fun U => va_P (dC, dI) vwCl (cw g h u) U.heap ∧ va_K (dC, dI) vwCl (cTys g) U)) (vp_Si (fun r => r = fX1_comesBefore u x1 x2 x3)) 0 0 (fun _ => False) := by
  refine Met.ofW (cc := cX1_comesBefore) (maxL := 4) (ret := (some .boolean)) (by decide) rfl ?_
  intro p e s m args below meth c s₁ B hml hv
  obtain ⟨rfl, hP, hK⟩ := hv
  have hx := B.exec
  have hb := B.bytes
  have hr := B.returns
  have hts := atoms_spec (ws := wsX1_comesBefore) B.pre
  have hown : s.vm.findClass RX1 = some m.cls := findClass_of_methodNamed B.named
  have hlocks := B.notSynchronized
  have hS : va_S (fun _ => False) s.heap s.heap [] := va_S.rf
  have hl := lv_entry ([.ref (h 1), .int x1, .int x2, .int x3]) (n := 4) (Nat.le_of_ble_eq_true rfl)
  rw [lg_entry_eq]
  generalize (lg_sl ([.ref (h 1), .int x1, .int x2, .int x3]) ++ List.replicate (4 - (lg_sl ([.ref (h 1), .int x1, .int x2, .int x3])).length) Slot.unset).toArray = ls at hl ⊢
  have hl : lv_has ls 4 [(0, .ref (h 1)), (1, .int x1), (2, .int x2), (3, .int x3)] := hl
  refine lv_iload_n hx hb dX1_comesBefore_0 rfl (lv_at hl 3 rfl) ?_
  refine lv_iconst (v := 2) hx hb dX1_comesBefore_1 (by decide) ?_
  refine lv_icmp_ne (tgt := 12) hx hb dX1_comesBefore_2 (by decide) (fun c_1 => ?_) (fun c_1 => ?_)
  · skip
    have t_2 : x3.toInt ≠ 2 := i_ne c_1 rfl (by decide)
    refine lv_iload_n hx hb dX1_comesBefore_12 rfl (lv_at hl 3 rfl) ?_
    refine lv_if_ne (tgt := 52) hx hb dX1_comesBefore_13 (by decide) (fun c_3 => ?_) (fun c_3 => ?_)
    · skip
      have t_4 : x3.toInt ≠ 0 := i_ne c_3 rfl (by decide)
      refine lv_aload_n hx hb dX1_comesBefore_52 rfl (lv_at hl 0 rfl) ?_
      refine lv_iload_n hx hb dX1_comesBefore_53 rfl (lv_at hl 1 rfl) ?_
      refine lv_iload_n hx hb dX1_comesBefore_54 rfl (lv_at hl 2 rfl) ?_
      refine vp_callSi (W.runV (As := [.int x1, .int x2]) (rest := []) ⟨hx, hb, hml, hown, hts⟩ (kX1_arrivedBefore l dC dI g h u x1 x2 (by omega) (by omega)) (cwV 2 hts (gV wd_31 wd_32 wd_33 wd_28 wcX1_arrivedBefore) rfl rfl rfl (by decide +kernel) ⟨(Nat.le_of_ble_eq_true rfl), (Nat.le_of_ble_eq_true rfl)⟩) ⟨fun a U g mk q => by obtain ⟨q0, qP, qK⟩ := q; exact ⟨q0, qP, va_K.moved (u := U) (U := U.calling g mk a) (Vm.Alike.refl U.vm) qK⟩, va_recv hK hP (ci := 0) (q0 := 1) rfl (cw_at1 _ _ _), fun U hU hW => ⟨rfl, by rw [hU]; exact hP, va_K.moved hW.alike hK⟩⟩ rfl rfl hl.1 rfl (lv_room (Nat.le_of_ble_eq_true rfl)) dX1_comesBefore_55 ⟨(Nat.le_of_ble_eq_true rfl), (Nat.le_of_ble_eq_true rfl)⟩) (fun r_5 hw => ?_)
      subst hw
      exact W.zret (v := fX1_arrivedBefore u x1 x2) hx hb hr (i_nar (fX1_arrivedBefore_01 _ _ _)) (fun t ht hW => ⟨(fX1_arrivedBefore u x1 x2), rfl, (by unfold fX1_comesBefore; rw [if_neg c_1, if_neg c_3]), ht⟩) (fun _ h => nomatch h) dX1_comesBefore_58
    · skip
      have t_6 : x3.toInt = 0 := i_eq c_3 rfl (by decide)
      refine lv_aload_n hx hb dX1_comesBefore_16 rfl (lv_at hl 0 rfl) ?_
      refine va_get (D := (dC, dI)) (C := RX1) (T := TX1) (N := 9) (v := .ref (h 10)) hx hb hts (fi_X1 _) hown hK hP 1 (cw_at1 _ _ _) rfl 2 (by decide) (hts _ (List.mem_cons_of_mem _ wd_18)) (fun _ h9 => h9) rfl dX1_comesBefore_17 ?_
      refine lv_iload_n hx hb dX1_comesBefore_20 rfl (lv_at hl 1 rfl) ?_
      refine va_iald (f := k_last u) hx hb hK hP 10 0 (cw_at10 _ _ _) rfl (vp_in_iff.mpr (by omega)) dX1_comesBefore_21 ?_
      refine lv_aload_n hx hb dX1_comesBefore_22 rfl (lv_at hl 0 rfl) ?_
      refine va_get (D := (dC, dI)) (C := RX1) (T := TX1) (N := 9) (v := .ref (h 10)) hx hb hts (fi_X1 _) hown hK hP 1 (cw_at1 _ _ _) rfl 2 (by decide) (hts _ (List.mem_cons_of_mem _ wd_18)) (fun _ h9 => h9) rfl dX1_comesBefore_23 ?_
      refine lv_iload_n hx hb dX1_comesBefore_26 rfl (lv_at hl 2 rfl) ?_
      refine va_iald (f := k_last u) hx hb hK hP 10 0 (cw_at10 _ _ _) rfl (vp_in_iff.mpr (by omega)) dX1_comesBefore_27 ?_
      refine lv_icmp_eq (tgt := 52) hx hb dX1_comesBefore_28 (by decide) (fun c_7 => ?_) (fun c_7 => ?_)
      · skip
        have t_8 : (k_last u x1.toNatClampNeg).toInt = (k_last u x2.toNatClampNeg).toInt := i_eq c_7 rfl rfl
        refine lv_aload_n hx hb dX1_comesBefore_52 rfl (lv_at hl 0 rfl) ?_
        refine lv_iload_n hx hb dX1_comesBefore_53 rfl (lv_at hl 1 rfl) ?_
        refine lv_iload_n hx hb dX1_comesBefore_54 rfl (lv_at hl 2 rfl) ?_
        refine vp_callSi (W.runV (As := [.int x1, .int x2]) (rest := []) ⟨hx, hb, hml, hown, hts⟩ (kX1_arrivedBefore l dC dI g h u x1 x2 (by omega) (by omega)) (cwV 2 hts (gV wd_31 wd_32 wd_33 wd_28 wcX1_arrivedBefore) rfl rfl rfl (by decide +kernel) ⟨(Nat.le_of_ble_eq_true rfl), (Nat.le_of_ble_eq_true rfl)⟩) ⟨fun a U g mk q => by obtain ⟨q0, qP, qK⟩ := q; exact ⟨q0, qP, va_K.moved (u := U) (U := U.calling g mk a) (Vm.Alike.refl U.vm) qK⟩, va_recv hK hP (ci := 0) (q0 := 1) rfl (cw_at1 _ _ _), fun U hU hW => ⟨rfl, by rw [hU]; exact hP, va_K.moved hW.alike hK⟩⟩ rfl rfl hl.1 rfl (lv_room (Nat.le_of_ble_eq_true rfl)) dX1_comesBefore_55 ⟨(Nat.le_of_ble_eq_true rfl), (Nat.le_of_ble_eq_true rfl)⟩) (fun r_9 hw => ?_)
        subst hw
        exact W.zret (v := fX1_arrivedBefore u x1 x2) hx hb hr (i_nar (fX1_arrivedBefore_01 _ _ _)) (fun t ht hW => ⟨(fX1_arrivedBefore u x1 x2), rfl, (by unfold fX1_comesBefore; rw [if_neg c_1, if_pos c_3, if_pos c_7]), ht⟩) (fun _ h => nomatch h) dX1_comesBefore_58
      · skip
        have t_10 : (k_last u x1.toNatClampNeg).toInt ≠ (k_last u x2.toNatClampNeg).toInt := i_ne c_7 rfl rfl
        refine lv_aload_n hx hb dX1_comesBefore_31 rfl (lv_at hl 0 rfl) ?_
        refine va_get (D := (dC, dI)) (C := RX1) (T := TX1) (N := 9) (v := .ref (h 10)) hx hb hts (fi_X1 _) hown hK hP 1 (cw_at1 _ _ _) rfl 2 (by decide) (hts _ (List.mem_cons_of_mem _ wd_18)) (fun _ h9 => h9) rfl dX1_comesBefore_32 ?_
        refine lv_iload_n hx hb dX1_comesBefore_35 rfl (lv_at hl 1 rfl) ?_
        refine va_iald (f := k_last u) hx hb hK hP 10 0 (cw_at10 _ _ _) rfl (vp_in_iff.mpr (by omega)) dX1_comesBefore_36 ?_
        refine lv_aload_n hx hb dX1_comesBefore_37 rfl (lv_at hl 0 rfl) ?_
        refine va_get (D := (dC, dI)) (C := RX1) (T := TX1) (N := 9) (v := .ref (h 10)) hx hb hts (fi_X1 _) hown hK hP 1 (cw_at1 _ _ _) rfl 2 (by decide) (hts _ (List.mem_cons_of_mem _ wd_18)) (fun _ h9 => h9) rfl dX1_comesBefore_38 ?_
        refine lv_iload_n hx hb dX1_comesBefore_41 rfl (lv_at hl 2 rfl) ?_
        refine va_iald (f := k_last u) hx hb hK hP 10 0 (cw_at10 _ _ _) rfl (vp_in_iff.mpr (by omega)) dX1_comesBefore_42 ?_
        refine lv_icmp_ge (tgt := 50) hx hb dX1_comesBefore_43 (by decide) (fun c_11 => ?_) (fun c_11 => ?_)
        · skip
          have t_12 : (k_last u x2.toNatClampNeg).toInt ≤ (k_last u x1.toNatClampNeg).toInt := i_le c_11 rfl rfl
          refine lv_iconst (v := 0) hx hb dX1_comesBefore_50 (by decide) ?_
          exact W.zret (v := 0) hx hb hr rfl (fun t ht hW => ⟨0, rfl, (by unfold fX1_comesBefore; rw [if_neg c_1, if_pos c_3, if_neg c_7, if_pos c_11]), ht⟩) (fun _ h => nomatch h) dX1_comesBefore_51
        · skip
          have t_13 : (k_last u x1.toNatClampNeg).toInt < (k_last u x2.toNatClampNeg).toInt := i_nle c_11 rfl rfl
          refine lv_iconst (v := 1) hx hb dX1_comesBefore_46 (by decide) ?_
          refine lv_goto (tgt := 51) hx hb dX1_comesBefore_47 (by decide) ?_
          exact W.zret (v := 1) hx hb hr rfl (fun t ht hW => ⟨1, rfl, (by unfold fX1_comesBefore; rw [if_neg c_1, if_pos c_3, if_neg c_7, if_neg c_11]), ht⟩) (fun _ h => nomatch h) dX1_comesBefore_51
  · skip
    have t_14 : x3.toInt = 2 := i_eq c_1 rfl (by decide)
    refine lv_aload_n hx hb dX1_comesBefore_5 rfl (lv_at hl 0 rfl) ?_
    refine lv_iload_n hx hb dX1_comesBefore_6 rfl (lv_at hl 2 rfl) ?_
    refine lv_iload_n hx hb dX1_comesBefore_7 rfl (lv_at hl 1 rfl) ?_
    refine vp_callSi (W.runV (As := [.int x2, .int x1]) (rest := []) ⟨hx, hb, hml, hown, hts⟩ (kX1_arrivedBefore l dC dI g h u x2 x1 (by omega) (by omega)) (cwV 2 hts (gV wd_31 wd_32 wd_33 wd_28 wcX1_arrivedBefore) rfl rfl rfl (by decide +kernel) ⟨(Nat.le_of_ble_eq_true rfl), (Nat.le_of_ble_eq_true rfl)⟩) ⟨fun a U g mk q => by obtain ⟨q0, qP, qK⟩ := q; exact ⟨q0, qP, va_K.moved (u := U) (U := U.calling g mk a) (Vm.Alike.refl U.vm) qK⟩, va_recv hK hP (ci := 0) (q0 := 1) rfl (cw_at1 _ _ _), fun U hU hW => ⟨rfl, by rw [hU]; exact hP, va_K.moved hW.alike hK⟩⟩ rfl rfl hl.1 rfl (lv_room (Nat.le_of_ble_eq_true rfl)) dX1_comesBefore_8 ⟨(Nat.le_of_ble_eq_true rfl), (Nat.le_of_ble_eq_true rfl)⟩) (fun r_15 hw => ?_)
    subst hw
    exact W.zret (v := fX1_arrivedBefore u x2 x1) hx hb hr (i_nar (fX1_arrivedBefore_01 _ _ _)) (fun t ht hW => ⟨(fX1_arrivedBefore u x2 x1), rfl, (by unfold fX1_comesBefore; rw [if_pos c_1]), ht⟩) (fun _ h => nomatch h) dX1_comesBefore_11
set_option maxHeartbeats 4000000 in
set_option maxRecDepth 100000 in
theorem kX1_rivalsBefore (l : Launch) (dC : Nat → ClassId) (dI : Nat → Nat → Nat) (g : cG) (h : Nat → Nat) (u : cS) (x1 : Int32) (x2 : Int32) (h1 : 0 ≤ x1.toInt ∧ x1.toInt ≤ 40) (hI : cInv u) : Met l yX1_rivalsBefore wsX1_rivalsBefore ({ frames := 2, cells := 0, slots := 0, locals := 45 }) (va_Pc [.ref (h 1), .int x1, .int x2] (fun U => va_P (dC, dI) vwCl (cw g h u) U.heap ∧ va_K (dC, dI) vwCl (cTys g) U)) (vp_Si (fun r => r = fX1_rivalsBefore u x1 x2)) 0 0 (fun _ => False) := by
  refine Met.ofW (cc := cX1_rivalsBefore) (maxL := 5) (ret := (some .int)) (by decide) rfl ?_
  intro p e s m args below meth c s₁ B hml hv
  obtain ⟨rfl, hP, hK⟩ := hv
  have hx := B.exec
  have hb := B.bytes
  have hr := B.returns
  have hts := atoms_spec (ws := wsX1_rivalsBefore) B.pre
  have hown : s.vm.findClass RX1 = some m.cls := findClass_of_methodNamed B.named
  have hlocks := B.notSynchronized
  have hS : va_S (fun _ => False) s.heap s.heap [] := va_S.rf
  have hl := lv_entry ([.ref (h 1), .int x1, .int x2]) (n := 5) (Nat.le_of_ble_eq_true rfl)
  rw [lg_entry_eq]
  generalize (lg_sl ([.ref (h 1), .int x1, .int x2]) ++ List.replicate (5 - (lg_sl ([.ref (h 1), .int x1, .int x2])).length) Slot.unset).toArray = ls at hl ⊢
  have hl : lv_has ls 5 [(0, .ref (h 1)), (1, .int x1), (2, .int x2)] := hl
  obtain ⟨hI1, hI2, hI3, hI4, hI5, hI6⟩ := id hI
  have z_0 : (1 : Int32).toInt = 1 := by decide
  have z_1 : (0 : Int32).toInt = 0 := by decide
  refine lv_iconst (v := 0) hx hb dX1_rivalsBefore_0 (by decide) ?_
  refine lv_istore_n (lv' := [(3, .int 0), (0, .ref (h 1)), (1, .int x1), (2, .int x2)]) hx hb dX1_rivalsBefore_1 rfl hl (by decide) rfl (fun ls hl => ?_)
  refine lv_iconst (v := 1) hx hb dX1_rivalsBefore_2 (by decide) ?_
  refine lv_istore (lv' := [(4, .int 1), (3, .int 0), (0, .ref (h 1)), (1, .int x1), (2, .int x2)]) hx hb dX1_rivalsBefore_3 hl (by decide) rfl (fun ls hl => ?_)
  refine lp_ind (W p l e _ s m _ below meth c _ _ _ _ _) (fun n ls => ∃ (i : Int32) (a : Int32), ((k_lmade u).toInt - i.toInt + 1 < (n : Int)) ∧ (1 ≤ i.toInt ∧ i.toInt ≤ 41 ∧ i.toInt ≤ (k_lmade u).toInt + 1) ∧ fX1_rivalsBefore u x1 x2 = lpX1_rivalsBefore u x1 x2 n i a ∧ lv_has ls 5 [(4, .int i), (3, .int a), (0, .ref (h 1)), (1, .int x1), (2, .int x2)]) m 5 (fun ls hI0 => ?_) (fun n ls hI0 ih => ?_) 41 _ ⟨1, 0, (by omega), (by omega), rfl, lv_sub hl [0, 1, 2, 3, 4] rfl⟩
  · skip
    obtain ⟨i, a, hn, hi, he, hl⟩ := hI0
    exact absurd hn (by omega)
  · skip
    obtain ⟨i, a, hn, hi, he, hl⟩ := hI0
    have he_3 := he
    have ih_2 := ih
    refine lv_iload hx hb dX1_rivalsBefore_5 (lv_at hl 0 rfl) ?_
    refine lv_aload_n hx hb dX1_rivalsBefore_7 rfl (lv_at hl 2 rfl) ?_
    refine va_get (D := (dC, dI)) (C := RX1) (T := TX1) (N := 9) (v := .int (k_lmade u)) hx hb hts (fi_X1 _) hown hK hP 1 (cw_at1 _ _ _) rfl 8 (by decide) (hts _ (List.mem_cons_of_mem _ wd_15)) (fun _ h9 => h9) rfl dX1_rivalsBefore_8 ?_
    refine lv_icmp_gt (tgt := 55) hx hb dX1_rivalsBefore_11 (by decide) (fun c_4 => ?_) (fun c_4 => ?_)
    · skip
      have t_5 : (k_lmade u).toInt < i.toInt := i_lt c_4 rfl rfl
      refine lv_iload_n hx hb dX1_rivalsBefore_55 rfl (lv_at hl 1 rfl) ?_
      exact W.iret (v := a) hx hb hr (fun t ht hW => ⟨a, rfl, (by rw [he_3, lpX1_rivalsBefore_eq, if_pos c_4]), ht⟩) (fun _ h => nomatch h) dX1_rivalsBefore_56
    · skip
      have t_6 : i.toInt ≤ (k_lmade u).toInt := i_nlt c_4 rfl rfl
      refine lv_aload_n hx hb dX1_rivalsBefore_14 rfl (lv_at hl 2 rfl) ?_
      refine lv_iload hx hb dX1_rivalsBefore_15 (lv_at hl 0 rfl) ?_
      refine lv_aload_n hx hb dX1_rivalsBefore_17 rfl (lv_at hl 2 rfl) ?_
      refine va_get (D := (dC, dI)) (C := RX1) (T := TX1) (N := 9) (v := .ref (h 8)) hx hb hts (fi_X1 _) hown hK hP 1 (cw_at1 _ _ _) rfl 0 (by decide) (hts _ (List.mem_cons_of_mem _ wd_16)) (fun _ h9 => h9) rfl dX1_rivalsBefore_18 ?_
      refine lv_iload_n hx hb dX1_rivalsBefore_21 rfl (lv_at hl 3 rfl) ?_
      refine va_iald (f := k_goods u) hx hb hK hP 8 0 (cw_at8 _ _ _) rfl (vp_in_iff.mpr (by omega)) dX1_rivalsBefore_22 ?_
      refine lv_aload_n hx hb dX1_rivalsBefore_23 rfl (lv_at hl 2 rfl) ?_
      refine va_get (D := (dC, dI)) (C := RX1) (T := TX1) (N := 9) (v := .ref (h 9)) hx hb hts (fi_X1 _) hown hK hP 1 (cw_at1 _ _ _) rfl 1 (by decide) (hts _ (List.mem_cons_of_mem _ wd_17)) (fun _ h9 => h9) rfl dX1_rivalsBefore_24 ?_
      refine lv_iload_n hx hb dX1_rivalsBefore_27 rfl (lv_at hl 3 rfl) ?_
      refine va_iald (f := k_owners u) hx hb hK hP 9 0 (cw_at9 _ _ _) rfl (vp_in_iff.mpr (by omega)) dX1_rivalsBefore_28 ?_
      refine vp_callSi (W.runV (As := [.int i, .int (k_goods u x1.toNatClampNeg), .int (k_owners u x1.toNatClampNeg)]) (rest := []) ⟨hx, hb, hml, hown, hts⟩ (kX1_mayBeTakenFor l dC dI g h u i (k_goods u x1.toNatClampNeg) (k_owners u x1.toNatClampNeg) (by omega)) (cwV 3 hts (gV wd_35 wd_36 wd_37 wd_28 wcX1_mayBeTakenFor) rfl rfl rfl (by decide +kernel) ⟨(Nat.le_of_ble_eq_true rfl), (Nat.le_of_ble_eq_true rfl)⟩) ⟨fun a U g mk q => by obtain ⟨q0, qP, qK⟩ := q; exact ⟨q0, qP, va_K.moved (u := U) (U := U.calling g mk a) (Vm.Alike.refl U.vm) qK⟩, va_recv hK hP (ci := 0) (q0 := 1) rfl (cw_at1 _ _ _), fun U hU hW => ⟨rfl, by rw [hU]; exact hP, va_K.moved hW.alike hK⟩⟩ rfl rfl hl.1 rfl (lv_room (Nat.le_of_ble_eq_true rfl)) dX1_rivalsBefore_29 ⟨(Nat.le_of_ble_eq_true rfl), (Nat.le_of_ble_eq_true rfl)⟩) (fun r_7 hw => ?_)
      subst hw
      refine lv_if_eq (tgt := 49) hx hb dX1_rivalsBefore_32 (by decide) (fun c_8 => ?_) (fun c_8 => ?_)
      · skip
        have t_9 : (fX1_mayBeTakenFor u i (k_goods u x1.toNatClampNeg) (k_owners u x1.toNatClampNeg)).toInt = 0 := i_eq c_8 rfl (by decide)
        refine lv_iinc (v := i + 1) (lv' := [(4, .int (i + 1)), (3, .int a), (0, .ref (h 1)), (1, .int x1), (2, .int x2)]) hx hb dX1_rivalsBefore_49 hl (k := 0) rfl rfl (by decide) rfl (fun ls hl => ?_)
        refine lv_goto (tgt := 5) hx hb dX1_rivalsBefore_52 (by decide) ?_
        have hb1 := i_inc (x := i) (by omega)
        exact ih_2 _ ⟨(i + 1), a, (by omega), (by omega), (by rw [he_3, lpX1_rivalsBefore_eq, if_neg c_4, if_pos c_8]), lv_sub hl [0, 1, 2, 3, 4] rfl⟩
      · skip
        have t_10 : (fX1_mayBeTakenFor u i (k_goods u x1.toNatClampNeg) (k_owners u x1.toNatClampNeg)).toInt ≠ 0 := i_ne c_8 rfl (by decide)
        refine lv_aload_n hx hb dX1_rivalsBefore_35 rfl (lv_at hl 2 rfl) ?_
        refine lv_iload hx hb dX1_rivalsBefore_36 (lv_at hl 0 rfl) ?_
        refine lv_iload_n hx hb dX1_rivalsBefore_38 rfl (lv_at hl 3 rfl) ?_
        refine lv_iload_n hx hb dX1_rivalsBefore_39 rfl (lv_at hl 4 rfl) ?_
        refine vp_callSi (W.runV (As := [.int i, .int x1, .int x2]) (rest := []) ⟨hx, hb, hml, hown, hts⟩ (kX1_comesBefore l dC dI g h u i x1 x2 (by omega) (by omega)) (cwV 3 hts (gV wd_39 wd_40 wd_41 wd_28 wcX1_comesBefore) rfl rfl rfl (by decide +kernel) ⟨(Nat.le_of_ble_eq_true rfl), (Nat.le_of_ble_eq_true rfl)⟩) ⟨fun a U g mk q => by obtain ⟨q0, qP, qK⟩ := q; exact ⟨q0, qP, va_K.moved (u := U) (U := U.calling g mk a) (Vm.Alike.refl U.vm) qK⟩, va_recv hK hP (ci := 0) (q0 := 1) rfl (cw_at1 _ _ _), fun U hU hW => ⟨rfl, by rw [hU]; exact hP, va_K.moved hW.alike hK⟩⟩ rfl rfl hl.1 rfl (lv_room (Nat.le_of_ble_eq_true rfl)) dX1_rivalsBefore_40 ⟨(Nat.le_of_ble_eq_true rfl), (Nat.le_of_ble_eq_true rfl)⟩) (fun r_11 hw => ?_)
        subst hw
        refine lv_if_eq (tgt := 49) hx hb dX1_rivalsBefore_43 (by decide) (fun c_12 => ?_) (fun c_12 => ?_)
        · skip
          have t_13 : (fX1_comesBefore u i x1 x2).toInt = 0 := i_eq c_12 rfl (by decide)
          refine lv_iinc (v := i + 1) (lv' := [(4, .int (i + 1)), (3, .int a), (0, .ref (h 1)), (1, .int x1), (2, .int x2)]) hx hb dX1_rivalsBefore_49 hl (k := 0) rfl rfl (by decide) rfl (fun ls hl => ?_)
          refine lv_goto (tgt := 5) hx hb dX1_rivalsBefore_52 (by decide) ?_
          have hb1 := i_inc (x := i) (by omega)
          exact ih_2 _ ⟨(i + 1), a, (by omega), (by omega), (by rw [he_3, lpX1_rivalsBefore_eq, if_neg c_4, if_neg c_8, if_pos c_12]), lv_sub hl [0, 1, 2, 3, 4] rfl⟩
        · skip
          have t_14 : (fX1_comesBefore u i x1 x2).toInt ≠ 0 := i_ne c_12 rfl (by decide)
          refine lv_iinc (v := a + 1) (lv' := [(3, .int (a + 1)), (4, .int i), (0, .ref (h 1)), (1, .int x1), (2, .int x2)]) hx hb dX1_rivalsBefore_46 hl (k := 1) rfl rfl (by decide) rfl (fun ls hl => ?_)
          refine lv_iinc (v := i + 1) (lv' := [(4, .int (i + 1)), (3, .int (a + 1)), (0, .ref (h 1)), (1, .int x1), (2, .int x2)]) hx hb dX1_rivalsBefore_49 hl (k := 1) rfl rfl (by decide) rfl (fun ls hl => ?_)
          refine lv_goto (tgt := 5) hx hb dX1_rivalsBefore_52 (by decide) ?_
          have hb1 := i_inc (x := i) (by omega)
          exact ih_2 _ ⟨(i + 1), (a + 1), (by omega), (by omega), (by rw [he_3, lpX1_rivalsBefore_eq, if_neg c_4, if_neg c_8, if_neg c_12]), lv_sub hl [0, 1, 2, 3, 4] rfl⟩
set_option maxHeartbeats 4000000 in
set_option maxRecDepth 100000 in
theorem kX3_haveRoom (l : Launch) (dC : Nat → ClassId) (dI : Nat → Nat → Nat) (g : cG) (h : Nat → Nat) (u : cS) : Met l yX3_haveRoom wsX3_haveRoom ({ frames := 0, cells := 0, slots := 0, locals := 0 }) (va_Pc [.ref (h 2)] (fun U => va_P (dC, dI) vwCl (cw g h u) U.heap ∧ va_K (dC, dI) vwCl (cTys g) U)) (vp_Si (fun r => r = fX3_haveRoom u)) 0 0 (fun _ => False) := by
  refine Met.ofW (cc := cX3_haveRoom) (maxL := 1) (ret := (some .boolean)) (by decide) rfl ?_
  intro p e s m args below meth c s₁ B hml hv
  obtain ⟨rfl, hP, hK⟩ := hv
  have hx := B.exec
  have hb := B.bytes
  have hr := B.returns
  have hts := atoms_spec (ws := wsX3_haveRoom) B.pre
  have hown : s.vm.findClass RX3 = some m.cls := findClass_of_methodNamed B.named
  have hlocks := B.notSynchronized
  have hS : va_S (fun _ => False) s.heap s.heap [] := va_S.rf
  have hl := lv_entry ([.ref (h 2)]) (n := 1) (Nat.le_of_ble_eq_true rfl)
  rw [lg_entry_eq]
  generalize (lg_sl ([.ref (h 2)]) ++ List.replicate (1 - (lg_sl ([.ref (h 2)])).length) Slot.unset).toArray = ls at hl ⊢
  have hl : lv_has ls 1 [(0, .ref (h 2))] := hl
  refine lv_aload_n hx hb dX3_haveRoom_0 rfl (lv_at hl 0 rfl) ?_
  refine va_get (D := (dC, dI)) (C := RX3) (T := TX3) (N := 7) (v := .int (k_umade u)) hx hb hts (fi_X3 _) hown hK hP 2 (cw_at2 _ _ _) rfl 5 (by decide) (hts _ (List.mem_cons_of_mem _ wd_43)) (fun _ h9 => h9) rfl dX3_haveRoom_1 ?_
  refine lv_bipush (v := 120) hx hb dX3_haveRoom_4 (by decide) ?_
  refine lv_icmp_ge (tgt := 13) hx hb dX3_haveRoom_6 (by decide) (fun c_1 => ?_) (fun c_1 => ?_)
  · skip
    have t_2 : 120 ≤ (k_umade u).toInt := i_le c_1 (by decide) rfl
    refine lv_iconst (v := 0) hx hb dX3_haveRoom_13 (by decide) ?_
    exact W.zret (v := 0) hx hb hr rfl (fun t ht hW => ⟨0, rfl, (by unfold fX3_haveRoom; rw [if_pos c_1]), ht⟩) (fun _ h => nomatch h) dX3_haveRoom_14
  · skip
    have t_3 : (k_umade u).toInt < 120 := i_nle c_1 (by decide) rfl
    refine lv_iconst (v := 1) hx hb dX3_haveRoom_9 (by decide) ?_
    refine lv_goto (tgt := 14) hx hb dX3_haveRoom_10 (by decide) ?_
    exact W.zret (v := 1) hx hb hr rfl (fun t ht hW => ⟨1, rfl, (by unfold fX3_haveRoom; rw [if_neg c_1]), ht⟩) (fun _ h => nomatch h) dX3_haveRoom_14
set_option maxHeartbeats 4000000 in
set_option maxRecDepth 100000 in
theorem kX3_isGone (l : Launch) (dC : Nat → ClassId) (dI : Nat → Nat → Nat) (g : cG) (h : Nat → Nat) (u : cS) (x1 : Int32) (h1 : 0 ≤ x1.toInt ∧ x1.toInt ≤ 120) : Met l yX3_isGone wsX3_isGone ({ frames := 0, cells := 0, slots := 0, locals := 0 }) (va_Pc [.ref (h 2), .int x1] (fun U => va_P (dC, dI) vwCl (cw g h u) U.heap ∧ va_K (dC, dI) vwCl (cTys g) U)) (vp_Si (fun r => r = fX3_isGone u x1)) 0 0 (fun _ => False) := by
  refine Met.ofW (cc := cX3_isGone) (maxL := 2) (ret := (some .boolean)) (by decide) rfl ?_
  intro p e s m args below meth c s₁ B hml hv
  obtain ⟨rfl, hP, hK⟩ := hv
  have hx := B.exec
  have hb := B.bytes
  have hr := B.returns
  have hts := atoms_spec (ws := wsX3_isGone) B.pre
  have hown : s.vm.findClass RX3 = some m.cls := findClass_of_methodNamed B.named
  have hlocks := B.notSynchronized
  have hS : va_S (fun _ => False) s.heap s.heap [] := va_S.rf
  have hl := lv_entry ([.ref (h 2), .int x1]) (n := 2) (Nat.le_of_ble_eq_true rfl)
  rw [lg_entry_eq]
  generalize (lg_sl ([.ref (h 2), .int x1]) ++ List.replicate (2 - (lg_sl ([.ref (h 2), .int x1])).length) Slot.unset).toArray = ls at hl ⊢
  have hl : lv_has ls 2 [(0, .ref (h 2)), (1, .int x1)] := hl
  refine lv_aload_n hx hb dX3_isGone_0 rfl (lv_at hl 0 rfl) ?_
  refine va_get (D := (dC, dI)) (C := RX3) (T := TX3) (N := 7) (v := .ref (h 18)) hx hb hts (fi_X3 _) hown hK hP 2 (cw_at2 _ _ _) rfl 2 (by decide) (hts _ (List.mem_cons_of_mem _ wd_44)) (fun _ h9 => h9) rfl dX3_isGone_1 ?_
  refine lv_iload_n hx hb dX3_isGone_4 rfl (lv_at hl 1 rfl) ?_
  refine va_iald (f := k_ucust u) hx hb hK hP 18 0 (cw_at18 _ _ _) rfl (vp_in_iff.mpr (by omega)) dX3_isGone_5 ?_
  refine lv_iconst (v := (-1)) hx hb dX3_isGone_6 (by decide) ?_
  refine lv_icmp_eq (tgt := 14) hx hb dX3_isGone_7 (by decide) (fun c_1 => ?_) (fun c_1 => ?_)
  · skip
    have t_2 : (k_ucust u x1.toNatClampNeg).toInt = -1 := i_eq c_1 rfl (by decide)
    refine lv_iconst (v := 0) hx hb dX3_isGone_14 (by decide) ?_
    exact W.zret (v := 0) hx hb hr rfl (fun t ht hW => ⟨0, rfl, (by unfold fX3_isGone; rw [if_pos c_1]), ht⟩) (fun _ h => nomatch h) dX3_isGone_15
  · skip
    have t_3 : (k_ucust u x1.toNatClampNeg).toInt ≠ -1 := i_ne c_1 rfl (by decide)
    refine lv_iconst (v := 1) hx hb dX3_isGone_10 (by decide) ?_
    refine lv_goto (tgt := 15) hx hb dX3_isGone_11 (by decide) ?_
    exact W.zret (v := 1) hx hb hr rfl (fun t ht hW => ⟨1, rfl, (by unfold fX3_isGone; rw [if_neg c_1]), ht⟩) (fun _ h => nomatch h) dX3_isGone_15
set_option maxHeartbeats 4000000 in
set_option maxRecDepth 100000 in
theorem kX3_leftOf (l : Launch) (dC : Nat → ClassId) (dI : Nat → Nat → Nat) (g : cG) (h : Nat → Nat) (u : cS) (x1 : Int32) (hI : cInv u) : Met l yX3_leftOf wsX3_leftOf ({ frames := 1, cells := 0, slots := 0, locals := 21 }) (va_Pc [.ref (h 2), .int x1] (fun U => va_P (dC, dI) vwCl (cw g h u) U.heap ∧ va_K (dC, dI) vwCl (cTys g) U)) (vp_Si (fun r => r = fX3_leftOf u x1)) 0 0 (fun _ => False) := by
  refine Met.ofW (cc := cX3_leftOf) (maxL := 4) (ret := (some .int)) (by decide) rfl ?_
  intro p e s m args below meth c s₁ B hml hv
  obtain ⟨rfl, hP, hK⟩ := hv
  have hx := B.exec
  have hb := B.bytes
  have hr := B.returns
  have hts := atoms_spec (ws := wsX3_leftOf) B.pre
  have hown : s.vm.findClass RX3 = some m.cls := findClass_of_methodNamed B.named
  have hlocks := B.notSynchronized
  have hS : va_S (fun _ => False) s.heap s.heap [] := va_S.rf
  have hl := lv_entry ([.ref (h 2), .int x1]) (n := 4) (Nat.le_of_ble_eq_true rfl)
  rw [lg_entry_eq]
  generalize (lg_sl ([.ref (h 2), .int x1]) ++ List.replicate (4 - (lg_sl ([.ref (h 2), .int x1])).length) Slot.unset).toArray = ls at hl ⊢
  have hl : lv_has ls 4 [(0, .ref (h 2)), (1, .int x1)] := hl
  obtain ⟨hI1, hI2, hI3, hI4, hI5, hI6⟩ := id hI
  have z_0 : (1 : Int32).toInt = 1 := by decide
  have z_1 : (0 : Int32).toInt = 0 := by decide
  refine lv_iconst (v := 0) hx hb dX3_leftOf_0 (by decide) ?_
  refine lv_istore_n (lv' := [(2, .int 0), (0, .ref (h 2)), (1, .int x1)]) hx hb dX3_leftOf_1 rfl hl (by decide) rfl (fun ls hl => ?_)
  refine lv_iconst (v := 1) hx hb dX3_leftOf_2 (by decide) ?_
  refine lv_istore_n (lv' := [(3, .int 1), (2, .int 0), (0, .ref (h 2)), (1, .int x1)]) hx hb dX3_leftOf_3 rfl hl (by decide) rfl (fun ls hl => ?_)
  refine lp_ind (W p l e _ s m _ below meth c _ _ _ _ _) (fun n ls => ∃ (i : Int32) (a : Int32), ((k_umade u).toInt - i.toInt + 1 < (n : Int)) ∧ (1 ≤ i.toInt ∧ i.toInt ≤ 121 ∧ i.toInt ≤ (k_umade u).toInt + 1) ∧ fX3_leftOf u x1 = lpX3_leftOf u x1 n i a ∧ lv_has ls 4 [(3, .int i), (2, .int a), (0, .ref (h 2)), (1, .int x1)]) m 4 (fun ls hI0 => ?_) (fun n ls hI0 ih => ?_) 121 _ ⟨1, 0, (by omega), (by omega), rfl, lv_sub hl [0, 1, 2, 3] rfl⟩
  · skip
    obtain ⟨i, a, hn, hi, he, hl⟩ := hI0
    exact absurd hn (by omega)
  · skip
    obtain ⟨i, a, hn, hi, he, hl⟩ := hI0
    have he_3 := he
    have ih_2 := ih
    refine lv_iload_n hx hb dX3_leftOf_4 rfl (lv_at hl 0 rfl) ?_
    refine lv_aload_n hx hb dX3_leftOf_5 rfl (lv_at hl 2 rfl) ?_
    refine va_get (D := (dC, dI)) (C := RX3) (T := TX3) (N := 7) (v := .int (k_umade u)) hx hb hts (fi_X3 _) hown hK hP 2 (cw_at2 _ _ _) rfl 5 (by decide) (hts _ (List.mem_cons_of_mem _ wd_43)) (fun _ h9 => h9) rfl dX3_leftOf_6 ?_
    refine lv_icmp_gt (tgt := 39) hx hb dX3_leftOf_9 (by decide) (fun c_4 => ?_) (fun c_4 => ?_)
    · skip
      have t_5 : (k_umade u).toInt < i.toInt := i_lt c_4 rfl rfl
      refine lv_iload_n hx hb dX3_leftOf_39 rfl (lv_at hl 1 rfl) ?_
      exact W.iret (v := a) hx hb hr (fun t ht hW => ⟨a, rfl, (by rw [he_3, lpX3_leftOf_eq, if_pos c_4]), ht⟩) (fun _ h => nomatch h) dX3_leftOf_40
    · skip
      have t_6 : i.toInt ≤ (k_umade u).toInt := i_nlt c_4 rfl rfl
      refine lv_aload_n hx hb dX3_leftOf_12 rfl (lv_at hl 2 rfl) ?_
      refine va_get (D := (dC, dI)) (C := RX3) (T := TX3) (N := 7) (v := .ref (h 16)) hx hb hts (fi_X3 _) hown hK hP 2 (cw_at2 _ _ _) rfl 0 (by decide) (hts _ (List.mem_cons_of_mem _ wd_45)) (fun _ h9 => h9) rfl dX3_leftOf_13 ?_
      refine lv_iload_n hx hb dX3_leftOf_16 rfl (lv_at hl 0 rfl) ?_
      refine va_iald (f := k_ulot u) hx hb hK hP 16 0 (cw_at16 _ _ _) rfl (vp_in_iff.mpr (by omega)) dX3_leftOf_17 ?_
      refine lv_iload_n hx hb dX3_leftOf_18 rfl (lv_at hl 3 rfl) ?_
      refine lv_icmp_ne (tgt := 33) hx hb dX3_leftOf_19 (by decide) (fun c_7 => ?_) (fun c_7 => ?_)
      · skip
        have t_8 : (k_ulot u i.toNatClampNeg).toInt ≠ x1.toInt := i_ne c_7 rfl rfl
        refine lv_iinc (v := i + 1) (lv' := [(3, .int (i + 1)), (2, .int a), (0, .ref (h 2)), (1, .int x1)]) hx hb dX3_leftOf_33 hl (k := 0) rfl rfl (by decide) rfl (fun ls hl => ?_)
        refine lv_goto (tgt := 4) hx hb dX3_leftOf_36 (by decide) ?_
        have hb1 := i_inc (x := i) (by omega)
        exact ih_2 _ ⟨(i + 1), a, (by omega), (by omega), (by rw [he_3, lpX3_leftOf_eq, if_neg c_4, if_neg c_7]), lv_sub hl [0, 1, 2, 3] rfl⟩
      · skip
        have t_9 : (k_ulot u i.toNatClampNeg).toInt = x1.toInt := i_eq c_7 rfl rfl
        refine lv_aload_n hx hb dX3_leftOf_22 rfl (lv_at hl 2 rfl) ?_
        refine lv_iload_n hx hb dX3_leftOf_23 rfl (lv_at hl 0 rfl) ?_
        refine vp_callSi (W.runV (As := [.int i]) (rest := []) ⟨hx, hb, hml, hown, hts⟩ (kX3_isGone l dC dI g h u i (by omega)) (cwV 1 hts (gV wd_46 wd_47 wd_48 wd_49 wcX3_isGone) rfl rfl rfl (by decide +kernel) ⟨(Nat.le_of_ble_eq_true rfl), (Nat.le_of_ble_eq_true rfl)⟩) ⟨fun a U g mk q => by obtain ⟨q0, qP, qK⟩ := q; exact ⟨q0, qP, va_K.moved (u := U) (U := U.calling g mk a) (Vm.Alike.refl U.vm) qK⟩, va_recv hK hP (ci := 2) (q0 := 2) rfl (cw_at2 _ _ _), fun U hU hW => ⟨rfl, by rw [hU]; exact hP, va_K.moved hW.alike hK⟩⟩ rfl rfl hl.1 rfl (lv_room (Nat.le_of_ble_eq_true rfl)) dX3_leftOf_24 ⟨(Nat.le_of_ble_eq_true rfl), (Nat.le_of_ble_eq_true rfl)⟩) (fun r_10 hw => ?_)
        subst hw
        refine lv_if_ne (tgt := 33) hx hb dX3_leftOf_27 (by decide) (fun c_11 => ?_) (fun c_11 => ?_)
        · skip
          have t_12 : (fX3_isGone u i).toInt ≠ 0 := i_ne c_11 rfl (by decide)
          refine lv_iinc (v := i + 1) (lv' := [(3, .int (i + 1)), (2, .int a), (0, .ref (h 2)), (1, .int x1)]) hx hb dX3_leftOf_33 hl (k := 0) rfl rfl (by decide) rfl (fun ls hl => ?_)
          refine lv_goto (tgt := 4) hx hb dX3_leftOf_36 (by decide) ?_
          have hb1 := i_inc (x := i) (by omega)
          exact ih_2 _ ⟨(i + 1), a, (by omega), (by omega), (by rw [he_3, lpX3_leftOf_eq, if_neg c_4, if_pos c_7, if_neg c_11]), lv_sub hl [0, 1, 2, 3] rfl⟩
        · skip
          have t_13 : (fX3_isGone u i).toInt = 0 := i_eq c_11 rfl (by decide)
          refine lv_iinc (v := a + 1) (lv' := [(2, .int (a + 1)), (3, .int i), (0, .ref (h 2)), (1, .int x1)]) hx hb dX3_leftOf_30 hl (k := 1) rfl rfl (by decide) rfl (fun ls hl => ?_)
          refine lv_iinc (v := i + 1) (lv' := [(3, .int (i + 1)), (2, .int (a + 1)), (0, .ref (h 2)), (1, .int x1)]) hx hb dX3_leftOf_33 hl (k := 1) rfl rfl (by decide) rfl (fun ls hl => ?_)
          refine lv_goto (tgt := 4) hx hb dX3_leftOf_36 (by decide) ?_
          have hb1 := i_inc (x := i) (by omega)
          exact ih_2 _ ⟨(i + 1), (a + 1), (by omega), (by omega), (by rw [he_3, lpX3_leftOf_eq, if_neg c_4, if_pos c_7, if_pos c_11]), lv_sub hl [0, 1, 2, 3] rfl⟩
set_option maxHeartbeats 4000000 in
set_option maxRecDepth 100000 in
theorem kX3_everOfFamily (l : Launch) (dC : Nat → ClassId) (dI : Nat → Nat → Nat) (g : cG) (h : Nat → Nat) (u : cS) (x1 : Int64) (x3 : Int32) (hI : cInv u) : Met l yX3_everOfFamily wsX3_everOfFamily ({ frames := 0, cells := 0, slots := 0, locals := 0 }) (va_Pc [.ref (h 2), .long x1, .int x3] (fun U => va_P (dC, dI) vwCl (cw g h u) U.heap ∧ va_K (dC, dI) vwCl (cTys g) U)) (vp_Si (fun r => r = fX3_everOfFamily u x1 x3)) 0 0 (fun _ => False) := by
  refine Met.ofW (cc := cX3_everOfFamily) (maxL := 6) (ret := (some .int)) (by decide) rfl ?_
  intro p e s m args below meth c s₁ B hml hv
  obtain ⟨rfl, hP, hK⟩ := hv
  have hx := B.exec
  have hb := B.bytes
  have hr := B.returns
  have hts := atoms_spec (ws := wsX3_everOfFamily) B.pre
  have hown : s.vm.findClass RX3 = some m.cls := findClass_of_methodNamed B.named
  have hlocks := B.notSynchronized
  have hS : va_S (fun _ => False) s.heap s.heap [] := va_S.rf
  have hl := lv_entry ([.ref (h 2), .long x1, .int x3]) (n := 6) (Nat.le_of_ble_eq_true rfl)
  rw [lg_entry_eq]
  generalize (lg_sl ([.ref (h 2), .long x1, .int x3]) ++ List.replicate (6 - (lg_sl ([.ref (h 2), .long x1, .int x3])).length) Slot.unset).toArray = ls at hl ⊢
  have hl : lv_has ls 6 [(0, .ref (h 2)), (1, .long x1), (3, .int x3)] := hl
  obtain ⟨hI1, hI2, hI3, hI4, hI5, hI6⟩ := id hI
  have z_0 : (1 : Int32).toInt = 1 := by decide
  have z_1 : (0 : Int32).toInt = 0 := by decide
  refine lv_iconst (v := 0) hx hb dX3_everOfFamily_0 (by decide) ?_
  refine lv_istore (lv' := [(4, .int 0), (0, .ref (h 2)), (1, .long x1), (3, .int x3)]) hx hb dX3_everOfFamily_1 hl (by decide) rfl (fun ls hl => ?_)
  refine lv_iconst (v := 1) hx hb dX3_everOfFamily_3 (by decide) ?_
  refine lv_istore (lv' := [(5, .int 1), (4, .int 0), (0, .ref (h 2)), (1, .long x1), (3, .int x3)]) hx hb dX3_everOfFamily_4 hl (by decide) rfl (fun ls hl => ?_)
  refine lp_ind (W p l e _ s m _ below meth c _ _ _ _ _) (fun n ls => ∃ (i : Int32) (a : Int32), ((k_umade u).toInt - i.toInt + 1 < (n : Int)) ∧ (1 ≤ i.toInt ∧ i.toInt ≤ 121 ∧ i.toInt ≤ (k_umade u).toInt + 1) ∧ fX3_everOfFamily u x1 x3 = lpX3_everOfFamily u x1 x3 n i a ∧ lv_has ls 6 [(5, .int i), (4, .int a), (0, .ref (h 2)), (1, .long x1), (3, .int x3)]) m 6 (fun ls hI0 => ?_) (fun n ls hI0 ih => ?_) 121 _ ⟨1, 0, (by omega), (by omega), rfl, lv_sub hl [0, 1, 2, 3, 4] rfl⟩
  · skip
    obtain ⟨i, a, hn, hi, he, hl⟩ := hI0
    exact absurd hn (by omega)
  · skip
    obtain ⟨i, a, hn, hi, he, hl⟩ := hI0
    have he_3 := he
    have ih_2 := ih
    refine lv_iload hx hb dX3_everOfFamily_6 (lv_at hl 0 rfl) ?_
    refine lv_aload_n hx hb dX3_everOfFamily_8 rfl (lv_at hl 2 rfl) ?_
    refine va_get (D := (dC, dI)) (C := RX3) (T := TX3) (N := 7) (v := .int (k_umade u)) hx hb hts (fi_X3 _) hown hK hP 2 (cw_at2 _ _ _) rfl 5 (by decide) (hts _ (List.mem_cons_of_mem _ wd_43)) (fun _ h9 => h9) rfl dX3_everOfFamily_9 ?_
    refine lv_icmp_gt (tgt := 49) hx hb dX3_everOfFamily_12 (by decide) (fun c_4 => ?_) (fun c_4 => ?_)
    · skip
      have t_5 : (k_umade u).toInt < i.toInt := i_lt c_4 rfl rfl
      refine lv_iconst (v := (-1)) hx hb dX3_everOfFamily_49 (by decide) ?_
      exact W.iret (v := (-1)) hx hb hr (fun t ht hW => ⟨(-1), rfl, (by rw [he_3, lpX3_everOfFamily_eq, if_pos c_4]), ht⟩) (fun _ h => nomatch h) dX3_everOfFamily_50
    · skip
      have t_6 : i.toInt ≤ (k_umade u).toInt := i_nlt c_4 rfl rfl
      refine lv_lload_n hx hb dX3_everOfFamily_15 rfl (lv_at hl 3 rfl) ?_
      refine lv_lconst (v := 1) hx hb dX3_everOfFamily_16 (by decide) ?_
      refine lv_aload_n hx hb dX3_everOfFamily_17 rfl (lv_at hl 2 rfl) ?_
      refine va_get (D := (dC, dI)) (C := RX3) (T := TX3) (N := 7) (v := .ref (h 20)) hx hb hts (fi_X3 _) hown hK hP 2 (cw_at2 _ _ _) rfl 4 (by decide) (hts _ (List.mem_cons_of_mem _ wd_51)) (fun _ h9 => h9) rfl dX3_everOfFamily_18 ?_
      refine lv_iload hx hb dX3_everOfFamily_21 (lv_at hl 0 rfl) ?_
      refine va_iald (f := k_ufirst u) hx hb hK hP 20 0 (cw_at20 _ _ _) rfl (vp_in_iff.mpr (by omega)) dX3_everOfFamily_23 ?_
      refine lv_lshl (v := (1 : Int64) <<< ((k_ufirst u i.toNatClampNeg).toInt64 &&& 63)) hx hb dX3_everOfFamily_24 rfl ?_
      refine lv_land hx hb dX3_everOfFamily_25 ?_
      refine lv_lconst (v := 0) hx hb dX3_everOfFamily_26 (by decide) ?_
      refine W.lcmp hx hb dX3_everOfFamily_27 ?_
      refine lv_if_eq (tgt := 43) hx hb dX3_everOfFamily_28 (by decide) (fun c_7 => ?_) (fun c_7 => ?_)
      · skip
        have t_8 : (lg_cmp (x1 &&& ((1 : Int64) <<< ((k_ufirst u i.toNatClampNeg).toInt64 &&& 63))) 0).toInt = 0 := i_eq c_7 rfl (by decide)
        refine lv_iinc (v := i + 1) (lv' := [(5, .int (i + 1)), (4, .int a), (0, .ref (h 2)), (1, .long x1), (3, .int x3)]) hx hb dX3_everOfFamily_43 hl (k := 0) rfl rfl (by decide) rfl (fun ls hl => ?_)
        refine lv_goto (tgt := 6) hx hb dX3_everOfFamily_46 (by decide) ?_
        have hb1 := i_inc (x := i) (by omega)
        exact ih_2 _ ⟨(i + 1), a, (by omega), (by omega), (by rw [he_3, lpX3_everOfFamily_eq, if_neg c_4, if_pos c_7]), lv_sub hl [0, 1, 2, 3, 4] rfl⟩
      · skip
        have t_9 : (lg_cmp (x1 &&& ((1 : Int64) <<< ((k_ufirst u i.toNatClampNeg).toInt64 &&& 63))) 0).toInt ≠ 0 := i_ne c_7 rfl (by decide)
        refine lv_iload hx hb dX3_everOfFamily_31 (lv_at hl 1 rfl) ?_
        refine lv_iload_n hx hb dX3_everOfFamily_33 rfl (lv_at hl 4 rfl) ?_
        refine lv_icmp_ne (tgt := 40) hx hb dX3_everOfFamily_34 (by decide) (fun c_10 => ?_) (fun c_10 => ?_)
        · skip
          have t_11 : a.toInt ≠ x3.toInt := i_ne c_10 rfl rfl
          refine lv_iinc (v := a + 1) (lv' := [(4, .int (a + 1)), (5, .int i), (0, .ref (h 2)), (1, .long x1), (3, .int x3)]) hx hb dX3_everOfFamily_40 hl (k := 1) rfl rfl (by decide) rfl (fun ls hl => ?_)
          refine lv_iinc (v := i + 1) (lv' := [(5, .int (i + 1)), (4, .int (a + 1)), (0, .ref (h 2)), (1, .long x1), (3, .int x3)]) hx hb dX3_everOfFamily_43 hl (k := 1) rfl rfl (by decide) rfl (fun ls hl => ?_)
          refine lv_goto (tgt := 6) hx hb dX3_everOfFamily_46 (by decide) ?_
          have hb1 := i_inc (x := i) (by omega)
          exact ih_2 _ ⟨(i + 1), (a + 1), (by omega), (by omega), (by rw [he_3, lpX3_everOfFamily_eq, if_neg c_4, if_neg c_7, if_neg c_10]), lv_sub hl [0, 1, 2, 3, 4] rfl⟩
        · skip
          have t_12 : a.toInt = x3.toInt := i_eq c_10 rfl rfl
          refine lv_iload hx hb dX3_everOfFamily_37 (lv_at hl 0 rfl) ?_
          exact W.iret (v := i) hx hb hr (fun t ht hW => ⟨i, rfl, (by rw [he_3, lpX3_everOfFamily_eq, if_neg c_4, if_neg c_7, if_pos c_10]), ht⟩) (fun _ h => nomatch h) dX3_everOfFamily_39
set_option maxHeartbeats 4000000 in
set_option maxRecDepth 100000 in
theorem kX2_haveRoomFor (l : Launch) (dC : Nat → ClassId) (dI : Nat → Nat → Nat) (g : cG) (h : Nat → Nat) (u : cS) (x1 : Int32) : Met l yX2_haveRoomFor wsX2_haveRoomFor ({ frames := 0, cells := 0, slots := 0, locals := 0 }) (va_Pc [.ref (h 3), .int x1] (fun U => va_P (dC, dI) vwCl (cw g h u) U.heap ∧ va_K (dC, dI) vwCl (cTys g) U)) (vp_Si (fun r => r = fX2_haveRoomFor u x1)) 0 0 (fun _ => False) := by
  refine Met.ofW (cc := cX2_haveRoomFor) (maxL := 2) (ret := (some .boolean)) (by decide) rfl ?_
  intro p e s m args below meth c s₁ B hml hv
  obtain ⟨rfl, hP, hK⟩ := hv
  have hx := B.exec
  have hb := B.bytes
  have hr := B.returns
  have hts := atoms_spec (ws := wsX2_haveRoomFor) B.pre
  have hown : s.vm.findClass RX2 = some m.cls := findClass_of_methodNamed B.named
  have hlocks := B.notSynchronized
  have hS : va_S (fun _ => False) s.heap s.heap [] := va_S.rf
  have hl := lv_entry ([.ref (h 3), .int x1]) (n := 2) (Nat.le_of_ble_eq_true rfl)
  rw [lg_entry_eq]
  generalize (lg_sl ([.ref (h 3), .int x1]) ++ List.replicate (2 - (lg_sl ([.ref (h 3), .int x1])).length) Slot.unset).toArray = ls at hl ⊢
  have hl : lv_has ls 2 [(0, .ref (h 3)), (1, .int x1)] := hl
  refine lv_aload_n hx hb dX2_haveRoomFor_0 rfl (lv_at hl 0 rfl) ?_
  refine va_get (D := (dC, dI)) (C := RX2) (T := TX2) (N := 4) (v := .int (k_rwrit u)) hx hb hts (fi_X2 _) hown hK hP 3 (cw_at3 _ _ _) rfl 3 (by decide) (hts _ (List.mem_cons_of_mem _ wd_52)) (fun _ h9 => h9) rfl dX2_haveRoomFor_1 ?_
  refine lv_iload_n hx hb dX2_haveRoomFor_4 rfl (lv_at hl 1 rfl) ?_
  refine lv_iadd hx hb dX2_haveRoomFor_5 ?_
  refine lv_sipush (v := 400) hx hb dX2_haveRoomFor_6 (by decide) ?_
  refine lv_icmp_gt (tgt := 16) hx hb dX2_haveRoomFor_9 (by decide) (fun c_1 => ?_) (fun c_1 => ?_)
  · skip
    have t_2 : 400 < ((k_rwrit u) + x1).toInt := i_lt c_1 (by decide) rfl
    refine lv_iconst (v := 0) hx hb dX2_haveRoomFor_16 (by decide) ?_
    exact W.zret (v := 0) hx hb hr rfl (fun t ht hW => ⟨0, rfl, (by unfold fX2_haveRoomFor; rw [if_pos c_1]), ht⟩) (fun _ h => nomatch h) dX2_haveRoomFor_17
  · skip
    have t_3 : ((k_rwrit u) + x1).toInt ≤ 400 := i_nlt c_1 (by decide) rfl
    refine lv_iconst (v := 1) hx hb dX2_haveRoomFor_12 (by decide) ?_
    refine lv_goto (tgt := 17) hx hb dX2_haveRoomFor_13 (by decide) ?_
    exact W.zret (v := 1) hx hb hr rfl (fun t ht hW => ⟨1, rfl, (by unfold fX2_haveRoomFor; rw [if_neg c_1]), ht⟩) (fun _ h => nomatch h) dX2_haveRoomFor_17
set_option maxHeartbeats 4000000 in
set_option maxRecDepth 100000 in
theorem kX2_find (l : Launch) (dC : Nat → ClassId) (dI : Nat → Nat → Nat) (g : cG) (h : Nat → Nat) (u : cS) (x1 : Int32) (x2 : Int32) (hI : cInv u) : Met l yX2_find wsX2_find ({ frames := 0, cells := 0, slots := 0, locals := 0 }) (va_Pc [.ref (h 3), .int x1, .int x2] (fun U => va_P (dC, dI) vwCl (cw g h u) U.heap ∧ va_K (dC, dI) vwCl (cTys g) U)) (vp_Si (fun r => r = fX2_find u x1 x2)) 0 0 (fun _ => False) := by
  refine Met.ofW (cc := cX2_find) (maxL := 5) (ret := (some .int)) (by decide) rfl ?_
  intro p e s m args below meth c s₁ B hml hv
  obtain ⟨rfl, hP, hK⟩ := hv
  have hx := B.exec
  have hb := B.bytes
  have hr := B.returns
  have hts := atoms_spec (ws := wsX2_find) B.pre
  have hown : s.vm.findClass RX2 = some m.cls := findClass_of_methodNamed B.named
  have hlocks := B.notSynchronized
  have hS : va_S (fun _ => False) s.heap s.heap [] := va_S.rf
  have hl := lv_entry ([.ref (h 3), .int x1, .int x2]) (n := 5) (Nat.le_of_ble_eq_true rfl)
  rw [lg_entry_eq]
  generalize (lg_sl ([.ref (h 3), .int x1, .int x2]) ++ List.replicate (5 - (lg_sl ([.ref (h 3), .int x1, .int x2])).length) Slot.unset).toArray = ls at hl ⊢
  have hl : lv_has ls 5 [(0, .ref (h 3)), (1, .int x1), (2, .int x2)] := hl
  obtain ⟨hI1, hI2, hI3, hI4, hI5, hI6⟩ := id hI
  have z_0 : (0 : Int32).toInt = 0 := by decide
  refine lv_iconst (v := 0) hx hb dX2_find_0 (by decide) ?_
  refine lv_istore_n (lv' := [(3, .int 0), (0, .ref (h 3)), (1, .int x1), (2, .int x2)]) hx hb dX2_find_1 rfl hl (by decide) rfl (fun ls hl => ?_)
  refine lv_iconst (v := 0) hx hb dX2_find_2 (by decide) ?_
  refine lv_istore (lv' := [(4, .int 0), (3, .int 0), (0, .ref (h 3)), (1, .int x1), (2, .int x2)]) hx hb dX2_find_3 hl (by decide) rfl (fun ls hl => ?_)
  refine lp_ind (W p l e _ s m _ below meth c _ _ _ _ _) (fun n ls => ∃ (i : Int32) (a : Int32), ((k_rwrit u).toInt - i.toInt < (n : Int)) ∧ (0 ≤ i.toInt ∧ i.toInt ≤ 400 ∧ i.toInt ≤ (k_rwrit u).toInt) ∧ fX2_find u x1 x2 = lpX2_find u x1 x2 n i a ∧ lv_has ls 5 [(4, .int i), (3, .int a), (0, .ref (h 3)), (1, .int x1), (2, .int x2)]) m 5 (fun ls hI0 => ?_) (fun n ls hI0 ih => ?_) 401 _ ⟨0, 0, (by omega), (by omega), rfl, lv_sub hl [0, 1, 2, 3, 4] rfl⟩
  · skip
    obtain ⟨i, a, hn, hi, he, hl⟩ := hI0
    exact absurd hn (by omega)
  · skip
    obtain ⟨i, a, hn, hi, he, hl⟩ := hI0
    have he_3 := he
    have ih_2 := ih
    refine lv_iload hx hb dX2_find_5 (lv_at hl 0 rfl) ?_
    refine lv_aload_n hx hb dX2_find_7 rfl (lv_at hl 2 rfl) ?_
    refine va_get (D := (dC, dI)) (C := RX2) (T := TX2) (N := 4) (v := .int (k_rwrit u)) hx hb hts (fi_X2 _) hown hK hP 3 (cw_at3 _ _ _) rfl 3 (by decide) (hts _ (List.mem_cons_of_mem _ wd_52)) (fun _ h9 => h9) rfl dX2_find_8 ?_
    refine lv_icmp_ge (tgt := 42) hx hb dX2_find_11 (by decide) (fun c_4 => ?_) (fun c_4 => ?_)
    · skip
      have t_5 : (k_rwrit u).toInt ≤ i.toInt := i_le c_4 rfl rfl
      refine lv_iconst (v := (-1)) hx hb dX2_find_42 (by decide) ?_
      exact W.iret (v := (-1)) hx hb hr (fun t ht hW => ⟨(-1), rfl, (by rw [he_3, lpX2_find_eq, if_pos c_4]), ht⟩) (fun _ h => nomatch h) dX2_find_43
    · skip
      have t_6 : i.toInt < (k_rwrit u).toInt := i_nle c_4 rfl rfl
      refine lv_aload_n hx hb dX2_find_14 rfl (lv_at hl 2 rfl) ?_
      refine va_get (D := (dC, dI)) (C := RX2) (T := TX2) (N := 4) (v := .ref (h 21)) hx hb hts (fi_X2 _) hown hK hP 3 (cw_at3 _ _ _) rfl 0 (by decide) (hts _ (List.mem_cons_of_mem _ wd_53)) (fun _ h9 => h9) rfl dX2_find_15 ?_
      refine lv_iload hx hb dX2_find_18 (lv_at hl 0 rfl) ?_
      refine va_iald (f := k_rlot u) hx hb hK hP 21 0 (cw_at21 _ _ _) rfl (vp_in_iff.mpr (by omega)) dX2_find_20 ?_
      refine lv_iload_n hx hb dX2_find_21 rfl (lv_at hl 3 rfl) ?_
      refine lv_icmp_ne (tgt := 36) hx hb dX2_find_22 (by decide) (fun c_7 => ?_) (fun c_7 => ?_)
      · skip
        have t_8 : (k_rlot u i.toNatClampNeg).toInt ≠ x1.toInt := i_ne c_7 rfl rfl
        refine lv_iinc (v := i + 1) (lv' := [(4, .int (i + 1)), (3, .int a), (0, .ref (h 3)), (1, .int x1), (2, .int x2)]) hx hb dX2_find_36 hl (k := 0) rfl rfl (by decide) rfl (fun ls hl => ?_)
        refine lv_goto (tgt := 5) hx hb dX2_find_39 (by decide) ?_
        have hb1 := i_inc (x := i) (by omega)
        exact ih_2 _ ⟨(i + 1), a, (by omega), (by omega), (by rw [he_3, lpX2_find_eq, if_neg c_4, if_neg c_7]), lv_sub hl [0, 1, 2, 3, 4] rfl⟩
      · skip
        have t_9 : (k_rlot u i.toNatClampNeg).toInt = x1.toInt := i_eq c_7 rfl rfl
        refine lv_iload_n hx hb dX2_find_25 rfl (lv_at hl 1 rfl) ?_
        refine lv_iload_n hx hb dX2_find_26 rfl (lv_at hl 4 rfl) ?_
        refine lv_icmp_ne (tgt := 33) hx hb dX2_find_27 (by decide) (fun c_10 => ?_) (fun c_10 => ?_)
        · skip
          have t_11 : a.toInt ≠ x2.toInt := i_ne c_10 rfl rfl
          refine lv_iinc (v := a + 1) (lv' := [(3, .int (a + 1)), (4, .int i), (0, .ref (h 3)), (1, .int x1), (2, .int x2)]) hx hb dX2_find_33 hl (k := 1) rfl rfl (by decide) rfl (fun ls hl => ?_)
          refine lv_iinc (v := i + 1) (lv' := [(4, .int (i + 1)), (3, .int (a + 1)), (0, .ref (h 3)), (1, .int x1), (2, .int x2)]) hx hb dX2_find_36 hl (k := 1) rfl rfl (by decide) rfl (fun ls hl => ?_)
          refine lv_goto (tgt := 5) hx hb dX2_find_39 (by decide) ?_
          have hb1 := i_inc (x := i) (by omega)
          exact ih_2 _ ⟨(i + 1), (a + 1), (by omega), (by omega), (by rw [he_3, lpX2_find_eq, if_neg c_4, if_pos c_7, if_neg c_10]), lv_sub hl [0, 1, 2, 3, 4] rfl⟩
        · skip
          have t_12 : a.toInt = x2.toInt := i_eq c_10 rfl rfl
          refine lv_iload hx hb dX2_find_30 (lv_at hl 0 rfl) ?_
          exact W.iret (v := i) hx hb hr (fun t ht hW => ⟨i, rfl, (by rw [he_3, lpX2_find_eq, if_neg c_4, if_pos c_7, if_pos c_10]), ht⟩) (fun _ h => nomatch h) dX2_find_32
set_option maxHeartbeats 4000000 in
set_option maxRecDepth 100000 in
theorem kX1_familyOf (l : Launch) (dC : Nat → ClassId) (dI : Nat → Nat → Nat) (g : cG) (h : Nat → Nat) (u : cS) (x1 : Int32) (hI : cInv u) : Met l yX1_familyOf wsX1_familyOf ({ frames := 0, cells := 0, slots := 0, locals := 0 }) (va_Pc [.ref (h 1), .int x1] (fun U => va_P (dC, dI) vwCl (cw g h u) U.heap ∧ va_K (dC, dI) vwCl (cTys g) U)) (vp_Sl (fun r => r = fX1_familyOf u x1)) 0 0 (fun _ => False) := by
  refine Met.ofW (cc := cX1_familyOf) (maxL := 6) (ret := (some .long)) (by decide) rfl ?_
  intro p e s m args below meth c s₁ B hml hv
  obtain ⟨rfl, hP, hK⟩ := hv
  have hx := B.exec
  have hb := B.bytes
  have hr := B.returns
  have hts := atoms_spec (ws := wsX1_familyOf) B.pre
  have hown : s.vm.findClass RX1 = some m.cls := findClass_of_methodNamed B.named
  have hlocks := B.notSynchronized
  have hS : va_S (fun _ => False) s.heap s.heap [] := va_S.rf
  have hl := lv_entry ([.ref (h 1), .int x1]) (n := 6) (Nat.le_of_ble_eq_true rfl)
  rw [lg_entry_eq]
  generalize (lg_sl ([.ref (h 1), .int x1]) ++ List.replicate (6 - (lg_sl ([.ref (h 1), .int x1])).length) Slot.unset).toArray = ls at hl ⊢
  have hl : lv_has ls 6 [(0, .ref (h 1)), (1, .int x1)] := hl
  obtain ⟨hI1, hI2, hI3, hI4, hI5, hI6⟩ := id hI
  have z_0 : (1 : Int32).toInt = 1 := by decide
  refine lv_lconst (v := 1) hx hb dX1_familyOf_0 (by decide) ?_
  refine lv_iload_n hx hb dX1_familyOf_1 rfl (lv_at hl 1 rfl) ?_
  refine lv_lshl (v := (1 : Int64) <<< (x1.toInt64 &&& 63)) hx hb dX1_familyOf_2 rfl ?_
  refine lv_lstore_n (lv' := [(2, .long ((1 : Int64) <<< (x1.toInt64 &&& 63))), (0, .ref (h 1)), (1, .int x1)]) hx hb dX1_familyOf_3 rfl hl (by decide) rfl (fun ls hl => ?_)
  refine lv_iconst (v := 1) hx hb dX1_familyOf_4 (by decide) ?_
  refine lv_istore (lv' := [(4, .int 1), (2, .long ((1 : Int64) <<< (x1.toInt64 &&& 63))), (0, .ref (h 1)), (1, .int x1)]) hx hb dX1_familyOf_5 hl (by decide) rfl (fun ls hl => ?_)
  refine lp_ind (W p l e _ s m _ below meth c _ _ _ _ _) (fun n ls => ∃ (i : Int32) (f : Int64), ((k_lmade u).toInt - i.toInt + 1 < (n : Int)) ∧ (1 ≤ i.toInt ∧ i.toInt ≤ 41 ∧ i.toInt ≤ (k_lmade u).toInt + 1) ∧ fX1_familyOf u x1 = loX1_familyOf u x1 n i f ∧ lv_has ls 6 [(4, .int i), (2, .long f), (0, .ref (h 1)), (1, .int x1)]) m 7 (fun ls hI0 => ?_) (fun n ls hI0 ih => ?_) 41 _ ⟨1, ((1 : Int64) <<< (x1.toInt64 &&& 63)), (by omega), (by omega), rfl, lv_sub hl [0, 1, 2, 3] rfl⟩
  · skip
    obtain ⟨i, f, hn, hi, he, hl⟩ := hI0
    exact absurd hn (by omega)
  · skip
    obtain ⟨i, f, hn, hi, he, hl⟩ := hI0
    have he_3 := he
    have ih_2 := ih
    refine lv_iload hx hb dX1_familyOf_7 (lv_at hl 0 rfl) ?_
    refine lv_aload_n hx hb dX1_familyOf_9 rfl (lv_at hl 2 rfl) ?_
    refine va_get (D := (dC, dI)) (C := RX1) (T := TX1) (N := 9) (v := .int (k_lmade u)) hx hb hts (fi_X1 _) hown hK hP 1 (cw_at1 _ _ _) rfl 8 (by decide) (hts _ (List.mem_cons_of_mem _ wd_15)) (fun _ h9 => h9) rfl dX1_familyOf_10 ?_
    refine lv_icmp_gt (tgt := 61) hx hb dX1_familyOf_13 (by decide) (fun c_4 => ?_) (fun c_4 => ?_)
    · skip
      have t_5 : (k_lmade u).toInt < i.toInt := i_lt c_4 rfl rfl
      refine lv_lload_n hx hb dX1_familyOf_61 rfl (lv_at hl 1 rfl) ?_
      exact W.lret (v := f) hx hb hr (fun t ht hW => ⟨f, rfl, (by rw [he_3, loX1_familyOf_eq, if_pos c_4]), ht⟩) (fun _ h => nomatch h) dX1_familyOf_62
    · skip
      have t_6 : i.toInt ≤ (k_lmade u).toInt := i_nlt c_4 rfl rfl
      refine lv_iconst (v := 1) hx hb dX1_familyOf_16 (by decide) ?_
      refine lv_istore (lv' := [(5, .int 1), (4, .int i), (2, .long f), (0, .ref (h 1)), (1, .int x1)]) hx hb dX1_familyOf_17 hl (by decide) rfl (fun ls hl => ?_)
      refine lp_ind (W p l e _ s m _ below meth c _ _ _ _ _) (fun n2 ls => ∃ (k : Int32) (f : Int64), ((k_lmade u).toInt - k.toInt + 1 < (n2 : Int)) ∧ (1 ≤ k.toInt ∧ k.toInt ≤ 41 ∧ k.toInt ≤ (k_lmade u).toInt + 1) ∧ fX1_familyOf u x1 = loX1_familyOf u x1 n (i + 1) (liX1_familyOf u n2 k f) ∧ lv_has ls 6 [(5, .int k), (2, .long f), (0, .ref (h 1)), (1, .int x1), (4, .int i)]) m 19 (fun ls hI0 => ?_) (fun n2 ls hI0 ih => ?_) 41 _ ⟨1, f, (by omega), (by omega), (by rw [he_3, loX1_familyOf_eq, if_neg c_4]), lv_sub hl [0, 2, 3, 4, 1] rfl⟩
      · skip
        obtain ⟨k, f, hn2, hk, he, hl⟩ := hI0
        exact absurd hn2 (by omega)
      · skip
        obtain ⟨k, f, hn2, hk, he, hl⟩ := hI0
        have he_9 := he
        have ih_8 := ih
        refine lv_iload hx hb dX1_familyOf_19 (lv_at hl 0 rfl) ?_
        refine lv_aload_n hx hb dX1_familyOf_21 rfl (lv_at hl 2 rfl) ?_
        refine va_get (D := (dC, dI)) (C := RX1) (T := TX1) (N := 9) (v := .int (k_lmade u)) hx hb hts (fi_X1 _) hown hK hP 1 (cw_at1 _ _ _) rfl 8 (by decide) (hts _ (List.mem_cons_of_mem _ wd_15)) (fun _ h9 => h9) rfl dX1_familyOf_22 ?_
        refine lv_icmp_gt (tgt := 55) hx hb dX1_familyOf_25 (by decide) (fun c_10 => ?_) (fun c_10 => ?_)
        · skip
          have t_11 : (k_lmade u).toInt < k.toInt := i_lt c_10 rfl rfl
          have he_12 : fX1_familyOf u x1 = loX1_familyOf u x1 n (i + 1) f := (by rw [he_9, liX1_familyOf_eq, if_pos c_10])
          refine lv_iinc (v := i + 1) (lv' := [(4, .int (i + 1)), (5, .int k), (2, .long f), (0, .ref (h 1)), (1, .int x1)]) hx hb dX1_familyOf_55 hl (k := 4) rfl rfl (by decide) rfl (fun ls hl => ?_)
          refine lv_goto (tgt := 7) hx hb dX1_familyOf_58 (by decide) ?_
          have hb1 := i_inc (x := i) (by omega)
          exact ih_2 _ ⟨(i + 1), f, (by omega), (by omega), (by rw [he_12]), lv_sub hl [0, 2, 3, 4] rfl⟩
        · skip
          have t_13 : k.toInt ≤ (k_lmade u).toInt := i_nlt c_10 rfl rfl
          refine lv_lload_n hx hb dX1_familyOf_28 rfl (lv_at hl 1 rfl) ?_
          refine lv_lconst (v := 1) hx hb dX1_familyOf_29 (by decide) ?_
          refine lv_iload hx hb dX1_familyOf_30 (lv_at hl 0 rfl) ?_
          refine lv_lshl (v := (1 : Int64) <<< (k.toInt64 &&& 63)) hx hb dX1_familyOf_32 rfl ?_
          refine lv_land hx hb dX1_familyOf_33 ?_
          refine lv_lconst (v := 0) hx hb dX1_familyOf_34 (by decide) ?_
          refine W.lcmp hx hb dX1_familyOf_35 ?_
          refine lv_if_eq (tgt := 49) hx hb dX1_familyOf_36 (by decide) (fun c_14 => ?_) (fun c_14 => ?_)
          · skip
            have t_15 : (lg_cmp (f &&& ((1 : Int64) <<< (k.toInt64 &&& 63))) 0).toInt = 0 := i_eq c_14 rfl (by decide)
            refine lv_iinc (v := k + 1) (lv' := [(5, .int (k + 1)), (2, .long f), (0, .ref (h 1)), (1, .int x1), (4, .int i)]) hx hb dX1_familyOf_49 hl (k := 0) rfl rfl (by decide) rfl (fun ls hl => ?_)
            refine lv_goto (tgt := 19) hx hb dX1_familyOf_52 (by decide) ?_
            have hb2 := i_inc (x := k) (by omega)
            exact ih_8 _ ⟨(k + 1), f, (by omega), (by omega), (by rw [he_9, liX1_familyOf_eq, if_neg c_10, if_pos c_14]), lv_sub hl [0, 1, 2, 3, 4] rfl⟩
          · skip
            have t_16 : (lg_cmp (f &&& ((1 : Int64) <<< (k.toInt64 &&& 63))) 0).toInt ≠ 0 := i_ne c_14 rfl (by decide)
            refine lv_lload_n hx hb dX1_familyOf_39 rfl (lv_at hl 1 rfl) ?_
            refine lv_aload_n hx hb dX1_familyOf_40 rfl (lv_at hl 2 rfl) ?_
            refine va_get (D := (dC, dI)) (C := RX1) (T := TX1) (N := 9) (v := .ref (h 15)) hx hb hts (fi_X1 _) hown hK hP 1 (cw_at1 _ _ _) rfl 7 (by decide) (hts _ (List.mem_cons_of_mem _ wd_54)) (fun _ h9 => h9) rfl dX1_familyOf_41 ?_
            refine lv_iload hx hb dX1_familyOf_44 (lv_at hl 0 rfl) ?_
            refine va_lald (f := k_kin u) hx hb hK hP 15 2 (cw_at15 _ _ _) rfl (vp_in_iff.mpr (by omega)) dX1_familyOf_46 ?_
            refine lv_lor hx hb dX1_familyOf_47 ?_
            refine lv_lstore_n (lv' := [(2, .long (f ||| (k_kin u k.toNatClampNeg))), (5, .int k), (0, .ref (h 1)), (1, .int x1), (4, .int i)]) hx hb dX1_familyOf_48 rfl hl (by decide) rfl (fun ls hl => ?_)
            refine lv_iinc (v := k + 1) (lv' := [(5, .int (k + 1)), (2, .long (f ||| (k_kin u k.toNatClampNeg))), (0, .ref (h 1)), (1, .int x1), (4, .int i)]) hx hb dX1_familyOf_49 hl (k := 1) rfl rfl (by decide) rfl (fun ls hl => ?_)
            refine lv_goto (tgt := 19) hx hb dX1_familyOf_52 (by decide) ?_
            have hb2 := i_inc (x := k) (by omega)
            exact ih_8 _ ⟨(k + 1), (f ||| (k_kin u k.toNatClampNeg)), (by omega), (by omega), (by rw [he_9, liX1_familyOf_eq, if_neg c_10, if_neg c_14]), lv_sub hl [0, 1, 2, 3, 4] rfl⟩
set_option maxHeartbeats 4000000 in
set_option maxRecDepth 100000 in
theorem kX0_startOfYear (l : Launch) (dC : Nat → ClassId) (dI : Nat → Nat → Nat) (x0 : Int32) : Met l yX0_startOfYear wsX0_startOfYear ({ frames := 0, cells := 0, slots := 0, locals := 0 }) (va_Pc [.int x0] (fun U => True)) (vp_Si (fun r => r = fX0_startOfYear x0)) 0 0 (fun _ => False) := by
  refine Met.ofW (cc := cX0_startOfYear) (maxL := 1) (ret := (some .int)) (by decide) rfl ?_
  intro p e s m args below meth c s₁ B hml hv
  obtain ⟨rfl, -⟩ := hv
  have hx := B.exec
  have hb := B.bytes
  have hr := B.returns
  have hts := atoms_spec (ws := wsX0_startOfYear) B.pre
  have hown : s.vm.findClass RX0 = some m.cls := findClass_of_methodNamed B.named
  have hlocks := B.notSynchronized
  have hS : va_S (fun _ => False) s.heap s.heap [] := va_S.rf
  have hl := lv_entry ([.int x0]) (n := 1) (Nat.le_of_ble_eq_true rfl)
  rw [lg_entry_eq]
  generalize (lg_sl ([.int x0]) ++ List.replicate (1 - (lg_sl ([.int x0])).length) Slot.unset).toArray = ls at hl ⊢
  have hl : lv_has ls 1 [(0, .int x0)] := hl
  refine lv_iload_n hx hb dX0_startOfYear_0 rfl (lv_at hl 0 rfl) ?_
  refine lv_sipush (v := 365) hx hb dX0_startOfYear_1 (by decide) ?_
  refine lv_imul hx hb dX0_startOfYear_4 ?_
  refine lv_iload_n hx hb dX0_startOfYear_5 rfl (lv_at hl 0 rfl) ?_
  refine lv_iconst (v := 3) hx hb dX0_startOfYear_6 (by decide) ?_
  refine lv_iadd hx hb dX0_startOfYear_7 ?_
  refine lv_iconst (v := 4) hx hb dX0_startOfYear_8 (by decide) ?_
  refine lv_idiv hx hb dX0_startOfYear_9 (by decide) ?_
  refine lv_iadd hx hb dX0_startOfYear_10 ?_
  exact W.iret (v := (x0 * 365) + ((x0 + 3) / 4)) hx hb hr (fun t ht hW => ⟨((x0 * 365) + ((x0 + 3) / 4)), rfl, rfl, ht⟩) (fun _ h => nomatch h) dX0_startOfYear_11
set_option maxHeartbeats 4000000 in
set_option maxRecDepth 100000 in
theorem kX0_daysBefore (l : Launch) (dC : Nat → ClassId) (dI : Nat → Nat → Nat) (x0 : Int32) (x1 : Int32) (h1 : 1 ≤ x1.toInt ∧ x1.toInt ≤ 13) : Met l yX0_daysBefore wsX0_daysBefore ({ frames := 0, cells := 0, slots := 0, locals := 0 }) (va_Pc [.int x0, .int x1] (fun U => zr U U.heap)) (vp_Si (fun r => r = fX0_daysBefore x0 x1)) 0 0 (fun _ => False) := by
  refine Met.ofW (cc := cX0_daysBefore) (maxL := 3) (ret := (some .int)) (by decide) rfl ?_
  intro p e s m args below meth c s₁ B hml hv
  obtain ⟨rfl, hZ⟩ := hv
  have hx := B.exec
  have hb := B.bytes
  have hr := B.returns
  have hts := atoms_spec (ws := wsX0_daysBefore) B.pre
  have hown : s.vm.findClass RX0 = some m.cls := findClass_of_methodNamed B.named
  have hlocks := B.notSynchronized
  have hS : va_S (fun _ => False) s.heap s.heap [] := va_S.rf
  have hl := lv_entry ([.int x0, .int x1]) (n := 3) (Nat.le_of_ble_eq_true rfl)
  rw [lg_entry_eq]
  generalize (lg_sl ([.int x0, .int x1]) ++ List.replicate (3 - (lg_sl ([.int x0, .int x1])).length) Slot.unset).toArray = ls at hl ⊢
  have hl : lv_has ls 3 [(0, .int x0), (1, .int x1)] := hl
  obtain ⟨tb, hZ1, hZ2⟩ := id hZ
  have hs1 := i_dec1 (x := x1) (by omega)
  refine lv_iload_n hx hb dX0_daysBefore_0 rfl (lv_at hl 0 rfl) ?_
  refine lv_iconst (v := 4) hx hb dX0_daysBefore_1 (by decide) ?_
  refine lv_irem hx hb dX0_daysBefore_2 (by decide) ?_
  refine lv_if_ne (tgt := 15) hx hb dX0_daysBefore_3 (by decide) (fun c_1 => ?_) (fun c_1 => ?_)
  · skip
    have t_2 : (x0 - x0 / 4 * 4).toInt ≠ 0 := i_ne c_1 rfl (by decide)
    refine lv_iconst (v := 0) hx hb dX0_daysBefore_15 (by decide) ?_
    refine lv_istore_n (lv' := [(2, .int 0), (0, .int x0), (1, .int x1)]) hx hb dX0_daysBefore_16 rfl hl (by decide) rfl (fun ls hl => ?_)
    refine va_gets hx hb hZ1 hS hown (hts _ (List.mem_cons_of_mem _ wd_55)) (fun _ h9 => h9) dX0_daysBefore_17 ?_
    refine lv_iload_n hx hb dX0_daysBefore_20 rfl (lv_at hl 2 rfl) ?_
    refine lv_iconst (v := 1) hx hb dX0_daysBefore_21 (by decide) ?_
    refine lv_isub hx hb dX0_daysBefore_22 ?_
    refine va_ti hx hb hZ2 hS (vp_in_iff.mpr (by omega)) rfl dX0_daysBefore_23 ?_
    refine lv_iload_n hx hb dX0_daysBefore_24 rfl (lv_at hl 0 rfl) ?_
    refine lv_iadd hx hb dX0_daysBefore_25 ?_
    exact W.iret (v := (c_tab (x1 - 1).toNatClampNeg) + 0) hx hb hr (fun t ht hW => ⟨((c_tab (x1 - 1).toNatClampNeg) + 0), rfl, (by unfold fX0_daysBefore; rw [if_neg c_1]), ht⟩) (fun _ h => nomatch h) dX0_daysBefore_26
  · skip
    have t_3 : (x0 - x0 / 4 * 4).toInt = 0 := i_eq c_1 rfl (by decide)
    refine lv_iload_n hx hb dX0_daysBefore_6 rfl (lv_at hl 1 rfl) ?_
    refine lv_iconst (v := 2) hx hb dX0_daysBefore_7 (by decide) ?_
    refine lv_icmp_le (tgt := 15) hx hb dX0_daysBefore_8 (by decide) (fun c_4 => ?_) (fun c_4 => ?_)
    · skip
      have t_5 : x1.toInt ≤ 2 := i_le c_4 rfl (by decide)
      refine lv_iconst (v := 0) hx hb dX0_daysBefore_15 (by decide) ?_
      refine lv_istore_n (lv' := [(2, .int 0), (0, .int x0), (1, .int x1)]) hx hb dX0_daysBefore_16 rfl hl (by decide) rfl (fun ls hl => ?_)
      refine va_gets hx hb hZ1 hS hown (hts _ (List.mem_cons_of_mem _ wd_55)) (fun _ h9 => h9) dX0_daysBefore_17 ?_
      refine lv_iload_n hx hb dX0_daysBefore_20 rfl (lv_at hl 2 rfl) ?_
      refine lv_iconst (v := 1) hx hb dX0_daysBefore_21 (by decide) ?_
      refine lv_isub hx hb dX0_daysBefore_22 ?_
      refine va_ti hx hb hZ2 hS (vp_in_iff.mpr (by omega)) rfl dX0_daysBefore_23 ?_
      refine lv_iload_n hx hb dX0_daysBefore_24 rfl (lv_at hl 0 rfl) ?_
      refine lv_iadd hx hb dX0_daysBefore_25 ?_
      exact W.iret (v := (c_tab (x1 - 1).toNatClampNeg) + 0) hx hb hr (fun t ht hW => ⟨((c_tab (x1 - 1).toNatClampNeg) + 0), rfl, (by unfold fX0_daysBefore; rw [if_pos c_1, if_pos c_4]), ht⟩) (fun _ h => nomatch h) dX0_daysBefore_26
    · skip
      have t_6 : 2 < x1.toInt := i_nle c_4 rfl (by decide)
      refine lv_iconst (v := 1) hx hb dX0_daysBefore_11 (by decide) ?_
      refine lv_goto (tgt := 16) hx hb dX0_daysBefore_12 (by decide) ?_
      refine lv_istore_n (lv' := [(2, .int 1), (0, .int x0), (1, .int x1)]) hx hb dX0_daysBefore_16 rfl hl (by decide) rfl (fun ls hl => ?_)
      refine va_gets hx hb hZ1 hS hown (hts _ (List.mem_cons_of_mem _ wd_55)) (fun _ h9 => h9) dX0_daysBefore_17 ?_
      refine lv_iload_n hx hb dX0_daysBefore_20 rfl (lv_at hl 2 rfl) ?_
      refine lv_iconst (v := 1) hx hb dX0_daysBefore_21 (by decide) ?_
      refine lv_isub hx hb dX0_daysBefore_22 ?_
      refine va_ti hx hb hZ2 hS (vp_in_iff.mpr (by omega)) rfl dX0_daysBefore_23 ?_
      refine lv_iload_n hx hb dX0_daysBefore_24 rfl (lv_at hl 0 rfl) ?_
      refine lv_iadd hx hb dX0_daysBefore_25 ?_
      exact W.iret (v := (c_tab (x1 - 1).toNatClampNeg) + 1) hx hb hr (fun t ht hW => ⟨((c_tab (x1 - 1).toNatClampNeg) + 1), rfl, (by unfold fX0_daysBefore; rw [if_pos c_1, if_neg c_4]), ht⟩) (fun _ h => nomatch h) dX0_daysBefore_26
set_option maxHeartbeats 4000000 in
set_option maxRecDepth 100000 in
theorem kX0_fromYearDay (l : Launch) (dC : Nat → ClassId) (dI : Nat → Nat → Nat) (x0 : Int32) (x1 : Int32) : Met l yX0_fromYearDay wsX0_fromYearDay ({ frames := 1, cells := 0, slots := 0, locals := 22 }) (va_Pc [.int x0, .int x1] (fun U => zr U U.heap)) (vp_Si (fun r => r = fX0_fromYearDay x0 x1)) 0 0 (fun _ => False) := by
  refine Met.ofW (cc := cX0_fromYearDay) (maxL := 2) (ret := (some .int)) (by decide) rfl ?_
  intro p e s m args below meth c s₁ B hml hv
  obtain ⟨rfl, hZ⟩ := hv
  have hx := B.exec
  have hb := B.bytes
  have hr := B.returns
  have hts := atoms_spec (ws := wsX0_fromYearDay) B.pre
  have hown : s.vm.findClass RX0 = some m.cls := findClass_of_methodNamed B.named
  have hlocks := B.notSynchronized
  have hS : va_S (fun _ => False) s.heap s.heap [] := va_S.rf
  have hl := lv_entry ([.int x0, .int x1]) (n := 2) (Nat.le_of_ble_eq_true rfl)
  rw [lg_entry_eq]
  generalize (lg_sl ([.int x0, .int x1]) ++ List.replicate (2 - (lg_sl ([.int x0, .int x1])).length) Slot.unset).toArray = ls at hl ⊢
  have hl : lv_has ls 2 [(0, .int x0), (1, .int x1)] := hl
  refine lv_iload_n hx hb dX0_fromYearDay_0 rfl (lv_at hl 1 rfl) ?_
  refine lv_iconst (v := 1) hx hb dX0_fromYearDay_1 (by decide) ?_
  refine lv_icmp_lt (tgt := 15) hx hb dX0_fromYearDay_2 (by decide) (fun c_1 => ?_) (fun c_1 => ?_)
  · skip
    have t_2 : x1.toInt < 1 := i_lt c_1 rfl (by decide)
    refine lv_iconst (v := (-1)) hx hb dX0_fromYearDay_15 (by decide) ?_
    exact W.iret (v := (-1)) hx hb hr (fun t ht hW => ⟨(-1), rfl, (by unfold fX0_fromYearDay; rw [if_pos c_1]), ht⟩) (fun _ h => nomatch h) dX0_fromYearDay_16
  · skip
    have t_3 : 1 ≤ x1.toInt := i_nlt c_1 rfl (by decide)
    refine lv_iload_n hx hb dX0_fromYearDay_5 rfl (lv_at hl 1 rfl) ?_
    refine lv_iload_n hx hb dX0_fromYearDay_6 rfl (lv_at hl 0 rfl) ?_
    refine lv_bipush (v := 13) hx hb dX0_fromYearDay_7 (by decide) ?_
    refine vp_callSi (W.runS (As := [.int x0, .int 13]) (rest := [.int x1]) ⟨hx, hb, hml, hown, hts⟩ (kX0_daysBefore l dC dI x0 13 (by decide)) (cwS 2 hts (gS wd_56 wd_57 wd_58 wcX0_daysBefore) rfl rfl rfl (by decide +kernel) ⟨(Nat.le_of_ble_eq_true rfl), (Nat.le_of_ble_eq_true rfl)⟩) ⟨fun a U g mk q => by obtain ⟨q0, qZ⟩ := q; exact ⟨q0, zr_same (u := U) (H := U.heap) rfl rfl qZ⟩, fun U hU hW => ⟨rfl, by show zr U U.heap; rw [hU]; exact zr_to2 hZ hS hW⟩⟩ rfl rfl hl.1 rfl (lv_room (Nat.le_of_ble_eq_true rfl)) dX0_fromYearDay_9 ⟨(Nat.le_of_ble_eq_true rfl), (Nat.le_of_ble_eq_true rfl)⟩) (fun r_4 hw => ?_)
    subst hw
    refine lv_icmp_le (tgt := 17) hx hb dX0_fromYearDay_12 (by decide) (fun c_5 => ?_) (fun c_5 => ?_)
    · skip
      have t_6 : x1.toInt ≤ (fX0_daysBefore x0 13).toInt := i_le c_5 rfl rfl
      refine lv_iload_n hx hb dX0_fromYearDay_17 rfl (lv_at hl 0 rfl) ?_
      refine vp_callSi (W.runS (As := [.int x0]) (rest := []) ⟨hx, hb, hml, hown, hts⟩ (kX0_startOfYear l dC dI x0) (cwS 1 hts (gS wd_60 wd_61 wd_58 wcX0_startOfYear) rfl rfl rfl (by decide +kernel) ⟨(Nat.le_of_ble_eq_true rfl), (Nat.le_of_ble_eq_true rfl)⟩) ⟨fun a U g mk q => by obtain ⟨q0, qT⟩ := q; exact ⟨q0, qT⟩, fun U hU hW => ⟨rfl, trivial⟩⟩ rfl rfl hl.1 rfl (lv_room (Nat.le_of_ble_eq_true rfl)) dX0_fromYearDay_18 ⟨(Nat.le_of_ble_eq_true rfl), (Nat.le_of_ble_eq_true rfl)⟩) (fun r_7 hw => ?_)
      subst hw
      refine lv_iload_n hx hb dX0_fromYearDay_21 rfl (lv_at hl 1 rfl) ?_
      refine lv_iadd hx hb dX0_fromYearDay_22 ?_
      refine lv_iconst (v := 1) hx hb dX0_fromYearDay_23 (by decide) ?_
      refine lv_isub hx hb dX0_fromYearDay_24 ?_
      exact W.iret (v := ((fX0_startOfYear x0) + x1) - 1) hx hb hr (fun t ht hW => ⟨(((fX0_startOfYear x0) + x1) - 1), rfl, (by unfold fX0_fromYearDay; rw [if_neg c_1, if_pos c_5]), ht⟩) (fun _ h => nomatch h) dX0_fromYearDay_25
    · skip
      have t_8 : (fX0_daysBefore x0 13).toInt < x1.toInt := i_nle c_5 rfl rfl
      refine lv_iconst (v := (-1)) hx hb dX0_fromYearDay_15 (by decide) ?_
      exact W.iret (v := (-1)) hx hb hr (fun t ht hW => ⟨(-1), rfl, (by unfold fX0_fromYearDay; rw [if_neg c_1, if_neg c_5]), ht⟩) (fun _ h => nomatch h) dX0_fromYearDay_16
set_option maxHeartbeats 4000000 in
set_option maxRecDepth 100000 in
theorem kX0_fromMonthDay (l : Launch) (dC : Nat → ClassId) (dI : Nat → Nat → Nat) (x0 : Int32) (x1 : Int32) (x2 : Int32) : Met l yX0_fromMonthDay wsX0_fromMonthDay ({ frames := 2, cells := 0, slots := 0, locals := 43 }) (va_Pc [.int x0, .int x1, .int x2] (fun U => zr U U.heap)) (vp_Si (fun r => r = fX0_fromMonthDay x0 x1 x2)) 0 0 (fun _ => False) := by
  refine Met.ofW (cc := cX0_fromMonthDay) (maxL := 4) (ret := (some .int)) (by decide) rfl ?_
  intro p e s m args below meth c s₁ B hml hv
  obtain ⟨rfl, hZ⟩ := hv
  have hx := B.exec
  have hb := B.bytes
  have hr := B.returns
  have hts := atoms_spec (ws := wsX0_fromMonthDay) B.pre
  have hown : s.vm.findClass RX0 = some m.cls := findClass_of_methodNamed B.named
  have hlocks := B.notSynchronized
  have hS : va_S (fun _ => False) s.heap s.heap [] := va_S.rf
  have hl := lv_entry ([.int x0, .int x1, .int x2]) (n := 4) (Nat.le_of_ble_eq_true rfl)
  rw [lg_entry_eq]
  generalize (lg_sl ([.int x0, .int x1, .int x2]) ++ List.replicate (4 - (lg_sl ([.int x0, .int x1, .int x2])).length) Slot.unset).toArray = ls at hl ⊢
  have hl : lv_has ls 4 [(0, .int x0), (1, .int x1), (2, .int x2)] := hl
  refine lv_iload_n hx hb dX0_fromMonthDay_0 rfl (lv_at hl 1 rfl) ?_
  refine lv_iconst (v := 1) hx hb dX0_fromMonthDay_1 (by decide) ?_
  refine lv_icmp_lt (tgt := 16) hx hb dX0_fromMonthDay_2 (by decide) (fun c_1 => ?_) (fun c_1 => ?_)
  · skip
    have t_2 : x1.toInt < 1 := i_lt c_1 rfl (by decide)
    refine lv_iconst (v := (-1)) hx hb dX0_fromMonthDay_16 (by decide) ?_
    exact W.iret (v := (-1)) hx hb hr (fun t ht hW => ⟨(-1), rfl, (by unfold fX0_fromMonthDay; rw [if_pos c_1]), ht⟩) (fun _ h => nomatch h) dX0_fromMonthDay_17
  · skip
    have t_3 : 1 ≤ x1.toInt := i_nlt c_1 rfl (by decide)
    refine lv_iload_n hx hb dX0_fromMonthDay_5 rfl (lv_at hl 1 rfl) ?_
    refine lv_bipush (v := 12) hx hb dX0_fromMonthDay_6 (by decide) ?_
    refine lv_icmp_gt (tgt := 16) hx hb dX0_fromMonthDay_8 (by decide) (fun c_4 => ?_) (fun c_4 => ?_)
    · skip
      have t_5 : 12 < x1.toInt := i_lt c_4 (by decide) rfl
      refine lv_iconst (v := (-1)) hx hb dX0_fromMonthDay_16 (by decide) ?_
      exact W.iret (v := (-1)) hx hb hr (fun t ht hW => ⟨(-1), rfl, (by unfold fX0_fromMonthDay; rw [if_neg c_1, if_pos c_4]), ht⟩) (fun _ h => nomatch h) dX0_fromMonthDay_17
    · skip
      have t_6 : x1.toInt ≤ 12 := i_nlt c_4 (by decide) rfl
      refine lv_iload_n hx hb dX0_fromMonthDay_11 rfl (lv_at hl 2 rfl) ?_
      refine lv_iconst (v := 1) hx hb dX0_fromMonthDay_12 (by decide) ?_
      refine lv_icmp_ge (tgt := 18) hx hb dX0_fromMonthDay_13 (by decide) (fun c_7 => ?_) (fun c_7 => ?_)
      · skip
        have t_8 : 1 ≤ x2.toInt := i_le c_7 (by decide) rfl
        refine lv_iload_n hx hb dX0_fromMonthDay_18 rfl (lv_at hl 0 rfl) ?_
        refine lv_iload_n hx hb dX0_fromMonthDay_19 rfl (lv_at hl 1 rfl) ?_
        refine vp_callSi (W.runS (As := [.int x0, .int x1]) (rest := []) ⟨hx, hb, hml, hown, hts⟩ (kX0_daysBefore l dC dI x0 x1 (by omega)) (cwS 2 hts (gS wd_56 wd_57 wd_58 wcX0_daysBefore) rfl rfl rfl (by decide +kernel) ⟨(Nat.le_of_ble_eq_true rfl), (Nat.le_of_ble_eq_true rfl)⟩) ⟨fun a U g mk q => by obtain ⟨q0, qZ⟩ := q; exact ⟨q0, zr_same (u := U) (H := U.heap) rfl rfl qZ⟩, fun U hU hW => ⟨rfl, by show zr U U.heap; rw [hU]; exact zr_to2 hZ hS hW⟩⟩ rfl rfl hl.1 rfl (lv_room (Nat.le_of_ble_eq_true rfl)) dX0_fromMonthDay_20 ⟨(Nat.le_of_ble_eq_true rfl), (Nat.le_of_ble_eq_true rfl)⟩) (fun r_9 hw => ?_)
        subst hw
        refine lv_iload_n hx hb dX0_fromMonthDay_23 rfl (lv_at hl 2 rfl) ?_
        refine lv_iadd hx hb dX0_fromMonthDay_24 ?_
        refine lv_istore_n (lv' := [(3, .int ((fX0_daysBefore x0 x1) + x2)), (0, .int x0), (1, .int x1), (2, .int x2)]) hx hb dX0_fromMonthDay_25 rfl hl (by decide) rfl (fun ls hl => ?_)
        refine lv_iload_n hx hb dX0_fromMonthDay_26 rfl (lv_at hl 0 rfl) ?_
        refine lv_iload_n hx hb dX0_fromMonthDay_27 rfl (lv_at hl 1 rfl) ?_
        refine lv_iload_n hx hb dX0_fromMonthDay_28 rfl (lv_at hl 2 rfl) ?_
        refine lv_iconst (v := 1) hx hb dX0_fromMonthDay_29 (by decide) ?_
        refine lv_iadd hx hb dX0_fromMonthDay_30 ?_
        refine vp_callSi (W.runS (As := [.int x0, .int (x1 + 1)]) (rest := [.int ((fX0_daysBefore x0 x1) + x2)]) ⟨hx, hb, hml, hown, hts⟩ (kX0_daysBefore l dC dI x0 (x1 + 1) (by have hs1 := i_inc (x := x1) (by omega); omega)) (cwS 2 hts (gS wd_56 wd_57 wd_58 wcX0_daysBefore) rfl rfl rfl (by decide +kernel) ⟨(Nat.le_of_ble_eq_true rfl), (Nat.le_of_ble_eq_true rfl)⟩) ⟨fun a U g mk q => by obtain ⟨q0, qZ⟩ := q; exact ⟨q0, zr_same (u := U) (H := U.heap) rfl rfl qZ⟩, fun U hU hW => ⟨rfl, by show zr U U.heap; rw [hU]; exact zr_to2 hZ hS hW⟩⟩ rfl rfl hl.1 rfl (lv_room (Nat.le_of_ble_eq_true rfl)) dX0_fromMonthDay_31 ⟨(Nat.le_of_ble_eq_true rfl), (Nat.le_of_ble_eq_true rfl)⟩) (fun r_10 hw => ?_)
        subst hw
        refine lv_icmp_le (tgt := 39) hx hb dX0_fromMonthDay_34 (by decide) (fun c_11 => ?_) (fun c_11 => ?_)
        · skip
          have t_12 : ((fX0_daysBefore x0 x1) + x2).toInt ≤ (fX0_daysBefore x0 (x1 + 1)).toInt := i_le c_11 rfl rfl
          refine lv_iload_n hx hb dX0_fromMonthDay_39 rfl (lv_at hl 1 rfl) ?_
          refine lv_iload_n hx hb dX0_fromMonthDay_40 rfl (lv_at hl 0 rfl) ?_
          refine vp_callSi (W.runS (As := [.int x0, .int ((fX0_daysBefore x0 x1) + x2)]) (rest := []) ⟨hx, hb, hml, hown, hts⟩ (kX0_fromYearDay l dC dI x0 ((fX0_daysBefore x0 x1) + x2)) (cwS 2 hts (gS wd_63 wd_64 wd_58 wcX0_fromYearDay) rfl rfl rfl (by decide +kernel) ⟨(Nat.le_of_ble_eq_true rfl), (Nat.le_of_ble_eq_true rfl)⟩) ⟨fun a U g mk q => by obtain ⟨q0, qZ⟩ := q; exact ⟨q0, zr_same (u := U) (H := U.heap) rfl rfl qZ⟩, fun U hU hW => ⟨rfl, by show zr U U.heap; rw [hU]; exact zr_to2 hZ hS hW⟩⟩ rfl rfl hl.1 rfl (lv_room (Nat.le_of_ble_eq_true rfl)) dX0_fromMonthDay_41 ⟨(Nat.le_of_ble_eq_true rfl), (Nat.le_of_ble_eq_true rfl)⟩) (fun r_13 hw => ?_)
          subst hw
          exact W.iret (v := fX0_fromYearDay x0 ((fX0_daysBefore x0 x1) + x2)) hx hb hr (fun t ht hW => ⟨(fX0_fromYearDay x0 ((fX0_daysBefore x0 x1) + x2)), rfl, (by unfold fX0_fromMonthDay; rw [if_neg c_1, if_neg c_4, if_pos c_7, if_pos c_11]), ht⟩) (fun _ h => nomatch h) dX0_fromMonthDay_44
        · skip
          have t_14 : (fX0_daysBefore x0 (x1 + 1)).toInt < ((fX0_daysBefore x0 x1) + x2).toInt := i_nle c_11 rfl rfl
          refine lv_iconst (v := (-1)) hx hb dX0_fromMonthDay_37 (by decide) ?_
          exact W.iret (v := (-1)) hx hb hr (fun t ht hW => ⟨(-1), rfl, (by unfold fX0_fromMonthDay; rw [if_neg c_1, if_neg c_4, if_pos c_7, if_neg c_11]), ht⟩) (fun _ h => nomatch h) dX0_fromMonthDay_38
      · skip
        have t_15 : x2.toInt < 1 := i_nle c_7 (by decide) rfl
        refine lv_iconst (v := (-1)) hx hb dX0_fromMonthDay_16 (by decide) ?_
        exact W.iret (v := (-1)) hx hb hr (fun t ht hW => ⟨(-1), rfl, (by unfold fX0_fromMonthDay; rw [if_neg c_1, if_neg c_4, if_neg c_7]), ht⟩) (fun _ h => nomatch h) dX0_fromMonthDay_17
set_option maxHeartbeats 4000000 in
set_option maxRecDepth 100000 in
theorem kX0_yearOf (l : Launch) (dC : Nat → ClassId) (dI : Nat → Nat → Nat) (x0 : Int32) : Met l yX0_yearOf wsX0_yearOf ({ frames := 1, cells := 0, slots := 0, locals := 20 }) (va_Pc [.int x0] (fun U => True)) (vp_Si (fun r => r = fX0_yearOf x0)) 0 0 (fun _ => False) := by
  refine Met.ofW (cc := cX0_yearOf) (maxL := 2) (ret := (some .int)) (by decide) rfl ?_
  intro p e s m args below meth c s₁ B hml hv
  obtain ⟨rfl, -⟩ := hv
  have hx := B.exec
  have hb := B.bytes
  have hr := B.returns
  have hts := atoms_spec (ws := wsX0_yearOf) B.pre
  have hown : s.vm.findClass RX0 = some m.cls := findClass_of_methodNamed B.named
  have hlocks := B.notSynchronized
  have hS : va_S (fun _ => False) s.heap s.heap [] := va_S.rf
  have hl := lv_entry ([.int x0]) (n := 2) (Nat.le_of_ble_eq_true rfl)
  rw [lg_entry_eq]
  generalize (lg_sl ([.int x0]) ++ List.replicate (2 - (lg_sl ([.int x0])).length) Slot.unset).toArray = ls at hl ⊢
  have hl : lv_has ls 2 [(0, .int x0)] := hl
  have z_0 : (99 : Int32).toInt = 99 := by decide
  refine lv_bipush (v := 99) hx hb dX0_yearOf_0 (by decide) ?_
  refine lv_istore_n (lv' := [(1, .int 99), (0, .int x0)]) hx hb dX0_yearOf_2 rfl hl (by decide) rfl (fun ls hl => ?_)
  refine lp_ind (W p l e _ s m _ below meth c _ _ _ _ _) (fun n ls => ∃ (i : Int32), (i.toInt < (n : Int)) ∧ (0 ≤ i.toInt ∧ i.toInt ≤ 99) ∧ fX0_yearOf x0 = lpX0_yearOf x0 n i ∧ lv_has ls 2 [(1, .int i), (0, .int x0)]) m 3 (fun ls hI0 => ?_) (fun n ls hI0 ih => ?_) 100 _ ⟨99, (by omega), (by omega), rfl, lv_sub hl [0, 1] rfl⟩
  · skip
    obtain ⟨i, hn, hi, he, hl⟩ := hI0
    exact absurd hn (by omega)
  · skip
    obtain ⟨i, hn, hi, he, hl⟩ := hI0
    have he_3 := he
    have ih_2 := ih
    refine lv_iload_n hx hb dX0_yearOf_3 rfl (lv_at hl 0 rfl) ?_
    refine lv_if_le (tgt := 23) hx hb dX0_yearOf_4 (by decide) (fun c_4 => ?_) (fun c_4 => ?_)
    · skip
      have t_5 : i.toInt ≤ 0 := i_le c_4 rfl (by decide)
      refine lv_iconst (v := 0) hx hb dX0_yearOf_23 (by decide) ?_
      exact W.iret (v := 0) hx hb hr (fun t ht hW => ⟨0, rfl, (by rw [he_3, lpX0_yearOf_eq, if_pos c_4]), ht⟩) (fun _ h => nomatch h) dX0_yearOf_24
    · skip
      have t_6 : 0 < i.toInt := i_nle c_4 rfl (by decide)
      refine lv_iload_n hx hb dX0_yearOf_7 rfl (lv_at hl 0 rfl) ?_
      refine vp_callSi (W.runS (As := [.int i]) (rest := []) ⟨hx, hb, hml, hown, hts⟩ (kX0_startOfYear l dC dI i) (cwS 1 hts (gS wd_60 wd_61 wd_58 wcX0_startOfYear) rfl rfl rfl (by decide +kernel) ⟨(Nat.le_of_ble_eq_true rfl), (Nat.le_of_ble_eq_true rfl)⟩) ⟨fun a U g mk q => by obtain ⟨q0, qT⟩ := q; exact ⟨q0, qT⟩, fun U hU hW => ⟨rfl, trivial⟩⟩ rfl rfl hl.1 rfl (lv_room (Nat.le_of_ble_eq_true rfl)) dX0_yearOf_8 ⟨(Nat.le_of_ble_eq_true rfl), (Nat.le_of_ble_eq_true rfl)⟩) (fun r_7 hw => ?_)
      subst hw
      refine lv_iload_n hx hb dX0_yearOf_11 rfl (lv_at hl 1 rfl) ?_
      refine lv_icmp_gt (tgt := 17) hx hb dX0_yearOf_12 (by decide) (fun c_8 => ?_) (fun c_8 => ?_)
      · skip
        have t_9 : x0.toInt < (fX0_startOfYear i).toInt := i_lt c_8 rfl rfl
        refine lv_iinc (v := i + (-1)) (lv' := [(1, .int (i + (-1))), (0, .int x0)]) hx hb dX0_yearOf_17 hl (k := 0) rfl rfl (by decide) rfl (fun ls hl => ?_)
        refine lv_goto (tgt := 3) hx hb dX0_yearOf_20 (by decide) ?_
        have hb1 := i_dec (x := i) (by omega)
        exact ih_2 _ ⟨(i + (-1)), (by omega), (by omega), (by rw [he_3, lpX0_yearOf_eq, if_neg c_4, if_pos c_8]), lv_sub hl [0, 1] rfl⟩
      · skip
        have t_10 : (fX0_startOfYear i).toInt ≤ x0.toInt := i_nlt c_8 rfl rfl
        refine lv_iload_n hx hb dX0_yearOf_15 rfl (lv_at hl 0 rfl) ?_
        exact W.iret (v := i) hx hb hr (fun t ht hW => ⟨i, rfl, (by rw [he_3, lpX0_yearOf_eq, if_neg c_4, if_neg c_8]), ht⟩) (fun _ h => nomatch h) dX0_yearOf_16
set_option maxHeartbeats 4000000 in
set_option maxRecDepth 100000 in
theorem kX0_monthOf (l : Launch) (dC : Nat → ClassId) (dI : Nat → Nat → Nat) (x0 : Int32) (x1 : Int32) : Met l yX0_monthOf wsX0_monthOf ({ frames := 1, cells := 0, slots := 0, locals := 22 }) (va_Pc [.int x0, .int x1] (fun U => zr U U.heap)) (vp_Si (fun r => r = fX0_monthOf x0 x1)) 0 0 (fun _ => False) := by
  refine Met.ofW (cc := cX0_monthOf) (maxL := 3) (ret := (some .int)) (by decide) rfl ?_
  intro p e s m args below meth c s₁ B hml hv
  obtain ⟨rfl, hZ⟩ := hv
  have hx := B.exec
  have hb := B.bytes
  have hr := B.returns
  have hts := atoms_spec (ws := wsX0_monthOf) B.pre
  have hown : s.vm.findClass RX0 = some m.cls := findClass_of_methodNamed B.named
  have hlocks := B.notSynchronized
  have hS : va_S (fun _ => False) s.heap s.heap [] := va_S.rf
  have hl := lv_entry ([.int x0, .int x1]) (n := 3) (Nat.le_of_ble_eq_true rfl)
  rw [lg_entry_eq]
  generalize (lg_sl ([.int x0, .int x1]) ++ List.replicate (3 - (lg_sl ([.int x0, .int x1])).length) Slot.unset).toArray = ls at hl ⊢
  have hl : lv_has ls 3 [(0, .int x0), (1, .int x1)] := hl
  have z_0 : (12 : Int32).toInt = 12 := by decide
  refine lv_bipush (v := 12) hx hb dX0_monthOf_0 (by decide) ?_
  refine lv_istore_n (lv' := [(2, .int 12), (0, .int x0), (1, .int x1)]) hx hb dX0_monthOf_2 rfl hl (by decide) rfl (fun ls hl => ?_)
  refine lp_ind (W p l e _ s m _ below meth c _ _ _ _ _) (fun n ls => ∃ (i : Int32), (i.toInt - 1 < (n : Int)) ∧ (1 ≤ i.toInt ∧ i.toInt ≤ 12) ∧ fX0_monthOf x0 x1 = lpX0_monthOf x0 x1 n i ∧ lv_has ls 3 [(2, .int i), (0, .int x0), (1, .int x1)]) m 3 (fun ls hI0 => ?_) (fun n ls hI0 ih => ?_) 12 _ ⟨12, (by omega), (by omega), rfl, lv_sub hl [0, 1, 2] rfl⟩
  · skip
    obtain ⟨i, hn, hi, he, hl⟩ := hI0
    exact absurd hn (by omega)
  · skip
    obtain ⟨i, hn, hi, he, hl⟩ := hI0
    have he_3 := he
    have ih_2 := ih
    refine lv_iload_n hx hb dX0_monthOf_3 rfl (lv_at hl 0 rfl) ?_
    refine lv_iconst (v := 1) hx hb dX0_monthOf_4 (by decide) ?_
    refine lv_icmp_le (tgt := 25) hx hb dX0_monthOf_5 (by decide) (fun c_4 => ?_) (fun c_4 => ?_)
    · skip
      have t_5 : i.toInt ≤ 1 := i_le c_4 rfl (by decide)
      refine lv_iconst (v := 1) hx hb dX0_monthOf_25 (by decide) ?_
      exact W.iret (v := 1) hx hb hr (fun t ht hW => ⟨1, rfl, (by rw [he_3, lpX0_monthOf_eq, if_pos c_4]), ht⟩) (fun _ h => nomatch h) dX0_monthOf_26
    · skip
      have t_6 : 1 < i.toInt := i_nle c_4 rfl (by decide)
      refine lv_iload_n hx hb dX0_monthOf_8 rfl (lv_at hl 1 rfl) ?_
      refine lv_iload_n hx hb dX0_monthOf_9 rfl (lv_at hl 0 rfl) ?_
      refine vp_callSi (W.runS (As := [.int x0, .int i]) (rest := []) ⟨hx, hb, hml, hown, hts⟩ (kX0_daysBefore l dC dI x0 i (by omega)) (cwS 2 hts (gS wd_56 wd_57 wd_58 wcX0_daysBefore) rfl rfl rfl (by decide +kernel) ⟨(Nat.le_of_ble_eq_true rfl), (Nat.le_of_ble_eq_true rfl)⟩) ⟨fun a U g mk q => by obtain ⟨q0, qZ⟩ := q; exact ⟨q0, zr_same (u := U) (H := U.heap) rfl rfl qZ⟩, fun U hU hW => ⟨rfl, by show zr U U.heap; rw [hU]; exact zr_to2 hZ hS hW⟩⟩ rfl rfl hl.1 rfl (lv_room (Nat.le_of_ble_eq_true rfl)) dX0_monthOf_10 ⟨(Nat.le_of_ble_eq_true rfl), (Nat.le_of_ble_eq_true rfl)⟩) (fun r_7 hw => ?_)
      subst hw
      refine lv_iload_n hx hb dX0_monthOf_13 rfl (lv_at hl 2 rfl) ?_
      refine lv_icmp_ge (tgt := 19) hx hb dX0_monthOf_14 (by decide) (fun c_8 => ?_) (fun c_8 => ?_)
      · skip
        have t_9 : x1.toInt ≤ (fX0_daysBefore x0 i).toInt := i_le c_8 rfl rfl
        refine lv_iinc (v := i + (-1)) (lv' := [(2, .int (i + (-1))), (0, .int x0), (1, .int x1)]) hx hb dX0_monthOf_19 hl (k := 0) rfl rfl (by decide) rfl (fun ls hl => ?_)
        refine lv_goto (tgt := 3) hx hb dX0_monthOf_22 (by decide) ?_
        have hb1 := i_dec (x := i) (by omega)
        exact ih_2 _ ⟨(i + (-1)), (by omega), (by omega), (by rw [he_3, lpX0_monthOf_eq, if_neg c_4, if_pos c_8]), lv_sub hl [0, 1, 2] rfl⟩
      · skip
        have t_10 : (fX0_daysBefore x0 i).toInt < x1.toInt := i_nle c_8 rfl rfl
        refine lv_iload_n hx hb dX0_monthOf_17 rfl (lv_at hl 0 rfl) ?_
        exact W.iret (v := i) hx hb hr (fun t ht hW => ⟨i, rfl, (by rw [he_3, lpX0_monthOf_eq, if_neg c_4, if_neg c_8]), ht⟩) (fun _ h => nomatch h) dX0_monthOf_18