section
theorem ws_O_times : Cond.selects R_O y_O_times y_O_times ∈ cA := cA_in (List.mem_append_left _ (List.mem_of_getElem? (i := 25) (by decide +kernel))) rfl
theorem ws_O_greatestOf : Cond.selects R_O y_O_greatestOf y_O_greatestOf ∈ cA := cA_in (List.mem_append_left _ (List.mem_of_getElem? (i := 26) (by decide +kernel))) rfl
theorem ws_O_entryIs : Cond.selects R_O y_O_entryIs y_O_entryIs ∈ cA := cA_in (List.mem_append_left _ (List.mem_of_getElem? (i := 27) (by decide +kernel))) rfl
theorem ws_O_differ : Cond.selects R_O y_O_differ y_O_differ ∈ cA := cA_in (List.mem_append_left _ (List.mem_of_getElem? (i := 28) (by decide +kernel))) rfl
theorem ws_O_fits : Cond.selects R_O y_O_fits y_O_fits ∈ cA := cA_in (List.mem_append_left _ (List.mem_of_getElem? (i := 29) (by decide +kernel))) rfl
theorem ws_O_anyPart : Cond.selects R_O y_O_anyPart y_O_anyPart ∈ cA := cA_in (List.mem_append_left _ (List.mem_of_getElem? (i := 31) (by decide +kernel))) rfl
theorem wv_O_103 : Cond.code y_O_times b_O_times 3 (some .int) ∈ cA ∧ Cond.initialized y_O_times.cls ∈ cA ∧ Cond.methodLink R_O 103 y_O_times ∈ cA ∧ Cond.instanceMethod y_O_times ∈ cA ∧ Cond.selects y_O_times.cls y_O_times y_O_times ∈ cA := ⟨wd_578, wd_3, wd_575, wd_577, ws_O_times⟩
theorem wv_O_106 : Cond.code y_O_greatestOf b_O_greatestOf 5 (some .int) ∈ cA ∧ Cond.initialized y_O_greatestOf.cls ∈ cA ∧ Cond.methodLink R_O 106 y_O_greatestOf ∈ cA ∧ Cond.instanceMethod y_O_greatestOf ∈ cA ∧ Cond.selects y_O_greatestOf.cls y_O_greatestOf y_O_greatestOf ∈ cA := ⟨wd_582, wd_3, wd_579, wd_581, ws_O_greatestOf⟩
theorem wv_O_110 : Cond.code y_O_entryIs b_O_entryIs 4 (some .boolean) ∈ cA ∧ Cond.initialized y_O_entryIs.cls ∈ cA ∧ Cond.methodLink R_O 110 y_O_entryIs ∈ cA ∧ Cond.instanceMethod y_O_entryIs ∈ cA ∧ Cond.selects y_O_entryIs.cls y_O_entryIs y_O_entryIs ∈ cA := ⟨wd_586, wd_3, wd_583, wd_585, ws_O_entryIs⟩
theorem wv_O_113 : Cond.code y_O_differ b_O_differ 6 (some .boolean) ∈ cA ∧ Cond.initialized y_O_differ.cls ∈ cA ∧ Cond.methodLink R_O 113 y_O_differ ∈ cA ∧ Cond.instanceMethod y_O_differ ∈ cA ∧ Cond.selects y_O_differ.cls y_O_differ y_O_differ ∈ cA := ⟨wd_590, wd_3, wd_587, wd_589, ws_O_differ⟩
theorem wv_O_116 : Cond.code y_O_fits b_O_fits 4 (some .boolean) ∈ cA ∧ Cond.initialized y_O_fits.cls ∈ cA ∧ Cond.methodLink R_O 116 y_O_fits ∈ cA ∧ Cond.instanceMethod y_O_fits ∈ cA ∧ Cond.selects y_O_fits.cls y_O_fits y_O_fits ∈ cA := ⟨wd_594, wd_3, wd_591, wd_593, ws_O_fits⟩
theorem wv_O_119 : Cond.code y_O_anyPart b_O_anyPart 7 (some .boolean) ∈ cA ∧ Cond.initialized y_O_anyPart.cls ∈ cA ∧ Cond.methodLink R_O 119 y_O_anyPart ∈ cA ∧ Cond.instanceMethod y_O_anyPart ∈ cA ∧ Cond.selects y_O_anyPart.cls y_O_anyPart y_O_anyPart ∈ cA := ⟨wd_606, wd_3, wd_603, wd_605, ws_O_anyPart⟩
theorem d_O_satisfied_0 : decode b_O_satisfied 0 = .ok (.aload_n 0, 1) := by decide +kernel
theorem d_O_satisfied_1 : decode b_O_satisfied 1 = .ok (.getfield 23, 3) := by decide +kernel
theorem d_O_satisfied_4 : decode b_O_satisfied 4 = .ok (.iload_n 1, 1) := by decide +kernel
theorem d_O_satisfied_5 : decode b_O_satisfied 5 = .ok (.iaload, 1) := by decide +kernel
theorem d_O_satisfied_6 : decode b_O_satisfied 6 = .ok (.tableswitch 218 0 5 #[38, 104, 170, 195, 201, 212], 38) := by decide +kernel
theorem d_O_satisfied_44 : decode b_O_satisfied 44 = .ok (.aload_n 0, 1) := by decide +kernel
theorem d_O_satisfied_45 : decode b_O_satisfied 45 = .ok (.aload_n 0, 1) := by decide +kernel
theorem d_O_satisfied_46 : decode b_O_satisfied 46 = .ok (.iload_n 1, 1) := by decide +kernel
theorem d_O_satisfied_47 : decode b_O_satisfied 47 = .ok (.iconst 0, 1) := by decide +kernel
theorem d_O_satisfied_48 : decode b_O_satisfied 48 = .ok (.invokevirtual 90, 3) := by decide +kernel
theorem d_O_satisfied_51 : decode b_O_satisfied 51 = .ok (.aload_n 0, 1) := by decide +kernel
theorem d_O_satisfied_52 : decode b_O_satisfied 52 = .ok (.iload_n 1, 1) := by decide +kernel
theorem d_O_satisfied_53 : decode b_O_satisfied 53 = .ok (.iconst 1, 1) := by decide +kernel
theorem d_O_satisfied_54 : decode b_O_satisfied 54 = .ok (.invokevirtual 90, 3) := by decide +kernel
theorem d_O_satisfied_57 : decode b_O_satisfied 57 = .ok (.invokevirtual 103, 3) := by decide +kernel
theorem d_O_satisfied_60 : decode b_O_satisfied 60 = .ok (.aload_n 0, 1) := by decide +kernel
theorem d_O_satisfied_61 : decode b_O_satisfied 61 = .ok (.aload_n 0, 1) := by decide +kernel
theorem d_O_satisfied_62 : decode b_O_satisfied 62 = .ok (.iload_n 1, 1) := by decide +kernel
theorem d_O_satisfied_63 : decode b_O_satisfied 63 = .ok (.iconst 2, 1) := by decide +kernel
theorem d_O_satisfied_64 : decode b_O_satisfied 64 = .ok (.invokevirtual 90, 3) := by decide +kernel
theorem d_O_satisfied_67 : decode b_O_satisfied 67 = .ok (.aload_n 0, 1) := by decide +kernel
theorem d_O_satisfied_68 : decode b_O_satisfied 68 = .ok (.iload_n 1, 1) := by decide +kernel
theorem d_O_satisfied_69 : decode b_O_satisfied 69 = .ok (.iconst 3, 1) := by decide +kernel
theorem d_O_satisfied_70 : decode b_O_satisfied 70 = .ok (.invokevirtual 90, 3) := by decide +kernel
theorem d_O_satisfied_73 : decode b_O_satisfied 73 = .ok (.invokevirtual 103, 3) := by decide +kernel
theorem d_O_satisfied_76 : decode b_O_satisfied 76 = .ok (.iadd, 1) := by decide +kernel
theorem d_O_satisfied_77 : decode b_O_satisfied 77 = .ok (.aload_n 0, 1) := by decide +kernel
theorem d_O_satisfied_78 : decode b_O_satisfied 78 = .ok (.aload_n 0, 1) := by decide +kernel
theorem d_O_satisfied_79 : decode b_O_satisfied 79 = .ok (.iload_n 1, 1) := by decide +kernel
theorem d_O_satisfied_80 : decode b_O_satisfied 80 = .ok (.iconst 4, 1) := by decide +kernel
theorem d_O_satisfied_81 : decode b_O_satisfied 81 = .ok (.invokevirtual 90, 3) := by decide +kernel
theorem d_O_satisfied_84 : decode b_O_satisfied 84 = .ok (.aload_n 0, 1) := by decide +kernel
theorem d_O_satisfied_85 : decode b_O_satisfied 85 = .ok (.iload_n 1, 1) := by decide +kernel
theorem d_O_satisfied_86 : decode b_O_satisfied 86 = .ok (.iconst 5, 1) := by decide +kernel
theorem d_O_satisfied_87 : decode b_O_satisfied 87 = .ok (.invokevirtual 90, 3) := by decide +kernel
theorem d_O_satisfied_90 : decode b_O_satisfied 90 = .ok (.invokevirtual 103, 3) := by decide +kernel
theorem d_O_satisfied_93 : decode b_O_satisfied 93 = .ok (.iadd, 1) := by decide +kernel
theorem d_O_satisfied_94 : decode b_O_satisfied 94 = .ok (.aload_n 0, 1) := by decide +kernel
theorem d_O_satisfied_95 : decode b_O_satisfied 95 = .ok (.iload_n 1, 1) := by decide +kernel
theorem d_O_satisfied_96 : decode b_O_satisfied 96 = .ok (.bipush 6, 2) := by decide +kernel
theorem d_O_satisfied_98 : decode b_O_satisfied 98 = .ok (.invokevirtual 90, 3) := by decide +kernel
theorem d_O_satisfied_101 : decode b_O_satisfied 101 = .ok (.if_icmp .gt 7, 3) := by decide +kernel
theorem d_O_satisfied_104 : decode b_O_satisfied 104 = .ok (.iconst 1, 1) := by decide +kernel
theorem d_O_satisfied_105 : decode b_O_satisfied 105 = .ok (.goto 4, 3) := by decide +kernel
theorem d_O_satisfied_108 : decode b_O_satisfied 108 = .ok (.iconst 0, 1) := by decide +kernel
theorem d_O_satisfied_109 : decode b_O_satisfied 109 = .ok (.ireturn, 1) := by decide +kernel
theorem d_O_satisfied_110 : decode b_O_satisfied 110 = .ok (.aload_n 0, 1) := by decide +kernel
theorem d_O_satisfied_111 : decode b_O_satisfied 111 = .ok (.getfield 49, 3) := by decide +kernel
theorem d_O_satisfied_114 : decode b_O_satisfied 114 = .ok (.aload_n 0, 1) := by decide +kernel
theorem d_O_satisfied_115 : decode b_O_satisfied 115 = .ok (.iload_n 1, 1) := by decide +kernel
theorem d_O_satisfied_116 : decode b_O_satisfied 116 = .ok (.iconst 0, 1) := by decide +kernel
theorem d_O_satisfied_117 : decode b_O_satisfied 117 = .ok (.invokevirtual 90, 3) := by decide +kernel
theorem d_O_satisfied_120 : decode b_O_satisfied 120 = .ok (.iaload, 1) := by decide +kernel
theorem d_O_satisfied_121 : decode b_O_satisfied 121 = .ok (.iconst 1, 1) := by decide +kernel
theorem d_O_satisfied_122 : decode b_O_satisfied 122 = .ok (.if_icmp .lt 7, 3) := by decide +kernel
theorem d_O_satisfied_125 : decode b_O_satisfied 125 = .ok (.iconst 1, 1) := by decide +kernel
theorem d_O_satisfied_126 : decode b_O_satisfied 126 = .ok (.goto 4, 3) := by decide +kernel
theorem d_O_satisfied_129 : decode b_O_satisfied 129 = .ok (.iconst 0, 1) := by decide +kernel
theorem d_O_satisfied_130 : decode b_O_satisfied 130 = .ok (.aload_n 0, 1) := by decide +kernel
theorem d_O_satisfied_131 : decode b_O_satisfied 131 = .ok (.getfield 49, 3) := by decide +kernel
theorem d_O_satisfied_134 : decode b_O_satisfied 134 = .ok (.aload_n 0, 1) := by decide +kernel
theorem d_O_satisfied_135 : decode b_O_satisfied 135 = .ok (.iload_n 1, 1) := by decide +kernel
theorem d_O_satisfied_136 : decode b_O_satisfied 136 = .ok (.iconst 1, 1) := by decide +kernel
theorem d_O_satisfied_137 : decode b_O_satisfied 137 = .ok (.invokevirtual 90, 3) := by decide +kernel
theorem d_O_satisfied_140 : decode b_O_satisfied 140 = .ok (.iaload, 1) := by decide +kernel
theorem d_O_satisfied_141 : decode b_O_satisfied 141 = .ok (.aload_n 0, 1) := by decide +kernel
theorem d_O_satisfied_142 : decode b_O_satisfied 142 = .ok (.getfield 49, 3) := by decide +kernel
theorem d_O_satisfied_145 : decode b_O_satisfied 145 = .ok (.aload_n 0, 1) := by decide +kernel
theorem d_O_satisfied_146 : decode b_O_satisfied 146 = .ok (.iload_n 1, 1) := by decide +kernel
theorem d_O_satisfied_147 : decode b_O_satisfied 147 = .ok (.iconst 2, 1) := by decide +kernel
theorem d_O_satisfied_148 : decode b_O_satisfied 148 = .ok (.invokevirtual 90, 3) := by decide +kernel
theorem d_O_satisfied_151 : decode b_O_satisfied 151 = .ok (.iaload, 1) := by decide +kernel
theorem d_O_satisfied_152 : decode b_O_satisfied 152 = .ok (.aload_n 0, 1) := by decide +kernel
theorem d_O_satisfied_153 : decode b_O_satisfied 153 = .ok (.iload_n 1, 1) := by decide +kernel
theorem d_O_satisfied_154 : decode b_O_satisfied 154 = .ok (.iconst 3, 1) := by decide +kernel
theorem d_O_satisfied_155 : decode b_O_satisfied 155 = .ok (.invokevirtual 90, 3) := by decide +kernel
theorem d_O_satisfied_158 : decode b_O_satisfied 158 = .ok (.iadd, 1) := by decide +kernel
theorem d_O_satisfied_159 : decode b_O_satisfied 159 = .ok (.if_icmp .gt 7, 3) := by decide +kernel
theorem d_O_satisfied_162 : decode b_O_satisfied 162 = .ok (.iconst 1, 1) := by decide +kernel
theorem d_O_satisfied_163 : decode b_O_satisfied 163 = .ok (.goto 4, 3) := by decide +kernel
theorem d_O_satisfied_166 : decode b_O_satisfied 166 = .ok (.iconst 0, 1) := by decide +kernel
theorem d_O_satisfied_167 : decode b_O_satisfied 167 = .ok (.if_icmp .ne 7, 3) := by decide +kernel
theorem d_O_satisfied_170 : decode b_O_satisfied 170 = .ok (.iconst 1, 1) := by decide +kernel
theorem d_O_satisfied_171 : decode b_O_satisfied 171 = .ok (.goto 4, 3) := by decide +kernel
theorem d_O_satisfied_174 : decode b_O_satisfied 174 = .ok (.iconst 0, 1) := by decide +kernel
theorem d_O_satisfied_175 : decode b_O_satisfied 175 = .ok (.ireturn, 1) := by decide +kernel
theorem d_O_satisfied_176 : decode b_O_satisfied 176 = .ok (.aload_n 0, 1) := by decide +kernel
theorem d_O_satisfied_177 : decode b_O_satisfied 177 = .ok (.getfield 49, 3) := by decide +kernel
theorem d_O_satisfied_180 : decode b_O_satisfied 180 = .ok (.aload_n 0, 1) := by decide +kernel
theorem d_O_satisfied_181 : decode b_O_satisfied 181 = .ok (.iload_n 1, 1) := by decide +kernel
theorem d_O_satisfied_182 : decode b_O_satisfied 182 = .ok (.iconst 0, 1) := by decide +kernel
theorem d_O_satisfied_183 : decode b_O_satisfied 183 = .ok (.invokevirtual 90, 3) := by decide +kernel
theorem d_O_satisfied_186 : decode b_O_satisfied 186 = .ok (.iaload, 1) := by decide +kernel
theorem d_O_satisfied_187 : decode b_O_satisfied 187 = .ok (.aload_n 0, 1) := by decide +kernel
theorem d_O_satisfied_188 : decode b_O_satisfied 188 = .ok (.iload_n 1, 1) := by decide +kernel
theorem d_O_satisfied_189 : decode b_O_satisfied 189 = .ok (.invokevirtual 106, 3) := by decide +kernel
theorem d_O_satisfied_192 : decode b_O_satisfied 192 = .ok (.if_icmp .ne 7, 3) := by decide +kernel
theorem d_O_satisfied_195 : decode b_O_satisfied 195 = .ok (.iconst 1, 1) := by decide +kernel
theorem d_O_satisfied_196 : decode b_O_satisfied 196 = .ok (.goto 4, 3) := by decide +kernel
theorem d_O_satisfied_199 : decode b_O_satisfied 199 = .ok (.iconst 0, 1) := by decide +kernel
theorem d_O_satisfied_200 : decode b_O_satisfied 200 = .ok (.ireturn, 1) := by decide +kernel
theorem d_O_satisfied_201 : decode b_O_satisfied 201 = .ok (.aload_n 0, 1) := by decide +kernel
theorem d_O_satisfied_202 : decode b_O_satisfied 202 = .ok (.iload_n 1, 1) := by decide +kernel
theorem d_O_satisfied_203 : decode b_O_satisfied 203 = .ok (.invokevirtual 110, 3) := by decide +kernel
theorem d_O_satisfied_206 : decode b_O_satisfied 206 = .ok (.ireturn, 1) := by decide +kernel
theorem d_O_satisfied_207 : decode b_O_satisfied 207 = .ok (.aload_n 0, 1) := by decide +kernel
theorem d_O_satisfied_208 : decode b_O_satisfied 208 = .ok (.aload_n 0, 1) := by decide +kernel
theorem d_O_satisfied_209 : decode b_O_satisfied 209 = .ok (.iload_n 1, 1) := by decide +kernel
theorem d_O_satisfied_210 : decode b_O_satisfied 210 = .ok (.iconst 0, 1) := by decide +kernel
theorem d_O_satisfied_211 : decode b_O_satisfied 211 = .ok (.invokevirtual 90, 3) := by decide +kernel
theorem d_O_satisfied_214 : decode b_O_satisfied 214 = .ok (.invokevirtual 113, 3) := by decide +kernel
theorem d_O_satisfied_217 : decode b_O_satisfied 217 = .ok (.ireturn, 1) := by decide +kernel
theorem d_O_satisfied_218 : decode b_O_satisfied 218 = .ok (.aload_n 0, 1) := by decide +kernel
theorem d_O_satisfied_219 : decode b_O_satisfied 219 = .ok (.iload_n 1, 1) := by decide +kernel
theorem d_O_satisfied_220 : decode b_O_satisfied 220 = .ok (.invokevirtual 116, 3) := by decide +kernel
theorem d_O_satisfied_223 : decode b_O_satisfied 223 = .ok (.ireturn, 1) := by decide +kernel
theorem d_O_satisfied_224 : decode b_O_satisfied 224 = .ok (.aload_n 0, 1) := by decide +kernel
theorem d_O_satisfied_225 : decode b_O_satisfied 225 = .ok (.iload_n 1, 1) := by decide +kernel
theorem d_O_satisfied_226 : decode b_O_satisfied 226 = .ok (.invokevirtual 119, 3) := by decide +kernel
theorem d_O_satisfied_229 : decode b_O_satisfied 229 = .ok (.ireturn, 1) := by decide +kernel
set_option maxRecDepth 100000 in
set_option maxHeartbeats 4000000 in
theorem o_satisfied (l : Launch) (D : va_G) (q : Nat → Nat) (n P rw a : Nat) (kn an : Int32) (lw s1 sd kd pa : Nat → Int32) (wd : Nat → Int64) (ao fo uo ho xo : Nat → Int32) (j : Nat) (hj : j < 12) (hn : n ≤ 8) (hok : rowOk (kd j) (oRow pa j)) : Met l y_O_satisfied (wsm y_O_satisfied b_O_satisfied 2 (some .boolean)) { frames := 3, cells := 0, slots := 0, locals := 71 } (va_Pc [.ref (q 0), .int (nI j)] (cPre D (ow D q n P rw a kn an lw s1 sd kd pa wd ao fo uo ho xo))) (vp_Si (fun r => r = zb (oSr n kd pa wd xo j))) 0 0 (fun _ => False) := by
  refine met_R (by decide) (Nat.le_of_ble_eq_true rfl) ?_
  intro p e s m below meth c ls hx hb hr hlocks hml hown hin hA hP hK hD hN hl
  have hown : s.vm.findClass R_O = some m.cls := hown
  have hl : lv_has ls 2 [(0, .ref (q 0)), (1, .int (nI j))] := hl
  refine lv_aload_n hx hb d_O_satisfied_0 rfl (lv_at hl 0 rfl) ?_
  refine va_get (D := D) (ci := 1) (v := .ref (q 4)) (C := R_O) (T := T_O) (N := 17) hx hb hA inA_O hown hK hP 0 rfl rfl 6 (by decide) (hA _ wd_428) (fun _ h9 => h9) rfl d_O_satisfied_1 ?_
  refine lv_iload_n hx hb d_O_satisfied_4 rfl (lv_at hl 1 rfl) ?_
  refine xi_ald hx hb hK hP 4 rfl (by omega) (by decide) d_O_satisfied_5 ?_
  rcases hok with ⟨hk, hb0, hb2, hb4⟩ | ⟨hk, hp0, hp1, hp2⟩ | ⟨hk, hp0, hp1, hb2, hb3⟩ | ⟨hk, hp0, hp1⟩ | hk | hk | ⟨hk, hb0, hb2, hb4⟩
  · skip
    refine topi_to (v := 0) hk ?_
    refine lv_tableIn (off := 38) (tgt := 44) hx hb d_O_satisfied_6 (by decide) (by decide) (by decide) (by decide) ?_
    refine lv_aload_n hx hb d_O_satisfied_44 rfl (lv_at hl 0 rfl) ?_
    refine lv_aload_n hx hb d_O_satisfied_45 rfl (lv_at hl 0 rfl) ?_
    refine lv_iload_n hx hb d_O_satisfied_46 rfl (lv_at hl 1 rfl) ?_
    refine lv_iconst (v := 0) hx hb d_O_satisfied_47 (by decide) ?_
    refine rV (n := 2) (rest := [.ref (q 0)]) hx hb hml hown hA (o_of l D q n P rw a kn an lw s1 sd kd pa wd ao fo uo ho xo j 0 (by omega) (by omega)) wv_O_90 ⟨by decide, by decide, by decide +kernel⟩ ⟨rfl, rfl, by decide, by decide⟩ rfl hl.1 ⟨Nat.le_of_ble_eq_true rfl, Nat.le_of_ble_eq_true rfl⟩ hP hK hD hN 0 1 rfl rfl rfl (Nat.le_of_ble_eq_true rfl) d_O_satisfied_48 (fun r hr9 => ?_)
    subst hr9
    refine lv_aload_n hx hb d_O_satisfied_51 rfl (lv_at hl 0 rfl) ?_
    refine lv_iload_n hx hb d_O_satisfied_52 rfl (lv_at hl 1 rfl) ?_
    refine lv_iconst (v := 1) hx hb d_O_satisfied_53 (by decide) ?_
    refine rV (n := 2) (rest := [.int (oRow pa j 0), .ref (q 0)]) hx hb hml hown hA (o_of l D q n P rw a kn an lw s1 sd kd pa wd ao fo uo ho xo j 1 (by omega) (by omega)) wv_O_90 ⟨by decide, by decide, by decide +kernel⟩ ⟨rfl, rfl, by decide, by decide⟩ rfl hl.1 ⟨Nat.le_of_ble_eq_true rfl, Nat.le_of_ble_eq_true rfl⟩ hP hK hD hN 0 1 rfl rfl rfl (Nat.le_of_ble_eq_true rfl) d_O_satisfied_54 (fun r hr9 => ?_)
    subst hr9
    refine rV (n := 2) (rest := []) hx hb hml hown hA (o_times l D q n P rw a kn an lw s1 sd kd pa wd ao fo uo ho xo (oRow pa j 0) (oRow pa j 1) hb0) wv_O_103 ⟨by decide, by decide, by decide +kernel⟩ ⟨rfl, rfl, by decide, by decide⟩ rfl hl.1 ⟨Nat.le_of_ble_eq_true rfl, Nat.le_of_ble_eq_true rfl⟩ hP hK hD hN 0 1 rfl rfl rfl (Nat.le_of_ble_eq_true rfl) d_O_satisfied_57 (fun r hr9 => ?_)
    subst hr9
    refine lv_aload_n hx hb d_O_satisfied_60 rfl (lv_at hl 0 rfl) ?_
    refine lv_aload_n hx hb d_O_satisfied_61 rfl (lv_at hl 0 rfl) ?_
    refine lv_iload_n hx hb d_O_satisfied_62 rfl (lv_at hl 1 rfl) ?_
    refine lv_iconst (v := 2) hx hb d_O_satisfied_63 (by decide) ?_
    refine rV (n := 2) (rest := [.ref (q 0), .int (tm (oRow pa j 0) (oRow pa j 1) xo)]) hx hb hml hown hA (o_of l D q n P rw a kn an lw s1 sd kd pa wd ao fo uo ho xo j 2 (by omega) (by omega)) wv_O_90 ⟨by decide, by decide, by decide +kernel⟩ ⟨rfl, rfl, by decide, by decide⟩ rfl hl.1 ⟨Nat.le_of_ble_eq_true rfl, Nat.le_of_ble_eq_true rfl⟩ hP hK hD hN 0 1 rfl rfl rfl (Nat.le_of_ble_eq_true rfl) d_O_satisfied_64 (fun r hr9 => ?_)
    subst hr9
    refine lv_aload_n hx hb d_O_satisfied_67 rfl (lv_at hl 0 rfl) ?_
    refine lv_iload_n hx hb d_O_satisfied_68 rfl (lv_at hl 1 rfl) ?_
    refine lv_iconst (v := 3) hx hb d_O_satisfied_69 (by decide) ?_
    refine rV (n := 2) (rest := [.int (oRow pa j 2), .ref (q 0), .int (tm (oRow pa j 0) (oRow pa j 1) xo)]) hx hb hml hown hA (o_of l D q n P rw a kn an lw s1 sd kd pa wd ao fo uo ho xo j 3 (by omega) (by omega)) wv_O_90 ⟨by decide, by decide, by decide +kernel⟩ ⟨rfl, rfl, by decide, by decide⟩ rfl hl.1 ⟨Nat.le_of_ble_eq_true rfl, Nat.le_of_ble_eq_true rfl⟩ hP hK hD hN 0 1 rfl rfl rfl (Nat.le_of_ble_eq_true rfl) d_O_satisfied_70 (fun r hr9 => ?_)
    subst hr9
    refine rV (n := 2) (rest := [.int (tm (oRow pa j 0) (oRow pa j 1) xo)]) hx hb hml hown hA (o_times l D q n P rw a kn an lw s1 sd kd pa wd ao fo uo ho xo (oRow pa j 2) (oRow pa j 3) hb2) wv_O_103 ⟨by decide, by decide, by decide +kernel⟩ ⟨rfl, rfl, by decide, by decide⟩ rfl hl.1 ⟨Nat.le_of_ble_eq_true rfl, Nat.le_of_ble_eq_true rfl⟩ hP hK hD hN 0 1 rfl rfl rfl (Nat.le_of_ble_eq_true rfl) d_O_satisfied_73 (fun r hr9 => ?_)
    subst hr9
    refine lv_iadd hx hb d_O_satisfied_76 ?_
    refine lv_aload_n hx hb d_O_satisfied_77 rfl (lv_at hl 0 rfl) ?_
    refine lv_aload_n hx hb d_O_satisfied_78 rfl (lv_at hl 0 rfl) ?_
    refine lv_iload_n hx hb d_O_satisfied_79 rfl (lv_at hl 1 rfl) ?_
    refine lv_iconst (v := 4) hx hb d_O_satisfied_80 (by decide) ?_
    refine rV (n := 2) (rest := [.ref (q 0), .int ((tm (oRow pa j 0) (oRow pa j 1) xo) + (tm (oRow pa j 2) (oRow pa j 3) xo))]) hx hb hml hown hA (o_of l D q n P rw a kn an lw s1 sd kd pa wd ao fo uo ho xo j 4 (by omega) (by omega)) wv_O_90 ⟨by decide, by decide, by decide +kernel⟩ ⟨rfl, rfl, by decide, by decide⟩ rfl hl.1 ⟨Nat.le_of_ble_eq_true rfl, Nat.le_of_ble_eq_true rfl⟩ hP hK hD hN 0 1 rfl rfl rfl (Nat.le_of_ble_eq_true rfl) d_O_satisfied_81 (fun r hr9 => ?_)
    subst hr9
    refine lv_aload_n hx hb d_O_satisfied_84 rfl (lv_at hl 0 rfl) ?_
    refine lv_iload_n hx hb d_O_satisfied_85 rfl (lv_at hl 1 rfl) ?_
    refine lv_iconst (v := 5) hx hb d_O_satisfied_86 (by decide) ?_
    refine rV (n := 2) (rest := [.int (oRow pa j 4), .ref (q 0), .int ((tm (oRow pa j 0) (oRow pa j 1) xo) + (tm (oRow pa j 2) (oRow pa j 3) xo))]) hx hb hml hown hA (o_of l D q n P rw a kn an lw s1 sd kd pa wd ao fo uo ho xo j 5 (by omega) (by omega)) wv_O_90 ⟨by decide, by decide, by decide +kernel⟩ ⟨rfl, rfl, by decide, by decide⟩ rfl hl.1 ⟨Nat.le_of_ble_eq_true rfl, Nat.le_of_ble_eq_true rfl⟩ hP hK hD hN 0 1 rfl rfl rfl (Nat.le_of_ble_eq_true rfl) d_O_satisfied_87 (fun r hr9 => ?_)
    subst hr9
    refine rV (n := 2) (rest := [.int ((tm (oRow pa j 0) (oRow pa j 1) xo) + (tm (oRow pa j 2) (oRow pa j 3) xo))]) hx hb hml hown hA (o_times l D q n P rw a kn an lw s1 sd kd pa wd ao fo uo ho xo (oRow pa j 4) (oRow pa j 5) hb4) wv_O_103 ⟨by decide, by decide, by decide +kernel⟩ ⟨rfl, rfl, by decide, by decide⟩ rfl hl.1 ⟨Nat.le_of_ble_eq_true rfl, Nat.le_of_ble_eq_true rfl⟩ hP hK hD hN 0 1 rfl rfl rfl (Nat.le_of_ble_eq_true rfl) d_O_satisfied_90 (fun r hr9 => ?_)
    subst hr9
    refine lv_iadd hx hb d_O_satisfied_93 ?_
    refine lv_aload_n hx hb d_O_satisfied_94 rfl (lv_at hl 0 rfl) ?_
    refine lv_iload_n hx hb d_O_satisfied_95 rfl (lv_at hl 1 rfl) ?_
    refine lv_bipush (v := 6) hx hb d_O_satisfied_96 (by decide) ?_
    refine rV (n := 2) (rest := [.int (((tm (oRow pa j 0) (oRow pa j 1) xo) + (tm (oRow pa j 2) (oRow pa j 3) xo)) + (tm (oRow pa j 4) (oRow pa j 5) xo))]) hx hb hml hown hA (o_of l D q n P rw a kn an lw s1 sd kd pa wd ao fo uo ho xo j 6 (by omega) (by omega)) wv_O_90 ⟨by decide, by decide, by decide +kernel⟩ ⟨rfl, rfl, by decide, by decide⟩ rfl hl.1 ⟨Nat.le_of_ble_eq_true rfl, Nat.le_of_ble_eq_true rfl⟩ hP hK hD hN 0 1 rfl rfl rfl (Nat.le_of_ble_eq_true rfl) d_O_satisfied_98 (fun r hr9 => ?_)
    subst hr9
    refine lv_icmp_gt (tgt := 108) hx hb d_O_satisfied_101 (by decide) (fun h101 => ?_) (fun h101 => ?_)
    · skip
      refine lv_iconst (v := 0) hx hb d_O_satisfied_108 (by decide) ?_
      exact eRz hx hb hr hlocks (by first | rfl | decide) (by unfold oSr; rw [oSat_0 hk]; exact zb_f (fun h => h h101)) d_O_satisfied_109
    · skip
      refine lv_iconst (v := 1) hx hb d_O_satisfied_104 (by decide) ?_
      refine lv_goto (tgt := 109) hx hb d_O_satisfied_105 (by decide) ?_
      exact eRz hx hb hr hlocks (by first | rfl | decide) (by unfold oSr; rw [oSat_0 hk]; exact zb_t h101) d_O_satisfied_109
  · skip
    refine topi_to (v := 1) hk ?_
    refine lv_tableIn (off := 104) (tgt := 110) hx hb d_O_satisfied_6 (by decide) (by decide) (by decide) (by decide) ?_
    refine lv_aload_n hx hb d_O_satisfied_110 rfl (lv_at hl 0 rfl) ?_
    refine va_get (D := D) (ci := 1) (v := .ref (q 11)) (C := R_O) (T := T_O) (N := 17) hx hb hA inA_O hown hK hP 0 rfl rfl 16 (by decide) (hA _ wd_438) (fun _ h9 => h9) rfl d_O_satisfied_111 ?_
    refine lv_aload_n hx hb d_O_satisfied_114 rfl (lv_at hl 0 rfl) ?_
    refine lv_iload_n hx hb d_O_satisfied_115 rfl (lv_at hl 1 rfl) ?_
    refine lv_iconst (v := 0) hx hb d_O_satisfied_116 (by decide) ?_
    refine rV (n := 2) (rest := [.ref (q 11)]) hx hb hml hown hA (o_of l D q n P rw a kn an lw s1 sd kd pa wd ao fo uo ho xo j 0 (by omega) (by omega)) wv_O_90 ⟨by decide, by decide, by decide +kernel⟩ ⟨rfl, rfl, by decide, by decide⟩ rfl hl.1 ⟨Nat.le_of_ble_eq_true rfl, Nat.le_of_ble_eq_true rfl⟩ hP hK hD hN 0 1 rfl rfl rfl (Nat.le_of_ble_eq_true rfl) d_O_satisfied_117 (fun r hr9 => ?_)
    subst hr9
    refine va_iald hx hb hK hP 11 0 rfl rfl (hp0) d_O_satisfied_120 ?_
    refine lv_iconst (v := 1) hx hb d_O_satisfied_121 (by decide) ?_
    refine lv_icmp_lt (tgt := 129) hx hb d_O_satisfied_122 (by decide) (fun h122 => ?_) (fun h122 => ?_)
    · skip
      refine lv_iconst (v := 0) hx hb d_O_satisfied_129 (by decide) ?_
      refine lv_aload_n hx hb d_O_satisfied_130 rfl (lv_at hl 0 rfl) ?_
      refine va_get (D := D) (ci := 1) (v := .ref (q 11)) (C := R_O) (T := T_O) (N := 17) hx hb hA inA_O hown hK hP 0 rfl rfl 16 (by decide) (hA _ wd_438) (fun _ h9 => h9) rfl d_O_satisfied_131 ?_
      refine lv_aload_n hx hb d_O_satisfied_134 rfl (lv_at hl 0 rfl) ?_
      refine lv_iload_n hx hb d_O_satisfied_135 rfl (lv_at hl 1 rfl) ?_
      refine lv_iconst (v := 1) hx hb d_O_satisfied_136 (by decide) ?_
      refine rV (n := 2) (rest := [.ref (q 11), .int 0]) hx hb hml hown hA (o_of l D q n P rw a kn an lw s1 sd kd pa wd ao fo uo ho xo j 1 (by omega) (by omega)) wv_O_90 ⟨by decide, by decide, by decide +kernel⟩ ⟨rfl, rfl, by decide, by decide⟩ rfl hl.1 ⟨Nat.le_of_ble_eq_true rfl, Nat.le_of_ble_eq_true rfl⟩ hP hK hD hN 0 1 rfl rfl rfl (Nat.le_of_ble_eq_true rfl) d_O_satisfied_137 (fun r hr9 => ?_)
      subst hr9
      refine va_iald hx hb hK hP 11 0 rfl rfl (hp1) d_O_satisfied_140 ?_
      refine lv_aload_n hx hb d_O_satisfied_141 rfl (lv_at hl 0 rfl) ?_
      refine va_get (D := D) (ci := 1) (v := .ref (q 11)) (C := R_O) (T := T_O) (N := 17) hx hb hA inA_O hown hK hP 0 rfl rfl 16 (by decide) (hA _ wd_438) (fun _ h9 => h9) rfl d_O_satisfied_142 ?_
      refine lv_aload_n hx hb d_O_satisfied_145 rfl (lv_at hl 0 rfl) ?_
      refine lv_iload_n hx hb d_O_satisfied_146 rfl (lv_at hl 1 rfl) ?_
      refine lv_iconst (v := 2) hx hb d_O_satisfied_147 (by decide) ?_
      refine rV (n := 2) (rest := [.ref (q 11), .int (xo (oRow pa j 1).toNatClampNeg), .int 0]) hx hb hml hown hA (o_of l D q n P rw a kn an lw s1 sd kd pa wd ao fo uo ho xo j 2 (by omega) (by omega)) wv_O_90 ⟨by decide, by decide, by decide +kernel⟩ ⟨rfl, rfl, by decide, by decide⟩ rfl hl.1 ⟨Nat.le_of_ble_eq_true rfl, Nat.le_of_ble_eq_true rfl⟩ hP hK hD hN 0 1 rfl rfl rfl (Nat.le_of_ble_eq_true rfl) d_O_satisfied_148 (fun r hr9 => ?_)
      subst hr9
      refine va_iald hx hb hK hP 11 0 rfl rfl (hp2) d_O_satisfied_151 ?_
      refine lv_aload_n hx hb d_O_satisfied_152 rfl (lv_at hl 0 rfl) ?_
      refine lv_iload_n hx hb d_O_satisfied_153 rfl (lv_at hl 1 rfl) ?_
      refine lv_iconst (v := 3) hx hb d_O_satisfied_154 (by decide) ?_
      refine rV (n := 2) (rest := [.int (xo (oRow pa j 2).toNatClampNeg), .int (xo (oRow pa j 1).toNatClampNeg), .int 0]) hx hb hml hown hA (o_of l D q n P rw a kn an lw s1 sd kd pa wd ao fo uo ho xo j 3 (by omega) (by omega)) wv_O_90 ⟨by decide, by decide, by decide +kernel⟩ ⟨rfl, rfl, by decide, by decide⟩ rfl hl.1 ⟨Nat.le_of_ble_eq_true rfl, Nat.le_of_ble_eq_true rfl⟩ hP hK hD hN 0 1 rfl rfl rfl (Nat.le_of_ble_eq_true rfl) d_O_satisfied_155 (fun r hr9 => ?_)
      subst hr9
      refine lv_iadd hx hb d_O_satisfied_158 ?_
      refine lv_icmp_gt (tgt := 166) hx hb d_O_satisfied_159 (by decide) (fun h159 => ?_) (fun h159 => ?_)
      · skip
        refine lv_iconst (v := 0) hx hb d_O_satisfied_166 (by decide) ?_
        refine lv_icmp_ne (tgt := 174) hx hb d_O_satisfied_167 (by decide) (fun h => absurd h (by decide)) (fun _ => ?_)
        refine lv_iconst (v := 1) hx hb d_O_satisfied_170 (by decide) ?_
        refine lv_goto (tgt := 175) hx hb d_O_satisfied_171 (by decide) ?_
        exact eRz hx hb hr hlocks (by first | rfl | decide) (by unfold oSr; rw [oSat_1 hk]; exact zb_t ⟨fun _ => h159, fun _ => h122⟩) d_O_satisfied_175
      · skip
        refine lv_iconst (v := 1) hx hb d_O_satisfied_162 (by decide) ?_
        refine lv_goto (tgt := 167) hx hb d_O_satisfied_163 (by decide) ?_
        refine lv_icmp_ne (tgt := 174) hx hb d_O_satisfied_167 (by decide) (fun _ => ?_) (fun h => absurd h (by decide))
        refine lv_iconst (v := 0) hx hb d_O_satisfied_174 (by decide) ?_
        exact eRz hx hb hr hlocks (by first | rfl | decide) (by unfold oSr; rw [oSat_1 hk]; exact zb_f (fun h => h159 (h.1 h122))) d_O_satisfied_175
    · skip
      refine lv_iconst (v := 1) hx hb d_O_satisfied_125 (by decide) ?_
      refine lv_goto (tgt := 130) hx hb d_O_satisfied_126 (by decide) ?_
      refine lv_aload_n hx hb d_O_satisfied_130 rfl (lv_at hl 0 rfl) ?_
      refine va_get (D := D) (ci := 1) (v := .ref (q 11)) (C := R_O) (T := T_O) (N := 17) hx hb hA inA_O hown hK hP 0 rfl rfl 16 (by decide) (hA _ wd_438) (fun _ h9 => h9) rfl d_O_satisfied_131 ?_
      refine lv_aload_n hx hb d_O_satisfied_134 rfl (lv_at hl 0 rfl) ?_
      refine lv_iload_n hx hb d_O_satisfied_135 rfl (lv_at hl 1 rfl) ?_
      refine lv_iconst (v := 1) hx hb d_O_satisfied_136 (by decide) ?_
      refine rV (n := 2) (rest := [.ref (q 11), .int 1]) hx hb hml hown hA (o_of l D q n P rw a kn an lw s1 sd kd pa wd ao fo uo ho xo j 1 (by omega) (by omega)) wv_O_90 ⟨by decide, by decide, by decide +kernel⟩ ⟨rfl, rfl, by decide, by decide⟩ rfl hl.1 ⟨Nat.le_of_ble_eq_true rfl, Nat.le_of_ble_eq_true rfl⟩ hP hK hD hN 0 1 rfl rfl rfl (Nat.le_of_ble_eq_true rfl) d_O_satisfied_137 (fun r hr9 => ?_)
      subst hr9
      refine va_iald hx hb hK hP 11 0 rfl rfl (hp1) d_O_satisfied_140 ?_
      refine lv_aload_n hx hb d_O_satisfied_141 rfl (lv_at hl 0 rfl) ?_
      refine va_get (D := D) (ci := 1) (v := .ref (q 11)) (C := R_O) (T := T_O) (N := 17) hx hb hA inA_O hown hK hP 0 rfl rfl 16 (by decide) (hA _ wd_438) (fun _ h9 => h9) rfl d_O_satisfied_142 ?_
      refine lv_aload_n hx hb d_O_satisfied_145 rfl (lv_at hl 0 rfl) ?_
      refine lv_iload_n hx hb d_O_satisfied_146 rfl (lv_at hl 1 rfl) ?_
      refine lv_iconst (v := 2) hx hb d_O_satisfied_147 (by decide) ?_
      refine rV (n := 2) (rest := [.ref (q 11), .int (xo (oRow pa j 1).toNatClampNeg), .int 1]) hx hb hml hown hA (o_of l D q n P rw a kn an lw s1 sd kd pa wd ao fo uo ho xo j 2 (by omega) (by omega)) wv_O_90 ⟨by decide, by decide, by decide +kernel⟩ ⟨rfl, rfl, by decide, by decide⟩ rfl hl.1 ⟨Nat.le_of_ble_eq_true rfl, Nat.le_of_ble_eq_true rfl⟩ hP hK hD hN 0 1 rfl rfl rfl (Nat.le_of_ble_eq_true rfl) d_O_satisfied_148 (fun r hr9 => ?_)
      subst hr9
      refine va_iald hx hb hK hP 11 0 rfl rfl (hp2) d_O_satisfied_151 ?_
      refine lv_aload_n hx hb d_O_satisfied_152 rfl (lv_at hl 0 rfl) ?_
      refine lv_iload_n hx hb d_O_satisfied_153 rfl (lv_at hl 1 rfl) ?_
      refine lv_iconst (v := 3) hx hb d_O_satisfied_154 (by decide) ?_
      refine rV (n := 2) (rest := [.int (xo (oRow pa j 2).toNatClampNeg), .int (xo (oRow pa j 1).toNatClampNeg), .int 1]) hx hb hml hown hA (o_of l D q n P rw a kn an lw s1 sd kd pa wd ao fo uo ho xo j 3 (by omega) (by omega)) wv_O_90 ⟨by decide, by decide, by decide +kernel⟩ ⟨rfl, rfl, by decide, by decide⟩ rfl hl.1 ⟨Nat.le_of_ble_eq_true rfl, Nat.le_of_ble_eq_true rfl⟩ hP hK hD hN 0 1 rfl rfl rfl (Nat.le_of_ble_eq_true rfl) d_O_satisfied_155 (fun r hr9 => ?_)
      subst hr9
      refine lv_iadd hx hb d_O_satisfied_158 ?_
      refine lv_icmp_gt (tgt := 166) hx hb d_O_satisfied_159 (by decide) (fun h159 => ?_) (fun h159 => ?_)
      · skip
        refine lv_iconst (v := 0) hx hb d_O_satisfied_166 (by decide) ?_
        refine lv_icmp_ne (tgt := 174) hx hb d_O_satisfied_167 (by decide) (fun _ => ?_) (fun h => absurd h (by decide))
        refine lv_iconst (v := 0) hx hb d_O_satisfied_174 (by decide) ?_
        exact eRz hx hb hr hlocks (by first | rfl | decide) (by unfold oSr; rw [oSat_1 hk]; exact zb_f (fun h => h122 (h.2 h159))) d_O_satisfied_175
      · skip
        refine lv_iconst (v := 1) hx hb d_O_satisfied_162 (by decide) ?_
        refine lv_goto (tgt := 167) hx hb d_O_satisfied_163 (by decide) ?_
        refine lv_icmp_ne (tgt := 174) hx hb d_O_satisfied_167 (by decide) (fun h => absurd h (by decide)) (fun _ => ?_)
        refine lv_iconst (v := 1) hx hb d_O_satisfied_170 (by decide) ?_
        refine lv_goto (tgt := 175) hx hb d_O_satisfied_171 (by decide) ?_
        exact eRz hx hb hr hlocks (by first | rfl | decide) (by unfold oSr; rw [oSat_1 hk]; exact zb_t ⟨fun h => absurd h h122, fun h => absurd h h159⟩) d_O_satisfied_175
  · skip
    refine topi_to (v := 2) hk ?_
    refine lv_tableIn (off := 170) (tgt := 176) hx hb d_O_satisfied_6 (by decide) (by decide) (by decide) (by decide) ?_
    refine lv_aload_n hx hb d_O_satisfied_176 rfl (lv_at hl 0 rfl) ?_
    refine va_get (D := D) (ci := 1) (v := .ref (q 11)) (C := R_O) (T := T_O) (N := 17) hx hb hA inA_O hown hK hP 0 rfl rfl 16 (by decide) (hA _ wd_438) (fun _ h9 => h9) rfl d_O_satisfied_177 ?_
    refine lv_aload_n hx hb d_O_satisfied_180 rfl (lv_at hl 0 rfl) ?_
    refine lv_iload_n hx hb d_O_satisfied_181 rfl (lv_at hl 1 rfl) ?_
    refine lv_iconst (v := 0) hx hb d_O_satisfied_182 (by decide) ?_
    refine rV (n := 2) (rest := [.ref (q 11)]) hx hb hml hown hA (o_of l D q n P rw a kn an lw s1 sd kd pa wd ao fo uo ho xo j 0 (by omega) (by omega)) wv_O_90 ⟨by decide, by decide, by decide +kernel⟩ ⟨rfl, rfl, by decide, by decide⟩ rfl hl.1 ⟨Nat.le_of_ble_eq_true rfl, Nat.le_of_ble_eq_true rfl⟩ hP hK hD hN 0 1 rfl rfl rfl (Nat.le_of_ble_eq_true rfl) d_O_satisfied_183 (fun r hr9 => ?_)
    subst hr9
    refine va_iald hx hb hK hP 11 0 rfl rfl (hp0) d_O_satisfied_186 ?_
    refine lv_aload_n hx hb d_O_satisfied_187 rfl (lv_at hl 0 rfl) ?_
    refine lv_iload_n hx hb d_O_satisfied_188 rfl (lv_at hl 1 rfl) ?_
    refine rV (n := 1) (rest := [.int (xo (oRow pa j 0).toNatClampNeg)]) hx hb hml hown hA (o_greatestOf l D q n P rw a kn an lw s1 sd kd pa wd ao fo uo ho xo j hj hp1 hb2 hb3) wv_O_106 ⟨by decide, by decide, by decide +kernel⟩ ⟨rfl, rfl, by decide, by decide⟩ rfl hl.1 ⟨Nat.le_of_ble_eq_true rfl, Nat.le_of_ble_eq_true rfl⟩ hP hK hD hN 0 1 rfl rfl rfl (Nat.le_of_ble_eq_true rfl) d_O_satisfied_189 (fun r hr9 => ?_)
    subst hr9
    refine lv_icmp_ne (tgt := 199) hx hb d_O_satisfied_192 (by decide) (fun h192 => ?_) (fun h192 => ?_)
    · skip
      refine lv_iconst (v := 0) hx hb d_O_satisfied_199 (by decide) ?_
      exact eRz hx hb hr hlocks (by first | rfl | decide) (by unfold oSr; rw [oSat_2 hk]; exact zb_f h192) d_O_satisfied_200
    · skip
      refine lv_iconst (v := 1) hx hb d_O_satisfied_195 (by decide) ?_
      refine lv_goto (tgt := 200) hx hb d_O_satisfied_196 (by decide) ?_
      exact eRz hx hb hr hlocks (by first | rfl | decide) (by unfold oSr; rw [oSat_2 hk]; exact zb_t h192) d_O_satisfied_200
  · skip
    refine topi_to (v := 3) hk ?_
    refine lv_tableIn (off := 195) (tgt := 201) hx hb d_O_satisfied_6 (by decide) (by decide) (by decide) (by decide) ?_
    refine lv_aload_n hx hb d_O_satisfied_201 rfl (lv_at hl 0 rfl) ?_
    refine lv_iload_n hx hb d_O_satisfied_202 rfl (lv_at hl 1 rfl) ?_
    refine rV (n := 1) (rest := []) hx hb hml hown hA (o_entryIs l D q n P rw a kn an lw s1 sd kd pa wd ao fo uo ho xo j hj hp0 hp1) wv_O_110 ⟨by decide, by decide, by decide +kernel⟩ ⟨rfl, rfl, by decide, by decide⟩ rfl hl.1 ⟨Nat.le_of_ble_eq_true rfl, Nat.le_of_ble_eq_true rfl⟩ hP hK hD hN 0 1 rfl rfl rfl (Nat.le_of_ble_eq_true rfl) d_O_satisfied_203 (fun r hr9 => ?_)
    rcases zb_c hr9 with ⟨rfl, h203⟩ | ⟨rfl, h203⟩
    · skip
      exact eRz hx hb hr hlocks (by first | rfl | decide) (by unfold oSr; rw [oSat_3 hk]; exact zb_t h203) d_O_satisfied_206
    · skip
      exact eRz hx hb hr hlocks (by first | rfl | decide) (by unfold oSr; rw [oSat_3 hk]; exact zb_f h203) d_O_satisfied_206
  · skip
    refine topi_to (v := 4) hk ?_
    refine lv_tableIn (off := 201) (tgt := 207) hx hb d_O_satisfied_6 (by decide) (by decide) (by decide) (by decide) ?_
    refine lv_aload_n hx hb d_O_satisfied_207 rfl (lv_at hl 0 rfl) ?_
    refine lv_aload_n hx hb d_O_satisfied_208 rfl (lv_at hl 0 rfl) ?_
    refine lv_iload_n hx hb d_O_satisfied_209 rfl (lv_at hl 1 rfl) ?_
    refine lv_iconst (v := 0) hx hb d_O_satisfied_210 (by decide) ?_
    refine rV (n := 2) (rest := [.ref (q 0)]) hx hb hml hown hA (o_of l D q n P rw a kn an lw s1 sd kd pa wd ao fo uo ho xo j 0 (by omega) (by omega)) wv_O_90 ⟨by decide, by decide, by decide +kernel⟩ ⟨rfl, rfl, by decide, by decide⟩ rfl hl.1 ⟨Nat.le_of_ble_eq_true rfl, Nat.le_of_ble_eq_true rfl⟩ hP hK hD hN 0 1 rfl rfl rfl (Nat.le_of_ble_eq_true rfl) d_O_satisfied_211 (fun r hr9 => ?_)
    subst hr9
    refine rV (n := 1) (rest := []) hx hb hml hown hA (o_differ l D q n P rw a kn an lw s1 sd kd pa wd ao fo uo ho xo (oRow pa j 0) hn) wv_O_113 ⟨by decide, by decide, by decide +kernel⟩ ⟨rfl, rfl, by decide, by decide⟩ rfl hl.1 ⟨Nat.le_of_ble_eq_true rfl, Nat.le_of_ble_eq_true rfl⟩ hP hK hD hN 0 1 rfl rfl rfl (Nat.le_of_ble_eq_true rfl) d_O_satisfied_214 (fun r hr9 => ?_)
    rcases zb_c hr9 with ⟨rfl, h214⟩ | ⟨rfl, h214⟩
    · skip
      exact eRz hx hb hr hlocks (by first | rfl | decide) (by unfold oSr; rw [oSat_4 hk]; exact zb_t h214) d_O_satisfied_217
    · skip
      exact eRz hx hb hr hlocks (by first | rfl | decide) (by unfold oSr; rw [oSat_4 hk]; exact zb_f h214) d_O_satisfied_217
  · skip
    refine topi_to (v := 5) hk ?_
    refine lv_tableIn (off := 212) (tgt := 218) hx hb d_O_satisfied_6 (by decide) (by decide) (by decide) (by decide) ?_
    refine lv_aload_n hx hb d_O_satisfied_218 rfl (lv_at hl 0 rfl) ?_
    refine lv_iload_n hx hb d_O_satisfied_219 rfl (lv_at hl 1 rfl) ?_
    refine rV (n := 1) (rest := []) hx hb hml hown hA (o_fits l D q n P rw a kn an lw s1 sd kd pa wd ao fo uo ho xo j hj hn) wv_O_116 ⟨by decide, by decide, by decide +kernel⟩ ⟨rfl, rfl, by decide, by decide⟩ rfl hl.1 ⟨Nat.le_of_ble_eq_true rfl, Nat.le_of_ble_eq_true rfl⟩ hP hK hD hN 0 1 rfl rfl rfl (Nat.le_of_ble_eq_true rfl) d_O_satisfied_220 (fun r hr9 => ?_)
    rcases zb_c hr9 with ⟨rfl, h220⟩ | ⟨rfl, h220⟩
    · skip
      exact eRz hx hb hr hlocks (by first | rfl | decide) (by unfold oSr; rw [oSat_5 hk]; exact zb_t h220) d_O_satisfied_223
    · skip
      exact eRz hx hb hr hlocks (by first | rfl | decide) (by unfold oSr; rw [oSat_5 hk]; exact zb_f h220) d_O_satisfied_223
  · skip
    refine topi_to (v := 6) hk ?_
    refine lv_tableOut (tgt := 224) hx hb d_O_satisfied_6 (Or.inr (by decide)) (by decide) ?_
    have hbx : ∀ a9, a9 < 3 → bx (oRow pa j (2 * a9)) := fun a9 h9 => by
      rcases (show a9 = 0 ∨ a9 = 1 ∨ a9 = 2 by omega) with rfl | rfl | rfl
      · exact hb0
      · exact hb2
      · exact hb4
    refine lv_aload_n hx hb d_O_satisfied_224 rfl (lv_at hl 0 rfl) ?_
    refine lv_iload_n hx hb d_O_satisfied_225 rfl (lv_at hl 1 rfl) ?_
    refine rV (n := 1) (rest := []) hx hb hml hown hA (o_anyPart l D q n P rw a kn an lw s1 sd kd pa wd ao fo uo ho xo j hj hbx) wv_O_119 ⟨by decide, by decide, by decide +kernel⟩ ⟨rfl, rfl, by decide, by decide⟩ rfl hl.1 ⟨Nat.le_of_ble_eq_true rfl, Nat.le_of_ble_eq_true rfl⟩ hP hK hD hN 0 1 rfl rfl rfl (Nat.le_of_ble_eq_true rfl) d_O_satisfied_226 (fun r hr9 => ?_)
    rcases zb_c hr9 with ⟨rfl, h226⟩ | ⟨rfl, h226⟩
    · skip
      exact eRz hx hb hr hlocks (by first | rfl | decide) (by unfold oSr; rw [oSat_6 hk]; exact zb_t h226) d_O_satisfied_229
    · skip
      exact eRz hx hb hr hlocks (by first | rfl | decide) (by unfold oSr; rw [oSat_6 hk]; exact zb_f h226) d_O_satisfied_229
end
