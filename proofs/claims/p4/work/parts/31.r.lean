set_option maxHeartbeats 2000000 in
set_option maxRecDepth 100000 in
theorem n_X7_two (l : Launch) (D : va_G) (ad : Nat → Nat) (cy : Nat → ClassId) (tl : Int32) (A : Nat → Prop) (p0 : Int32) : zMi l yX7_two wz_X7_two ({ frames := 7, cells := 0, slots := 0, locals := 156 }) [.ref (ad 0), .int p0] D (zTr cy) A (zMr D A ad cy tl) (fun r H => zI 0 1 r ∧ (zMr D A ad cy tl) H) := by
  refine zstart_i (cc := cX7_two) (maxL := 8) (ty := .boolean) (own := RX7) (by decide) rfl rfl (Nat.le_of_ble_eq_true rfl) (fun p e s m args below meth c Q C r => ?_)
  have J228 : ∀ (a2_228 : Int32) (a3_228 : Int32) (a4_228 : Int32) (a5_228 : Int32) (a6_228 : Int32) (a7_228 : Int32) (_ : zI 0 1 a2_228) (_ : zI 0 65535 a3_228) (_ : zI 0 65535 a4_228) (_ : zI 0 65535 a5_228) (_ : zI 0 7 a7_228), zG p l e ({ frames := 7, cells := 0, slots := 0, locals := 156 }) s m args below meth c 8 0 0 A Q (zMr D A ad cy tl) 228 [(0, .ref (ad 0)), (1, .int p0), (2, .int a2_228), (3, .int a3_228), (4, .int a4_228), (5, .int a5_228), (6, .int a6_228), (7, .int a7_228)] [] := by
    intro a2_228 a3_228 a4_228 a5_228 a6_228 a7_228 ha2_228 ha3_228 ha4_228 ha5_228 ha7_228
    refine g_iconst (pc := 228) C 1 dX7_two_228 (by decide) ?_
    exact g_ireturn r dX7_two_229 rfl (fun _ h => ⟨(zi_c 1 (a := 0) (b := 1) (by decide)), h⟩)
  have J213 : ∀ (a2_213 : Int32) (a3_213 : Int32) (a4_213 : Int32) (a5_213 : Int32) (a6_213 : Int32) (a7_213 : Int32) (_ : zI 0 1 a2_213) (_ : zI 0 65535 a3_213) (_ : zI 0 65535 a4_213) (_ : zI 0 65535 a5_213) (_ : zI 0 7 a7_213), zG p l e ({ frames := 7, cells := 0, slots := 0, locals := 156 }) s m args below meth c 8 0 0 A Q (zMr D A ad cy tl) 213 [(0, .ref (ad 0)), (1, .int p0), (2, .int a2_213), (3, .int a3_213), (4, .int a4_213), (5, .int a5_213), (6, .int a6_213), (7, .int a7_213)] [] := by
    intro a2_213 a3_213 a4_213 a5_213 a6_213 a7_213 ha2_213 ha3_213 ha4_213 ha5_213 ha7_213
    refine g_iload (pc := 213) C dX7_two_213 7 rfl ?_
    refine g_iconst (pc := 215) C 4 dX7_two_215 (by decide) ?_
    refine g_icmp_eq (pc := 216) C 228 dX7_two_216 (by decide) (fun c1 => ?_) (fun c1 => ?_)
    · have h2 : zI 4 4 a7_213 := zr_eq c1 ha7_213 (zi_c 4 (a := 4) (b := 4) (by decide)) (by decide)
      exact g_sub [0, 1, 2, 3, 4, 5, 6, 7] rfl (J228 a2_213 a3_213 a4_213 a5_213 a6_213 a7_213 ha2_213 ha3_213 ha4_213 ha5_213 (zi_w h2 (a' := 0) (b' := 7) (by decide)))
    · refine g_aload_n (pc := 219) C dX7_two_219 rfl 0 rfl ?_
      refine g_iload (pc := 220) C dX7_two_220 4 rfl ?_
      refine g_iload (pc := 222) C dX7_two_222 6 rfl ?_
      refine g_iload_n (pc := 224) C dX7_two_224 rfl 2 rfl ?_
      refine zcallVv (pc := 225) (st := []) C C.2.2.2.2.2 (n_X7_write l D ad cy tl A a4_213 a6_213 a2_213 ha4_213) (cwV 3 C.2.2.2.2.1 gw_RX7_171 rfl rfl rfl cd_X7_write ⟨Nat.le_of_ble_eq_true rfl, Nat.le_of_ble_eq_true rfl⟩) (hr_0 C) rfl rfl (Nat.le_of_ble_eq_true rfl) ⟨Nat.le_of_ble_eq_true rfl, Nat.le_of_ble_eq_true rfl⟩ dX7_two_225 ?_
      exact g_sub [0, 1, 2, 3, 4, 5, 6, 7] rfl (J228 a2_213 a3_213 a4_213 a5_213 a6_213 a7_213 ha2_213 ha3_213 ha4_213 ha5_213 ha7_213)
  have J210 : ∀ (a2_210 : Int32) (a3_210 : Int32) (a4_210 : Int32) (a5_210 : Int32) (a6_210 : Int32) (a7_210 : Int32) (b0_210 : Int32) (_ : zI 1 1 a2_210) (_ : zI 0 65535 a3_210) (_ : zI 0 65535 a4_210) (_ : zI 0 65535 a5_210) (_ : zI 0 7 a7_210), zG p l e ({ frames := 7, cells := 0, slots := 0, locals := 156 }) s m args below meth c 8 0 0 A Q (zMr D A ad cy tl) 210 [(0, .ref (ad 0)), (1, .int p0), (2, .int a2_210), (3, .int a3_210), (4, .int a4_210), (5, .int a5_210), (6, .int a6_210), (7, .int a7_210)] [.int b0_210, .ref (ad 0)] := by
    intro a2_210 a3_210 a4_210 a5_210 a6_210 a7_210 b0_210 ha2_210 ha3_210 ha4_210 ha5_210 ha7_210
    refine zcallVv (pc := 210) (st := []) C C.2.2.2.2.2 (n_X7_odd l D ad cy tl A b0_210) (cwV 1 C.2.2.2.2.1 gw_RX7_168 rfl rfl rfl cd_X7_odd ⟨Nat.le_of_ble_eq_true rfl, Nat.le_of_ble_eq_true rfl⟩) (hr_0 C) rfl rfl (Nat.le_of_ble_eq_true rfl) ⟨Nat.le_of_ble_eq_true rfl, Nat.le_of_ble_eq_true rfl⟩ dX7_two_210 ?_
    exact g_sub [0, 1, 2, 3, 4, 5, 6, 7] rfl (J213 a2_210 a3_210 a4_210 a5_210 a6_210 a7_210 (zi_w ha2_210 (a' := 0) (b' := 1) (by decide)) ha3_210 ha4_210 ha5_210 ha7_210)
  have J193 : ∀ (a2_193 : Int32) (a3_193 : Int32) (a4_193 : Int32) (a5_193 : Int32) (a6_193 : Int32) (a7_193 : Int32) (_ : zI 0 1 a2_193) (_ : zI 0 65535 a3_193) (_ : zI 0 65535 a4_193) (_ : zI 0 65535 a5_193) (_ : zI 0 7 a7_193), zG p l e ({ frames := 7, cells := 0, slots := 0, locals := 156 }) s m args below meth c 8 0 0 A Q (zMr D A ad cy tl) 193 [(0, .ref (ad 0)), (1, .int p0), (2, .int a2_193), (3, .int a3_193), (4, .int a4_193), (5, .int a5_193), (6, .int a6_193), (7, .int a7_193)] [] := by
    intro a2_193 a3_193 a4_193 a5_193 a6_193 a7_193 ha2_193 ha3_193 ha4_193 ha5_193 ha7_193
    refine g_iload_n (pc := 193) C dX7_two_193 rfl 2 rfl ?_
    refine g_if_eq (pc := 194) C 213 dX7_two_194 (by decide) (fun c3 => ?_) (fun c3 => ?_)
    · have h4 : zI 0 0 a2_193 := zr_eq c3 ha2_193 (zi_c 0 (a := 0) (b := 0) (by decide)) (by decide)
      exact g_sub [0, 1, 2, 3, 4, 5, 6, 7] rfl (J213 a2_193 a3_193 a4_193 a5_193 a6_193 a7_193 (zi_w h4 (a' := 0) (b' := 1) (by decide)) ha3_193 ha4_193 ha5_193 ha7_193)
    · have h5 : zI 1 1 a2_193 := zr_neL c3 ha2_193 (zi_c 0 (a := 0) (b := 0) (by decide)) (by decide)
      refine g_aload_n (pc := 197) C dX7_two_197 rfl 0 rfl ?_
      refine g_iload (pc := 198) C dX7_two_198 7 rfl ?_
      refine g_iconst (pc := 200) C 4 dX7_two_200 (by decide) ?_
      refine g_icmp_ne (pc := 201) C 208 dX7_two_201 (by decide) (fun c6 => ?_) (fun c6 => ?_)
      · refine g_iload (pc := 208) C dX7_two_208 6 rfl ?_
        exact g_sub [0, 1, 2, 3, 4, 5, 6, 7] rfl (J210 a2_193 a3_193 a4_193 a5_193 a6_193 a7_193 a6_193 h5 ha3_193 ha4_193 ha5_193 ha7_193)
      · have h7 : zI 4 4 a7_193 := zr_eq c6 ha7_193 (zi_c 4 (a := 4) (b := 4) (by decide)) (by decide)
        refine g_iload_n (pc := 204) C dX7_two_204 rfl 3 rfl ?_
        refine g_goto (pc := 205) C 210 dX7_two_205 (by decide) ?_
        exact g_sub [0, 1, 2, 3, 4, 5, 6, 7] rfl (J210 a2_193 a3_193 a4_193 a5_193 a6_193 a7_193 a3_193 h5 ha3_193 ha4_193 ha5_193 (zi_w h7 (a' := 0) (b' := 7) (by decide)))
  have J185 : ∀ (a2_185 : Int32) (a3_185 : Int32) (a4_185 : Int32) (a5_185 : Int32) (a6_185 : Int32) (a7_185 : Int32) (_ : zI 0 1 a2_185) (_ : zI 0 65535 a3_185) (_ : zI 0 65535 a4_185) (_ : zI 0 65535 a5_185) (_ : zI 2 7 a7_185), zG p l e ({ frames := 7, cells := 0, slots := 0, locals := 156 }) s m args below meth c 8 0 0 A Q (zMr D A ad cy tl) 185 [(0, .ref (ad 0)), (1, .int p0), (2, .int a2_185), (3, .int a3_185), (4, .int a4_185), (5, .int a5_185), (6, .int a6_185), (7, .int a7_185)] [] := by
    intro a2_185 a3_185 a4_185 a5_185 a6_185 a7_185 ha2_185 ha3_185 ha4_185 ha5_185 ha7_185
    refine g_aload_n (pc := 185) C dX7_two_185 rfl 0 rfl ?_
    refine g_iload (pc := 186) C dX7_two_186 6 rfl ?_
    refine g_iconst (pc := 188) C 0 dX7_two_188 (by decide) ?_
    refine g_iload_n (pc := 189) C dX7_two_189 rfl 2 rfl ?_
    refine zcallVv (pc := 190) (st := []) C C.2.2.2.2.2 (n_X7_compare l D ad cy tl A a6_185 0 a2_185) (cwV 3 C.2.2.2.2.1 gw_RX7_151 rfl rfl rfl cd_X7_compare ⟨Nat.le_of_ble_eq_true rfl, Nat.le_of_ble_eq_true rfl⟩) (hr_0 C) rfl rfl (Nat.le_of_ble_eq_true rfl) ⟨Nat.le_of_ble_eq_true rfl, Nat.le_of_ble_eq_true rfl⟩ dX7_two_190 ?_
    exact g_sub [0, 1, 2, 3, 4, 5, 6, 7] rfl (J193 a2_185 a3_185 a4_185 a5_185 a6_185 a7_185 ha2_185 ha3_185 ha4_185 ha5_185 (zi_w ha7_185 (a' := 0) (b' := 7) (by decide)))
  have J172 : ∀ (a2_172 : Int32) (a3_172 : Int32) (a4_172 : Int32) (a5_172 : Int32) (a6_172 : Int32) (a7_172 : Int32) (_ : zI 0 1 a2_172) (_ : zI 0 65535 a3_172) (_ : zI 0 65535 a4_172) (_ : zI 0 65535 a5_172) (_ : zI 0 7 a7_172), zG p l e ({ frames := 7, cells := 0, slots := 0, locals := 156 }) s m args below meth c 8 0 0 A Q (zMr D A ad cy tl) 172 [(0, .ref (ad 0)), (1, .int p0), (2, .int a2_172), (3, .int a3_172), (4, .int a4_172), (5, .int a5_172), (6, .int a6_172), (7, .int a7_172)] [] := by
    intro a2_172 a3_172 a4_172 a5_172 a6_172 a7_172 ha2_172 ha3_172 ha4_172 ha5_172 ha7_172
    refine g_iload (pc := 172) C dX7_two_172 7 rfl ?_
    refine g_iconst (pc := 174) C 2 dX7_two_174 (by decide) ?_
    refine g_icmp_eq (pc := 175) C 185 dX7_two_175 (by decide) (fun c8 => ?_) (fun c8 => ?_)
    · have h9 : zI 2 2 a7_172 := zr_eq c8 ha7_172 (zi_c 2 (a := 2) (b := 2) (by decide)) (by decide)
      exact g_sub [0, 1, 2, 3, 4, 5, 6, 7] rfl (J185 a2_172 a3_172 a4_172 a5_172 a6_172 a7_172 ha2_172 ha3_172 ha4_172 ha5_172 (zi_w h9 (a' := 2) (b' := 7) (by decide)))
    · refine g_iload (pc := 178) C dX7_two_178 7 rfl ?_
      refine g_bipush (pc := 180) C 6 dX7_two_180 (by decide) ?_
      refine g_icmp_lt (pc := 182) C 193 dX7_two_182 (by decide) (fun c10 => ?_) (fun c10 => ?_)
      · have h11 : zI 0 5 a7_172 := zr_lt1 (zc_lt c10) ha7_172 (zi_c 6 (a := 6) (b := 6) (by decide)) (by decide)
        exact g_sub [0, 1, 2, 3, 4, 5, 6, 7] rfl (J193 a2_172 a3_172 a4_172 a5_172 a6_172 a7_172 ha2_172 ha3_172 ha4_172 ha5_172 (zi_w h11 (a' := 0) (b' := 7) (by decide)))
      · have h12 : zI 6 7 a7_172 := zr_le2 (zc_nlt c10) (zi_c 6 (a := 6) (b := 6) (by decide)) ha7_172 (by decide)
        exact g_sub [0, 1, 2, 3, 4, 5, 6, 7] rfl (J185 a2_172 a3_172 a4_172 a5_172 a6_172 a7_172 ha2_172 ha3_172 ha4_172 ha5_172 (zi_w h12 (a' := 2) (b' := 7) (by decide)))
  have J41 : ∀ (a2_41 : Int32) (a3_41 : Int32) (_ : zI 0 1 a2_41) (_ : zI 0 65535 a3_41), zG p l e ({ frames := 7, cells := 0, slots := 0, locals := 156 }) s m args below meth c 8 0 0 A Q (zMr D A ad cy tl) 41 [(0, .ref (ad 0)), (1, .int p0), (2, .int a2_41), (3, .int a3_41)] [] := by
    intro a2_41 a3_41 ha2_41 ha3_41
    refine g_aload_n (pc := 41) C dX7_two_41 rfl 0 rfl ?_
    refine g_iload_n (pc := 42) C dX7_two_42 rfl 1 rfl ?_
    refine g_bipush (pc := 43) C 6 dX7_two_43 (by decide) ?_
    refine g_ishr (pc := 45) C dX7_two_45 (fun z13 ez13 => ?_)
    refine g_bipush (pc := 46) C 63 dX7_two_46 (by decide) ?_
    refine g_iand (pc := 48) C dX7_two_48 (fun z14 ez14 => ?_)
    have hz14 : zI 0 63 z14 := zi_and1 (zi_c 63 (a := 0) (b := 63) (by decide)) ez14
    refine g_iload_n (pc := 49) C dX7_two_49 rfl 2 rfl ?_
    refine zcallVi (pc := 50) (st := []) C C.2.2.2.2.2 (n_X7_operand l D ad cy tl A z14 a2_41) (cwV 2 C.2.2.2.2.1 gw_RX7_155 rfl rfl rfl cd_X7_operand ⟨Nat.le_of_ble_eq_true rfl, Nat.le_of_ble_eq_true rfl⟩) (hr_0 C) rfl rfl (Nat.le_of_ble_eq_true rfl) ⟨Nat.le_of_ble_eq_true rfl, Nat.le_of_ble_eq_true rfl⟩ dX7_two_50 (fun r15 => ?_)
    refine g_and (M2 := (zMr D A ad cy tl)) (fun hr15 => ?_)
    refine g_istore (pc := 53) C ([(4, .int r15), (0, .ref (ad 0)), (1, .int p0), (2, .int a2_41), (3, .int a3_41)]) dX7_two_53 (Nat.le_of_ble_eq_true rfl) rfl ?_
    refine g_aload_n (pc := 55) C dX7_two_55 rfl 1 rfl ?_
    refine g_iload (pc := 56) C dX7_two_56 0 rfl ?_
    refine g_iload_n (pc := 58) C dX7_two_58 rfl 3 rfl ?_
    refine zcallVi (pc := 59) (st := []) C C.2.2.2.2.2 (n_X7_read l D ad cy tl A r15 a2_41 hr15) (cwV 2 C.2.2.2.2.1 gw_RX7_158 rfl rfl rfl cd_X7_read ⟨Nat.le_of_ble_eq_true rfl, Nat.le_of_ble_eq_true rfl⟩) (hr_0 C) rfl rfl (Nat.le_of_ble_eq_true rfl) ⟨Nat.le_of_ble_eq_true rfl, Nat.le_of_ble_eq_true rfl⟩ dX7_two_59 (fun r16 => ?_)
    refine g_and (M2 := (zMr D A ad cy tl)) (fun hr16 => ?_)
    refine g_istore (pc := 62) C ([(5, .int r16), (4, .int r15), (0, .ref (ad 0)), (1, .int p0), (2, .int a2_41), (3, .int a3_41)]) dX7_two_62 (Nat.le_of_ble_eq_true rfl) rfl ?_
    refine g_iload (pc := 64) C dX7_two_64 0 rfl ?_
    refine g_istore (pc := 66) C ([(6, .int r16), (5, .int r16), (4, .int r15), (0, .ref (ad 0)), (1, .int p0), (2, .int a2_41), (3, .int a3_41)]) dX7_two_66 (Nat.le_of_ble_eq_true rfl) rfl ?_
    refine g_iload_n (pc := 68) C dX7_two_68 rfl 4 rfl ?_
    refine g_bipush (pc := 69) C 13 dX7_two_69 (by decide) ?_
    refine g_ishr (pc := 71) C dX7_two_71 (fun z17 ez17 => ?_)
    refine g_bipush (pc := 72) C 7 dX7_two_72 (by decide) ?_
    refine g_iand (pc := 74) C dX7_two_74 (fun z18 ez18 => ?_)
    have hz18 : zI 0 7 z18 := zi_and1 (zi_c 7 (a := 0) (b := 7) (by decide)) ez18
    refine g_istore (pc := 75) C ([(7, .int z18), (6, .int r16), (5, .int r16), (4, .int r15), (0, .ref (ad 0)), (1, .int p0), (2, .int a2_41), (3, .int a3_41)]) dX7_two_75 (Nat.le_of_ble_eq_true rfl) rfl ?_
    refine g_iload (pc := 77) C dX7_two_77 0 rfl ?_
    refine g_tableI (pc := 79) C 0 7 (zi_w hz18 (a' := 0) (b' := 0 + (7 : Nat)) (by decide)) [166, 112, 123, 136, 147, 160] dX7_two_79 (by decide) (by decide) (by decide) (List.forall_mem_cons.mpr ⟨?_, (List.forall_mem_cons.mpr ⟨?_, (List.forall_mem_cons.mpr ⟨?_, (List.forall_mem_cons.mpr ⟨?_, (List.forall_mem_cons.mpr ⟨?_, (List.forall_mem_cons.mpr ⟨?_, fun _ h => absurd h List.not_mem_nil⟩)⟩)⟩)⟩)⟩)⟩)
    · refine g_iload (pc := 166) C dX7_two_166 2 rfl ?_
      refine g_iload_n (pc := 168) C dX7_two_168 rfl 7 rfl ?_
      refine g_ior (pc := 169) C dX7_two_169 (fun z19 ez19 => ?_)
      refine g_istore (pc := 170) C ([(6, .int z19), (7, .int z18), (5, .int r16), (4, .int r15), (0, .ref (ad 0)), (1, .int p0), (2, .int a2_41), (3, .int a3_41)]) dX7_two_170 (Nat.le_of_ble_eq_true rfl) rfl ?_
      exact g_sub [4, 5, 6, 7, 3, 2, 0, 1] rfl (J172 a2_41 a3_41 r15 r16 z19 z18 ha2_41 ha3_41 hr15 hr16 hz18)
    · refine g_iload (pc := 112) C dX7_two_112 2 rfl ?_
      refine g_iload_n (pc := 114) C dX7_two_114 rfl 7 rfl ?_
      refine g_iconst (pc := 115) C (-1) dX7_two_115 (by decide) ?_
      refine g_ixor (pc := 116) C dX7_two_116 (fun z20 ez20 => ?_)
      refine g_iand (pc := 117) C dX7_two_117 (fun z21 ez21 => ?_)
      have hz21 : zI 0 65535 z21 := zi_and2 hr16 ez21
      refine g_istore (pc := 118) C ([(6, .int z21), (7, .int z18), (5, .int r16), (4, .int r15), (0, .ref (ad 0)), (1, .int p0), (2, .int a2_41), (3, .int a3_41)]) dX7_two_118 (Nat.le_of_ble_eq_true rfl) rfl ?_
      refine g_goto (pc := 120) C 172 dX7_two_120 (by decide) ?_
      exact g_sub [4, 5, 6, 7, 3, 2, 0, 1] rfl (J172 a2_41 a3_41 r15 r16 z21 z18 ha2_41 ha3_41 hr15 hr16 hz18)
    · refine g_aload_n (pc := 123) C dX7_two_123 rfl 4 rfl ?_
      refine g_iload (pc := 124) C dX7_two_124 2 rfl ?_
      refine g_iload_n (pc := 126) C dX7_two_126 rfl 7 rfl ?_
      refine g_iload_n (pc := 127) C dX7_two_127 rfl 6 rfl ?_
      refine zcallVi (pc := 128) (st := []) C C.2.2.2.2.2 (n_X7_less l D ad cy tl A r16 a3_41 a2_41) (cwV 3 C.2.2.2.2.1 gw_RX7_161 rfl rfl rfl cd_X7_less ⟨Nat.le_of_ble_eq_true rfl, Nat.le_of_ble_eq_true rfl⟩) (hr_0 C) rfl rfl (Nat.le_of_ble_eq_true rfl) ⟨Nat.le_of_ble_eq_true rfl, Nat.le_of_ble_eq_true rfl⟩ dX7_two_128 (fun r22 => ?_)
      refine g_istore (pc := 131) C ([(6, .int r22), (7, .int z18), (5, .int r16), (4, .int r15), (0, .ref (ad 0)), (1, .int p0), (2, .int a2_41), (3, .int a3_41)]) dX7_two_131 (Nat.le_of_ble_eq_true rfl) rfl ?_
      refine g_goto (pc := 133) C 172 dX7_two_133 (by decide) ?_
      exact g_sub [4, 5, 6, 7, 3, 2, 0, 1] rfl (J172 a2_41 a3_41 r15 r16 r22 z18 ha2_41 ha3_41 hr15 hr16 hz18)
    · refine g_aload_n (pc := 136) C dX7_two_136 rfl 4 rfl ?_
      refine g_iload_n (pc := 137) C dX7_two_137 rfl 7 rfl ?_
      refine g_iload (pc := 138) C dX7_two_138 2 rfl ?_
      refine g_iload_n (pc := 140) C dX7_two_140 rfl 6 rfl ?_
      refine zcallVv (pc := 141) (st := []) C C.2.2.2.2.2 (n_X7_compare l D ad cy tl A a3_41 r16 a2_41) (cwV 3 C.2.2.2.2.1 gw_RX7_151 rfl rfl rfl cd_X7_compare ⟨Nat.le_of_ble_eq_true rfl, Nat.le_of_ble_eq_true rfl⟩) (hr_0 C) rfl rfl (Nat.le_of_ble_eq_true rfl) ⟨Nat.le_of_ble_eq_true rfl, Nat.le_of_ble_eq_true rfl⟩ dX7_two_141 ?_
      refine g_goto (pc := 144) C 172 dX7_two_144 (by decide) ?_
      exact g_sub [4, 5, 6, 7, 3, 2, 1, 0] rfl (J172 a2_41 a3_41 r15 r16 r16 z18 ha2_41 ha3_41 hr15 hr16 hz18)
    · refine g_aload_n (pc := 147) C dX7_two_147 rfl 4 rfl ?_
      refine g_iload (pc := 148) C dX7_two_148 2 rfl ?_
      refine g_iload_n (pc := 150) C dX7_two_150 rfl 7 rfl ?_
      refine g_iload_n (pc := 151) C dX7_two_151 rfl 6 rfl ?_
      refine zcallVi (pc := 152) (st := []) C C.2.2.2.2.2 (n_X7_plus l D ad cy tl A r16 a3_41 a2_41) (cwV 3 C.2.2.2.2.1 gw_RX7_165 rfl rfl rfl cd_X7_plus ⟨Nat.le_of_ble_eq_true rfl, Nat.le_of_ble_eq_true rfl⟩) (hr_0 C) rfl rfl (Nat.le_of_ble_eq_true rfl) ⟨Nat.le_of_ble_eq_true rfl, Nat.le_of_ble_eq_true rfl⟩ dX7_two_152 (fun r23 => ?_)
      refine g_istore (pc := 155) C ([(6, .int r23), (7, .int z18), (5, .int r16), (4, .int r15), (0, .ref (ad 0)), (1, .int p0), (2, .int a2_41), (3, .int a3_41)]) dX7_two_155 (Nat.le_of_ble_eq_true rfl) rfl ?_
      refine g_goto (pc := 157) C 172 dX7_two_157 (by decide) ?_
      exact g_sub [4, 5, 6, 7, 3, 2, 0, 1] rfl (J172 a2_41 a3_41 r15 r16 r23 z18 ha2_41 ha3_41 hr15 hr16 hz18)
    · refine g_iload_n (pc := 160) C dX7_two_160 rfl 7 rfl ?_
      refine g_istore (pc := 161) C ([(6, .int a3_41), (7, .int z18), (5, .int r16), (4, .int r15), (0, .ref (ad 0)), (1, .int p0), (2, .int a2_41), (3, .int a3_41)]) dX7_two_161 (Nat.le_of_ble_eq_true rfl) rfl ?_
      refine g_goto (pc := 163) C 172 dX7_two_163 (by decide) ?_
      exact g_sub [4, 5, 6, 7, 3, 2, 0, 1] rfl (J172 a2_41 a3_41 r15 r16 a3_41 z18 ha2_41 ha3_41 hr15 hr16 hz18)
  have J15 : ∀ (b0_15 : Int32) (_ : zI 0 1 b0_15), zG p l e ({ frames := 7, cells := 0, slots := 0, locals := 156 }) s m args below meth c 8 0 0 A Q (zMr D A ad cy tl) 15 [(0, .ref (ad 0)), (1, .int p0)] [.int b0_15] := by
    intro b0_15 hb0_15
    refine g_istore_n (pc := 15) C ([(2, .int b0_15), (0, .ref (ad 0)), (1, .int p0)]) dX7_two_15 rfl (Nat.le_of_ble_eq_true rfl) rfl ?_
    refine g_aload_n (pc := 16) C dX7_two_16 rfl 1 rfl ?_
    refine g_aload_n (pc := 17) C dX7_two_17 rfl 1 rfl ?_
    refine g_iload_n (pc := 18) C dX7_two_18 rfl 2 rfl ?_
    refine g_bipush (pc := 19) C 63 dX7_two_19 (by decide) ?_
    refine g_iand (pc := 21) C dX7_two_21 (fun z24 ez24 => ?_)
    have hz24 : zI 0 63 z24 := zi_and1 (zi_c 63 (a := 0) (b := 63) (by decide)) ez24
    refine g_iload_n (pc := 22) C dX7_two_22 rfl 0 rfl ?_
    refine zcallVi (pc := 23) (st := [.ref (ad 0)]) C C.2.2.2.2.2 (n_X7_operand l D ad cy tl A z24 b0_15) (cwV 2 C.2.2.2.2.1 gw_RX7_155 rfl rfl rfl cd_X7_operand ⟨Nat.le_of_ble_eq_true rfl, Nat.le_of_ble_eq_true rfl⟩) (hr_0 C) rfl rfl (Nat.le_of_ble_eq_true rfl) ⟨Nat.le_of_ble_eq_true rfl, Nat.le_of_ble_eq_true rfl⟩ dX7_two_23 (fun r25 => ?_)
    refine g_and (M2 := (zMr D A ad cy tl)) (fun hr25 => ?_)
    refine g_iload_n (pc := 26) C dX7_two_26 rfl 0 rfl ?_
    refine zcallVi (pc := 27) (st := []) C C.2.2.2.2.2 (n_X7_read l D ad cy tl A r25 b0_15 hr25) (cwV 2 C.2.2.2.2.1 gw_RX7_158 rfl rfl rfl cd_X7_read ⟨Nat.le_of_ble_eq_true rfl, Nat.le_of_ble_eq_true rfl⟩) (hr_0 C) rfl rfl (Nat.le_of_ble_eq_true rfl) ⟨Nat.le_of_ble_eq_true rfl, Nat.le_of_ble_eq_true rfl⟩ dX7_two_27 (fun r26 => ?_)
    refine g_and (M2 := (zMr D A ad cy tl)) (fun hr26 => ?_)
    refine g_istore_n (pc := 30) C ([(3, .int r26), (2, .int b0_15), (0, .ref (ad 0)), (1, .int p0)]) dX7_two_30 rfl (Nat.le_of_ble_eq_true rfl) rfl ?_
    refine g_iload_n (pc := 31) C dX7_two_31 rfl 1 rfl ?_
    refine g_if_eq (pc := 32) C 41 dX7_two_32 (by decide) (fun c27 => ?_) (fun c27 => ?_)
    · have h28 : zI 0 0 b0_15 := zr_eq c27 hb0_15 (zi_c 0 (a := 0) (b := 0) (by decide)) (by decide)
      exact g_sub [2, 3, 1, 0] rfl (J41 b0_15 r26 (zi_w h28 (a' := 0) (b' := 1) (by decide)) hr26)
    · have h29 : zI 1 1 b0_15 := zr_neL c27 hb0_15 (zi_c 0 (a := 0) (b := 0) (by decide)) (by decide)
      refine g_iload_n (pc := 35) C dX7_two_35 rfl 0 rfl ?_
      refine g_sipush (pc := 36) C 255 dX7_two_36 (by decide) ?_
      refine g_iand (pc := 39) C dX7_two_39 (fun z30 ez30 => ?_)
      have hz30 : zI 0 255 z30 := zi_and1 (zi_c 255 (a := 0) (b := 255) (by decide)) ez30
      refine g_istore_n (pc := 40) C ([(3, .int z30), (2, .int b0_15), (0, .ref (ad 0)), (1, .int p0)]) dX7_two_40 rfl (Nat.le_of_ble_eq_true rfl) rfl ?_
      exact g_sub [2, 3, 1, 0] rfl (J41 b0_15 z30 (zi_w h29 (a' := 0) (b' := 1) (by decide)) (zi_w hz30 (a' := 0) (b' := 65535) (by decide)))
  refine g_sub (lv' := [(0, .ref (ad 0)), (1, .int p0)]) [0, 1] rfl ?_
  refine g_iload_n (pc := 0) C dX7_two_0 rfl 1 rfl ?_
  refine g_bipush (pc := 1) C 12 dX7_two_1 (by decide) ?_
  refine g_ishr (pc := 3) C dX7_two_3 (fun z31 ez31 => ?_)
  refine g_iconst (pc := 4) C 1 dX7_two_4 (by decide) ?_
  refine g_iand (pc := 5) C dX7_two_5 (fun z32 ez32 => ?_)
  have hz32 : zI 0 1 z32 := zi_and1 (zi_c 1 (a := 0) (b := 1) (by decide)) ez32
  refine g_iconst (pc := 6) C 1 dX7_two_6 (by decide) ?_
  refine g_icmp_ne (pc := 7) C 14 dX7_two_7 (by decide) (fun c33 => ?_) (fun c33 => ?_)
  · have h34 : zI 0 0 z32 := zr_neH c33 hz32 (zi_c 1 (a := 1) (b := 1) (by decide)) (by decide)
    refine g_iconst (pc := 14) C 0 dX7_two_14 (by decide) ?_
    exact g_sub [0, 1] rfl (J15 0 (zi_c 0 (a := 0) (b := 1) (by decide)))
  · have h35 : zI 1 1 z32 := zr_eq c33 hz32 (zi_c 1 (a := 1) (b := 1) (by decide)) (by decide)
    refine g_iconst (pc := 10) C 1 dX7_two_10 (by decide) ?_
    refine g_goto (pc := 11) C 15 dX7_two_11 (by decide) ?_
    exact g_sub [0, 1] rfl (J15 1 (zi_c 1 (a := 0) (b := 1) (by decide)))

set_option maxHeartbeats 2000000 in
set_option maxRecDepth 100000 in
theorem n_X7_base (l : Launch) (D : va_G) (ad : Nat → Nat) (cy : Nat → ClassId) (tl : Int32) (A : Nat → Prop) : zMi l yX7_base wz_X7_base ({ frames := 5, cells := 0, slots := 0, locals := 108 }) [.ref (ad 0)] D (zTr cy) A (zMr D A ad cy tl) (fun r H => zI 0 4095 r ∧ (zMr D A ad cy tl) H) := by
  refine zstart_i (cc := cX7_base) (maxL := 1) (ty := .int) (own := RX7) (by decide) rfl rfl (Nat.le_of_ble_eq_true rfl) (fun p e s m args below meth c Q C r => ?_)
  refine g_sub (lv' := [(0, .ref (ad 0))]) [0] rfl ?_
  refine g_aload_n (pc := 0) C dX7_base_0 rfl 0 rfl ?_
  refine g_bipush (pc := 1) C 12 dX7_base_1 (by decide) ?_
  refine zcallVi (pc := 3) (st := []) C C.2.2.2.2.2 (n_X7_register l D ad cy tl A 12) (cwV 1 C.2.2.2.2.1 gw_RX7_146 rfl rfl rfl cd_X7_register ⟨Nat.le_of_ble_eq_true rfl, Nat.le_of_ble_eq_true rfl⟩) (hr_0 C) rfl rfl (Nat.le_of_ble_eq_true rfl) ⟨Nat.le_of_ble_eq_true rfl, Nat.le_of_ble_eq_true rfl⟩ dX7_base_3 (fun r1 => ?_)
  refine g_and (M2 := (zMr D A ad cy tl)) (fun hr1 => ?_)
  refine g_iconst (pc := 6) C 2 dX7_base_6 (by decide) ?_
  refine g_idiv (pc := 7) C dX7_base_7 (by decide) (fun z2 ez2 => ?_)
  have hz2 : zI 0 32767 z2 := zi_div hr1 (zi_c 2 (a := 2) (b := 2) (by decide)) ez2 (by decide)
  refine g_sipush (pc := 8) C 4096 dX7_base_8 (by decide) ?_
  refine g_irem (pc := 11) C dX7_base_11 (by decide) (fun z3 ez3 => ?_)
  have hz3 : zI 0 4095 z3 := zi_rem hz2 (zi_c 4096 (a := 4096) (b := 4096) (by decide)) ez3 (by decide)
  exact g_ireturn r dX7_base_12 rfl (fun _ h => ⟨hz3, h⟩)

set_option maxHeartbeats 2000000 in
set_option maxRecDepth 100000 in
theorem n_X7_divide (l : Launch) (D : va_G) (ad : Nat → Nat) (cy : Nat → ClassId) (tl : Int32) (A : Nat → Prop) (p0 : Int32) (p1 : Int32) (p2 : Int32) (hp1 : zI 0 65535 p1) (hp2 : zI 0 65535 p2) : zMv l yX7_divide wz_X7_divide ({ frames := 6, cells := 0, slots := 0, locals := 131 }) [.ref (ad 0), .int p0, .int p1, .int p2] D (zTr cy) A (zMr D A ad cy tl) (zMr D A ad cy tl) := by
  refine zstart_v (cc := cX7_divide) (maxL := 6) (own := RX7) (by decide) rfl rfl (Nat.le_of_ble_eq_true rfl) (fun p e s m args below meth c Q C r => ?_)
  have J14 : ∀ (b0_14 : Int32) (_ : zI 0 1 b0_14), zG p l e ({ frames := 6, cells := 0, slots := 0, locals := 131 }) s m args below meth c 6 0 0 A Q (zMr D A ad cy tl) 14 [(0, .ref (ad 0)), (1, .int p0), (2, .int p1), (3, .int p2)] [.int b0_14, .int 2048, .ref (ad 0)] := by
    intro b0_14 hb0_14
    refine zcallVv (pc := 14) (st := []) C C.2.2.2.2.2 (n_X7_flag l D ad cy tl A 2048 b0_14) (cwV 2 C.2.2.2.2.1 gw_RX7_134 rfl rfl rfl cd_X7_flag ⟨Nat.le_of_ble_eq_true rfl, Nat.le_of_ble_eq_true rfl⟩) (hr_0 C) rfl rfl (Nat.le_of_ble_eq_true rfl) ⟨Nat.le_of_ble_eq_true rfl, Nat.le_of_ble_eq_true rfl⟩ dX7_divide_14 ?_
    refine g_iload_n (pc := 17) C dX7_divide_17 rfl 2 rfl ?_
    refine g_iload_n (pc := 18) C dX7_divide_18 rfl 3 rfl ?_
    refine g_icmp_gt (pc := 19) C 23 dX7_divide_19 (by decide) (fun c1 => ?_) (fun c1 => ?_)
    · have h2 : zI 0 65534 p2 := zr_lt1 (zc_lt c1) hp2 hp1 (by decide)
      have h3 : zI 1 65535 p1 := zr_lt2 (zc_lt c1) hp2 hp1 (by decide)
      refine g_ldc2_w (pc := 23) C dX7_divide_23 (C.wd wk_890) ?_
      refine g_iload_n (pc := 26) C dX7_divide_26 rfl 3 rfl ?_
      refine g_i2l (pc := 27) C dX7_divide_27 (fun z4 ez4 => ?_)
      refine g_lmul (pc := 28) C dX7_divide_28 (fun z5 ez5 => ?_)
      refine g_aload_n (pc := 29) C dX7_divide_29 rfl 0 rfl ?_
      refine g_aload_n (pc := 30) C dX7_divide_30 rfl 0 rfl ?_
      refine g_iload_n (pc := 31) C dX7_divide_31 rfl 1 rfl ?_
      refine g_iconst (pc := 32) C 1 dX7_divide_32 (by decide) ?_
      refine g_iadd (pc := 33) C dX7_divide_33 (fun z6 ez6 => ?_)
      refine zcallVi (pc := 34) (st := [.ref (ad 0), .long z5]) C C.2.2.2.2.2 (n_X7_registerAt l D ad cy tl A z6) (cwV 1 C.2.2.2.2.1 gw_RX7_119 rfl rfl rfl cd_X7_registerAt ⟨Nat.le_of_ble_eq_true rfl, Nat.le_of_ble_eq_true rfl⟩) (hr_0 C) rfl rfl (Nat.le_of_ble_eq_true rfl) ⟨Nat.le_of_ble_eq_true rfl, Nat.le_of_ble_eq_true rfl⟩ dX7_divide_34 (fun r7 => ?_)
      refine g_and (M2 := (zMr D A ad cy tl)) (fun hr7 => ?_)
      refine zcallVi (pc := 37) (st := [.long z5]) C C.2.2.2.2.2 (n_X7_readWord l D ad cy tl A r7) (cwV 1 C.2.2.2.2.1 gw_RX7_122 rfl rfl rfl cd_X7_readWord ⟨Nat.le_of_ble_eq_true rfl, Nat.le_of_ble_eq_true rfl⟩) (hr_0 C) rfl rfl (Nat.le_of_ble_eq_true rfl) ⟨Nat.le_of_ble_eq_true rfl, Nat.le_of_ble_eq_true rfl⟩ dX7_divide_37 (fun r8 => ?_)
      refine g_and (M2 := (zMr D A ad cy tl)) (fun hr8 => ?_)
      refine g_i2l (pc := 40) C dX7_divide_40 (fun z9 ez9 => ?_)
      refine g_ladd (pc := 41) C dX7_divide_41 (fun z10 ez10 => ?_)
      refine g_lstore (pc := 42) C ([(4, .long z10), (0, .ref (ad 0)), (1, .int p0), (2, .int p1), (3, .int p2)]) dX7_divide_42 (Nat.le_of_ble_eq_true rfl) rfl ?_
      refine g_aload_n (pc := 44) C dX7_divide_44 rfl 1 rfl ?_
      refine g_iload_n (pc := 45) C dX7_divide_45 rfl 2 rfl ?_
      refine g_lload (pc := 46) C dX7_divide_46 0 rfl ?_
      refine g_iload_n (pc := 48) C dX7_divide_48 rfl 3 rfl ?_
      refine g_i2l (pc := 49) C dX7_divide_49 (fun z11 ez11 => ?_)
      refine g_ldiv (pc := 50) C dX7_divide_50 (z_ne64 (fun q => by have := h3; rw [q] at this; exact absurd this (by decide)) ez11) (fun z12 ez12 => ?_)
      refine g_l2i (pc := 51) C dX7_divide_51 (fun z13 ez13 => ?_)
      refine zcallVv (pc := 52) (st := []) C C.2.2.2.2.2 (n_X7_register_ l D ad cy tl A p0 z13) (cwV 2 C.2.2.2.2.1 gw_RX7_149 rfl rfl rfl cd_X7_register_ ⟨Nat.le_of_ble_eq_true rfl, Nat.le_of_ble_eq_true rfl⟩) (hr_0 C) rfl rfl (Nat.le_of_ble_eq_true rfl) ⟨Nat.le_of_ble_eq_true rfl, Nat.le_of_ble_eq_true rfl⟩ dX7_divide_52 ?_
      refine g_aload_n (pc := 55) C dX7_divide_55 rfl 1 rfl ?_
      refine g_aload_n (pc := 56) C dX7_divide_56 rfl 1 rfl ?_
      refine g_iload_n (pc := 57) C dX7_divide_57 rfl 2 rfl ?_
      refine g_iconst (pc := 58) C 1 dX7_divide_58 (by decide) ?_
      refine g_iadd (pc := 59) C dX7_divide_59 (fun z14 ez14 => ?_)
      refine zcallVi (pc := 60) (st := [.ref (ad 0)]) C C.2.2.2.2.2 (n_X7_registerAt l D ad cy tl A z14) (cwV 1 C.2.2.2.2.1 gw_RX7_119 rfl rfl rfl cd_X7_registerAt ⟨Nat.le_of_ble_eq_true rfl, Nat.le_of_ble_eq_true rfl⟩) (hr_0 C) rfl rfl (Nat.le_of_ble_eq_true rfl) ⟨Nat.le_of_ble_eq_true rfl, Nat.le_of_ble_eq_true rfl⟩ dX7_divide_60 (fun r15 => ?_)
      refine g_and (M2 := (zMr D A ad cy tl)) (fun hr15 => ?_)
      refine g_lload (pc := 63) C dX7_divide_63 0 rfl ?_
      refine g_iload_n (pc := 65) C dX7_divide_65 rfl 3 rfl ?_
      refine g_i2l (pc := 66) C dX7_divide_66 (fun z16 ez16 => ?_)
      refine g_lrem (pc := 67) C dX7_divide_67 (z_ne64 (fun q => by have := h3; rw [q] at this; exact absurd this (by decide)) ez16) (fun z17 ez17 => ?_)
      refine g_l2i (pc := 68) C dX7_divide_68 (fun z18 ez18 => ?_)
      refine zcallVv (pc := 69) (st := []) C C.2.2.2.2.2 (n_X7_writeWord l D ad cy tl A r15 z18) (cwV 2 C.2.2.2.2.1 gw_RX7_125 rfl rfl rfl cd_X7_writeWord ⟨Nat.le_of_ble_eq_true rfl, Nat.le_of_ble_eq_true rfl⟩) (hr_0 C) rfl rfl (Nat.le_of_ble_eq_true rfl) ⟨Nat.le_of_ble_eq_true rfl, Nat.le_of_ble_eq_true rfl⟩ dX7_divide_69 ?_
      exact g_return r dX7_divide_72 (fun _ h => h)
    · exact g_return r dX7_divide_22 (fun _ h => h)
  refine g_sub (lv' := [(0, .ref (ad 0)), (1, .int p0), (2, .int p1), (3, .int p2)]) [0, 1, 2, 3] rfl ?_
  refine g_aload_n (pc := 0) C dX7_divide_0 rfl 0 rfl ?_
  refine g_sipush (pc := 1) C 2048 dX7_divide_1 (by decide) ?_
  refine g_iload_n (pc := 4) C dX7_divide_4 rfl 2 rfl ?_
  refine g_iload_n (pc := 5) C dX7_divide_5 rfl 3 rfl ?_
  refine g_icmp_gt (pc := 6) C 13 dX7_divide_6 (by decide) (fun c19 => ?_) (fun c19 => ?_)
  · have h20 : zI 0 65534 p2 := zr_lt1 (zc_lt c19) hp2 hp1 (by decide)
    have h21 : zI 1 65535 p1 := zr_lt2 (zc_lt c19) hp2 hp1 (by decide)
    refine g_iconst (pc := 13) C 0 dX7_divide_13 (by decide) ?_
    exact g_sub [0, 1, 2, 3] rfl (J14 0 (zi_c 0 (a := 0) (b := 1) (by decide)))
  · refine g_iconst (pc := 9) C 1 dX7_divide_9 (by decide) ?_
    refine g_goto (pc := 10) C 14 dX7_divide_10 (by decide) ?_
    exact g_sub [0, 1, 2, 3] rfl (J14 1 (zi_c 1 (a := 0) (b := 1) (by decide)))

set_option maxHeartbeats 2000000 in
set_option maxRecDepth 100000 in
theorem n_X7_bits (l : Launch) (D : va_G) (ad : Nat → Nat) (cy : Nat → ClassId) (tl : Int32) (A : Nat → Prop) (p0 : Int32) (p1 : Int32) (p2 : Int32) (hp1 : zI 1 16 p1) : zMv l yX7_bits wz_X7_bits ({ frames := 7, cells := 0, slots := 0, locals := 156 }) [.ref (ad 0), .int p0, .int p1, .int p2] D (zTr cy) A (zMr D A ad cy tl) (zMr D A ad cy tl) := by
  refine zstart_v (cc := cX7_bits) (maxL := 10) (own := RX7) (by decide) rfl rfl (Nat.le_of_ble_eq_true rfl) (fun p e s m args below meth c Q C r => ?_)
  have J152 : ∀ (a4_152 : Int32) (a5_152 : Int32) (a6_152 : Int32) (a7_152 : Int32) (a8_152 : Int32) (_ : zI 0 1 a4_152) (_ : zI 0 65535 a5_152) (_ : zI 0 4095 a7_152) (_ : zI 1 16 a8_152), zG p l e ({ frames := 7, cells := 0, slots := 0, locals := 156 }) s m args below meth c 10 0 0 A Q (zMr D A ad cy tl) 152 [(0, .ref (ad 0)), (1, .int p0), (2, .int p1), (3, .int p2), (4, .int a4_152), (5, .int a5_152), (6, .int a6_152), (7, .int a7_152), (8, .int a8_152)] [] := by
    intro a4_152 a5_152 a6_152 a7_152 a8_152 ha4_152 ha5_152 ha7_152 ha8_152
    exact g_return r dX7_bits_152 (fun _ h => h)
  have J138 : ∀ (a4_138 : Int32) (a5_138 : Int32) (a6_138 : Int32) (a7_138 : Int32) (a8_138 : Int32) (_ : zI 0 1 a4_138) (_ : zI 0 65535 a5_138) (_ : zI 0 4095 a7_138) (_ : zI 1 16 a8_138), zG p l e ({ frames := 7, cells := 0, slots := 0, locals := 156 }) s m args below meth c 10 0 0 A Q (zMr D A ad cy tl) 138 [(0, .ref (ad 0)), (1, .int p0), (2, .int p1), (3, .int p2), (4, .int a4_138), (5, .int a5_138), (6, .int a6_138), (7, .int a7_138), (8, .int a8_138)] [] := by
    intro a4_138 a5_138 a6_138 a7_138 a8_138 ha4_138 ha5_138 ha7_138 ha8_138
    refine g_iload_n (pc := 138) C dX7_bits_138 rfl 3 rfl ?_
    refine g_if_ne (pc := 139) C 152 dX7_bits_139 (by decide) (fun c1 => ?_) (fun c1 => ?_)
    · exact g_sub [0, 1, 2, 3, 4, 5, 6, 7, 8] rfl (J152 a4_138 a5_138 a6_138 a7_138 a8_138 ha4_138 ha5_138 ha7_138 ha8_138)
    · have h2 : zI 0 0 p2 := zr_eq c1 (zi_full p2) (zi_c 0 (a := 0) (b := 0) (by decide)) (by decide)
      refine g_aload_n (pc := 142) C dX7_bits_142 rfl 0 rfl ?_
      refine g_iload (pc := 143) C dX7_bits_143 5 rfl ?_
      refine g_iload (pc := 145) C dX7_bits_145 6 rfl ?_
      refine g_iload (pc := 147) C dX7_bits_147 4 rfl ?_
      refine zcallVv (pc := 149) (st := []) C C.2.2.2.2.2 (n_X7_write l D ad cy tl A a5_138 a6_138 a4_138 ha5_138) (cwV 3 C.2.2.2.2.1 gw_RX7_171 rfl rfl rfl cd_X7_write ⟨Nat.le_of_ble_eq_true rfl, Nat.le_of_ble_eq_true rfl⟩) (hr_0 C) rfl rfl (Nat.le_of_ble_eq_true rfl) ⟨Nat.le_of_ble_eq_true rfl, Nat.le_of_ble_eq_true rfl⟩ dX7_bits_149 ?_
      exact g_sub [0, 1, 2, 3, 4, 5, 6, 7, 8] rfl (J152 a4_138 a5_138 a6_138 a7_138 a8_138 ha4_138 ha5_138 ha7_138 ha8_138)
  have J51 : ∀ (n : Nat) (a4_51 : Int32) (a5_51 : Int32) (a6_51 : Int32) (a7_51 : Int32) (a8_51 : Int32) (_ : zI 0 1 a4_51) (_ : zI 0 65535 a5_51) (_ : zI 0 4095 a7_51) (_ : zI 0 16 a8_51) (_ : (16 - (a8_51 : Int32).toInt).toNat = n), zG p l e ({ frames := 7, cells := 0, slots := 0, locals := 156 }) s m args below meth c 10 0 0 A Q (zMr D A ad cy tl) 51 [(0, .ref (ad 0)), (1, .int p0), (2, .int p1), (3, .int p2), (4, .int a4_51), (5, .int a5_51), (6, .int a6_51), (7, .int a7_51), (8, .int a8_51)] [] := by
    intro n
    induction n using Nat.strongRecOn with
    | ind n ih =>
      intro a4_51 a5_51 a6_51 a7_51 a8_51 ha4_51 ha5_51 ha7_51 ha8_51 hn
      have J112 : ∀ (a6_112 : Int32) (a9_112 : Int32) (_ : zI 0 15 a8_51) (_ : zI 0 4095 a9_112), zG p l e ({ frames := 7, cells := 0, slots := 0, locals := 156 }) s m args below meth c 10 0 0 A Q (zMr D A ad cy tl) 112 [(0, .ref (ad 0)), (1, .int p0), (2, .int p1), (3, .int p2), (4, .int a4_51), (5, .int a5_51), (6, .int a6_112), (7, .int a7_51), (8, .int a8_51), (9, .int a9_112)] [] := by
        intro a6_112 a9_112 hc_a8_112 ha9_112
        obtain ⟨z3, ez3⟩ : ∃ z : Int32, z = a8_51 + 1 := ⟨_, rfl⟩
        have hz3 : zI 1 16 z3 := zi_add hc_a8_112 (zi_c 1 (a := 1) (b := 1) (by decide)) ez3 (by decide)
        refine g_iinc (pc := 112) C z3 ([(8, .int z3), (0, .ref (ad 0)), (1, .int p0), (2, .int p1), (3, .int p2), (4, .int a4_51), (5, .int a5_51), (6, .int a6_112), (7, .int a7_51), (9, .int a9_112)]) dX7_bits_112 8 rfl (by rw [ez3]; rfl) (Nat.le_of_ble_eq_true rfl) rfl ?_
        refine g_goto (pc := 115) C 51 dX7_bits_115 (by decide) ?_
        exact g_sub [1, 2, 3, 4, 5, 6, 7, 8, 0] rfl (ih (16 - (z3 : Int32).toInt).toNat (by rw [← hn]; exact zdec ez3 hc_a8_112 (by decide) (zi_w hz3 (a' := 0) (b' := 16) (by decide))) a4_51 a5_51 a6_112 a7_51 z3 ha4_51 ha5_51 ha7_51 (zi_w hz3 (a' := 0) (b' := 16) (by decide)) rfl)
      have J94 : ∀ (a9_94 : Int32) (b0_94 : Int32) (b1_94 : Int32) (_ : zI 0 15 a8_51) (_ : zI 0 4095 a9_94) (_ : zI 0 1 b0_94) (_ : zI 0 4095 b1_94), zG p l e ({ frames := 7, cells := 0, slots := 0, locals := 156 }) s m args below meth c 10 0 0 A Q (zMr D A ad cy tl) 94 [(0, .ref (ad 0)), (1, .int p0), (2, .int p1), (3, .int p2), (4, .int a4_51), (5, .int a5_51), (6, .int a6_51), (7, .int a7_51), (8, .int a8_51), (9, .int a9_94)] [.int b0_94, .int b1_94, .ref (ad 6)] := by
        intro a9_94 b0_94 b1_94 hc_a8_94 ha9_94 hb0_94 hb1_94
        refine sr_6 (pc := 94) C (zi_in hb1_94 (by decide)) dX7_bits_94 ?_
        refine g_goto (pc := 95) C 112 dX7_bits_95 (by decide) ?_
        exact g_sub [0, 1, 2, 3, 4, 5, 6, 7, 8, 9] rfl (J112 a6_51 a9_94 hc_a8_94 ha9_94)
      refine g_iload (pc := 51) C dX7_bits_51 8 rfl ?_
      refine g_iload_n (pc := 53) C dX7_bits_53 rfl 2 rfl ?_
      refine g_icmp_ge (pc := 54) C 118 dX7_bits_54 (by decide) (fun c4 => ?_) (fun c4 => ?_)
      · have h5 : zI 1 16 a8_51 := zr_le2 (zc_le c4) hp1 ha8_51 (by decide)
        refine g_aload_n (pc := 118) C dX7_bits_118 rfl 0 rfl ?_
        refine g_iload (pc := 119) C dX7_bits_119 6 rfl ?_
        refine g_iconst (pc := 121) C 0 dX7_bits_121 (by decide) ?_
        refine g_iload (pc := 122) C dX7_bits_122 4 rfl ?_
        refine zcallVv (pc := 124) (st := []) C C.2.2.2.2.2 (n_X7_compare l D ad cy tl A a6_51 0 a4_51) (cwV 3 C.2.2.2.2.1 gw_RX7_151 rfl rfl rfl cd_X7_compare ⟨Nat.le_of_ble_eq_true rfl, Nat.le_of_ble_eq_true rfl⟩) (hr_0 C) rfl rfl (Nat.le_of_ble_eq_true rfl) ⟨Nat.le_of_ble_eq_true rfl, Nat.le_of_ble_eq_true rfl⟩ dX7_bits_124 ?_
        refine g_iload (pc := 127) C dX7_bits_127 4 rfl ?_
        refine g_if_eq (pc := 129) C 138 dX7_bits_129 (by decide) (fun c6 => ?_) (fun c6 => ?_)
        · have h7 : zI 0 0 a4_51 := zr_eq c6 ha4_51 (zi_c 0 (a := 0) (b := 0) (by decide)) (by decide)
          exact g_sub [0, 1, 2, 3, 4, 5, 6, 7, 8] rfl (J138 a4_51 a5_51 a6_51 a7_51 a8_51 (zi_w h7 (a' := 0) (b' := 1) (by decide)) ha5_51 ha7_51 h5)
        · have h8 : zI 1 1 a4_51 := zr_neL c6 ha4_51 (zi_c 0 (a := 0) (b := 0) (by decide)) (by decide)
          refine g_aload_n (pc := 132) C dX7_bits_132 rfl 0 rfl ?_
          refine g_iload (pc := 133) C dX7_bits_133 6 rfl ?_
          refine zcallVv (pc := 135) (st := []) C C.2.2.2.2.2 (n_X7_odd l D ad cy tl A a6_51) (cwV 1 C.2.2.2.2.1 gw_RX7_168 rfl rfl rfl cd_X7_odd ⟨Nat.le_of_ble_eq_true rfl, Nat.le_of_ble_eq_true rfl⟩) (hr_0 C) rfl rfl (Nat.le_of_ble_eq_true rfl) ⟨Nat.le_of_ble_eq_true rfl, Nat.le_of_ble_eq_true rfl⟩ dX7_bits_135 ?_
          exact g_sub [0, 1, 2, 3, 4, 5, 6, 7, 8] rfl (J138 a4_51 a5_51 a6_51 a7_51 a8_51 (zi_w h8 (a' := 0) (b' := 1) (by decide)) ha5_51 ha7_51 h5)
      · have h9 : zI 0 15 a8_51 := zr_lt1 (zc_nle c4) ha8_51 hp1 (by decide)
        refine g_iload (pc := 57) C dX7_bits_57 7 rfl ?_
        refine g_iload (pc := 59) C dX7_bits_59 8 rfl ?_
        refine g_iadd (pc := 61) C dX7_bits_61 (fun z10 ez10 => ?_)
        have hz10 : zI 0 4110 z10 := zi_add ha7_51 h9 ez10 (by decide)
        refine g_sipush (pc := 62) C 4096 dX7_bits_62 (by decide) ?_
        refine g_irem (pc := 65) C dX7_bits_65 (by decide) (fun z11 ez11 => ?_)
        have hz11 : zI 0 4095 z11 := zi_rem hz10 (zi_c 4096 (a := 4096) (b := 4096) (by decide)) ez11 (by decide)
        refine g_istore (pc := 66) C ([(9, .int z11), (0, .ref (ad 0)), (1, .int p0), (2, .int p1), (3, .int p2), (4, .int a4_51), (5, .int a5_51), (6, .int a6_51), (7, .int a7_51), (8, .int a8_51)]) dX7_bits_66 (Nat.le_of_ble_eq_true rfl) rfl ?_
        refine g_iload_n (pc := 68) C dX7_bits_68 rfl 4 rfl ?_
        refine g_if_eq (pc := 69) C 98 dX7_bits_69 (by decide) (fun c12 => ?_) (fun c12 => ?_)
        · have h13 : zI 0 0 p2 := zr_eq c12 (zi_full p2) (zi_c 0 (a := 0) (b := 0) (by decide)) (by decide)
          refine g_iload (pc := 98) C dX7_bits_98 7 rfl ?_
          refine g_aload_n (pc := 100) C dX7_bits_100 rfl 1 rfl ?_
          refine g_iload (pc := 101) C dX7_bits_101 0 rfl ?_
          refine zcallVi (pc := 103) (st := [.int a6_51]) C C.2.2.2.2.2 (n_X7_inOf l D ad cy tl A z11 hz11) (cwV 1 C.2.2.2.2.1 gw_RX7_193 rfl rfl rfl cd_X7_inOf ⟨Nat.le_of_ble_eq_true rfl, Nat.le_of_ble_eq_true rfl⟩) (hr_0 C) rfl rfl (Nat.le_of_ble_eq_true rfl) ⟨Nat.le_of_ble_eq_true rfl, Nat.le_of_ble_eq_true rfl⟩ dX7_bits_103 (fun r14 => ?_)
          refine g_and (M2 := (zMr D A ad cy tl)) (fun hr14 => ?_)
          refine g_iload (pc := 106) C dX7_bits_106 9 rfl ?_
          refine g_ishl (pc := 108) C dX7_bits_108 (fun z15 ez15 => ?_)
          refine g_ior (pc := 109) C dX7_bits_109 (fun z16 ez16 => ?_)
          refine g_istore (pc := 110) C ([(6, .int z16), (9, .int z11), (0, .ref (ad 0)), (1, .int p0), (2, .int p1), (3, .int p2), (4, .int a4_51), (5, .int a5_51), (7, .int a7_51), (8, .int a8_51)]) dX7_bits_110 (Nat.le_of_ble_eq_true rfl) rfl ?_
          exact g_sub [2, 3, 4, 5, 6, 7, 0, 8, 9, 1] rfl (J112 z16 z11 h9 hz11)
        · refine g_aload_n (pc := 72) C dX7_bits_72 rfl 1 rfl ?_
          refine gr_0_14 (pc := 73) C wk_707 dX7_bits_73 ?_
          refine g_iload (pc := 76) C dX7_bits_76 0 rfl ?_
          refine g_iload (pc := 78) C dX7_bits_78 7 rfl ?_
          refine g_iload (pc := 80) C dX7_bits_80 9 rfl ?_
          refine g_ishr (pc := 82) C dX7_bits_82 (fun z17 ez17 => ?_)
          refine g_iconst (pc := 83) C 1 dX7_bits_83 (by decide) ?_
          refine g_iand (pc := 84) C dX7_bits_84 (fun z18 ez18 => ?_)
          have hz18 : zI 0 1 z18 := zi_and1 (zi_c 1 (a := 0) (b := 1) (by decide)) ez18
          refine g_iconst (pc := 85) C 1 dX7_bits_85 (by decide) ?_
          refine g_icmp_ne (pc := 86) C 93 dX7_bits_86 (by decide) (fun c19 => ?_) (fun c19 => ?_)
          · have h20 : zI 0 0 z18 := zr_neH c19 hz18 (zi_c 1 (a := 1) (b := 1) (by decide)) (by decide)
            refine g_iconst (pc := 93) C 0 dX7_bits_93 (by decide) ?_
            exact g_sub [1, 2, 3, 4, 5, 6, 7, 8, 9, 0] rfl (J94 z11 0 z11 h9 hz11 (zi_c 0 (a := 0) (b := 1) (by decide)) hz11)
          · have h21 : zI 1 1 z18 := zr_eq c19 hz18 (zi_c 1 (a := 1) (b := 1) (by decide)) (by decide)
            refine g_iconst (pc := 89) C 1 dX7_bits_89 (by decide) ?_
            refine g_goto (pc := 90) C 94 dX7_bits_90 (by decide) ?_
            exact g_sub [1, 2, 3, 4, 5, 6, 7, 8, 9, 0] rfl (J94 z11 1 z11 h9 hz11 (zi_c 1 (a := 0) (b := 1) (by decide)) hz11)
  have J48 : ∀ (a4_48 : Int32) (a5_48 : Int32) (a6_48 : Int32) (a7_48 : Int32) (_ : zI 0 1 a4_48) (_ : zI 0 65535 a5_48) (_ : zI 0 65535 a6_48) (_ : zI 0 4095 a7_48), zG p l e ({ frames := 7, cells := 0, slots := 0, locals := 156 }) s m args below meth c 10 0 0 A Q (zMr D A ad cy tl) 48 [(0, .ref (ad 0)), (1, .int p0), (2, .int p1), (3, .int p2), (4, .int a4_48), (5, .int a5_48), (6, .int a6_48), (7, .int a7_48)] [] := by
    intro a4_48 a5_48 a6_48 a7_48 ha4_48 ha5_48 ha6_48 ha7_48
    refine g_iconst (pc := 48) C 0 dX7_bits_48 (by decide) ?_
    refine g_istore (pc := 49) C ([(8, .int 0), (0, .ref (ad 0)), (1, .int p0), (2, .int p1), (3, .int p2), (4, .int a4_48), (5, .int a5_48), (6, .int a6_48), (7, .int a7_48)]) dX7_bits_49 (Nat.le_of_ble_eq_true rfl) rfl ?_
    exact g_sub [1, 2, 3, 4, 5, 6, 7, 8, 0] rfl (J51 (16 - (0 : Int32).toInt).toNat a4_48 a5_48 a6_48 a7_48 0 ha4_48 ha5_48 ha7_48 (zi_c 0 (a := 0) (b := 16) (by decide)) rfl)
  have J11 : ∀ (b0_11 : Int32) (_ : zI 0 1 b0_11), zG p l e ({ frames := 7, cells := 0, slots := 0, locals := 156 }) s m args below meth c 10 0 0 A Q (zMr D A ad cy tl) 11 [(0, .ref (ad 0)), (1, .int p0), (2, .int p1), (3, .int p2)] [.int b0_11] := by
    intro b0_11 hb0_11
    refine g_istore (pc := 11) C ([(4, .int b0_11), (0, .ref (ad 0)), (1, .int p0), (2, .int p1), (3, .int p2)]) dX7_bits_11 (Nat.le_of_ble_eq_true rfl) rfl ?_
    refine g_aload_n (pc := 13) C dX7_bits_13 rfl 1 rfl ?_
    refine g_iload_n (pc := 14) C dX7_bits_14 rfl 2 rfl ?_
    refine g_bipush (pc := 15) C 63 dX7_bits_15 (by decide) ?_
    refine g_iand (pc := 17) C dX7_bits_17 (fun z22 ez22 => ?_)
    have hz22 : zI 0 63 z22 := zi_and1 (zi_c 63 (a := 0) (b := 63) (by decide)) ez22
    refine g_iload (pc := 18) C dX7_bits_18 0 rfl ?_
    refine zcallVi (pc := 20) (st := []) C C.2.2.2.2.2 (n_X7_operand l D ad cy tl A z22 b0_11) (cwV 2 C.2.2.2.2.1 gw_RX7_155 rfl rfl rfl cd_X7_operand ⟨Nat.le_of_ble_eq_true rfl, Nat.le_of_ble_eq_true rfl⟩) (hr_0 C) rfl rfl (Nat.le_of_ble_eq_true rfl) ⟨Nat.le_of_ble_eq_true rfl, Nat.le_of_ble_eq_true rfl⟩ dX7_bits_20 (fun r23 => ?_)
    refine g_and (M2 := (zMr D A ad cy tl)) (fun hr23 => ?_)
    refine g_istore (pc := 23) C ([(5, .int r23), (4, .int b0_11), (0, .ref (ad 0)), (1, .int p0), (2, .int p1), (3, .int p2)]) dX7_bits_23 (Nat.le_of_ble_eq_true rfl) rfl ?_
    refine g_aload_n (pc := 25) C dX7_bits_25 rfl 2 rfl ?_
    refine g_iload (pc := 26) C dX7_bits_26 0 rfl ?_
    refine g_iload (pc := 28) C dX7_bits_28 1 rfl ?_
    refine zcallVi (pc := 30) (st := []) C C.2.2.2.2.2 (n_X7_read l D ad cy tl A r23 b0_11 hr23) (cwV 2 C.2.2.2.2.1 gw_RX7_158 rfl rfl rfl cd_X7_read ⟨Nat.le_of_ble_eq_true rfl, Nat.le_of_ble_eq_true rfl⟩) (hr_0 C) rfl rfl (Nat.le_of_ble_eq_true rfl) ⟨Nat.le_of_ble_eq_true rfl, Nat.le_of_ble_eq_true rfl⟩ dX7_bits_30 (fun r24 => ?_)
    refine g_and (M2 := (zMr D A ad cy tl)) (fun hr24 => ?_)
    refine g_istore (pc := 33) C ([(6, .int r24), (5, .int r23), (4, .int b0_11), (0, .ref (ad 0)), (1, .int p0), (2, .int p1), (3, .int p2)]) dX7_bits_33 (Nat.le_of_ble_eq_true rfl) rfl ?_
    refine g_aload_n (pc := 35) C dX7_bits_35 rfl 3 rfl ?_
    refine zcallVi (pc := 36) (st := []) C C.2.2.2.2.2 (n_X7_base l D ad cy tl A ) (cwV 0 C.2.2.2.2.1 gw_RX7_190 rfl rfl rfl cd_X7_base ⟨Nat.le_of_ble_eq_true rfl, Nat.le_of_ble_eq_true rfl⟩) (hr_0 C) rfl rfl (Nat.le_of_ble_eq_true rfl) ⟨Nat.le_of_ble_eq_true rfl, Nat.le_of_ble_eq_true rfl⟩ dX7_bits_36 (fun r25 => ?_)
    refine g_and (M2 := (zMr D A ad cy tl)) (fun hr25 => ?_)
    refine g_istore (pc := 39) C ([(7, .int r25), (6, .int r24), (5, .int r23), (4, .int b0_11), (0, .ref (ad 0)), (1, .int p0), (2, .int p1), (3, .int p2)]) dX7_bits_39 (Nat.le_of_ble_eq_true rfl) rfl ?_
    refine g_iload_n (pc := 41) C dX7_bits_41 rfl 7 rfl ?_
    refine g_if_ne (pc := 42) C 48 dX7_bits_42 (by decide) (fun c26 => ?_) (fun c26 => ?_)
    · exact g_sub [4, 5, 6, 7, 3, 2, 1, 0] rfl (J48 b0_11 r23 r24 r25 hb0_11 hr23 hr24 hr25)
    · have h27 : zI 0 0 p2 := zr_eq c26 (zi_full p2) (zi_c 0 (a := 0) (b := 0) (by decide)) (by decide)
      refine g_iconst (pc := 45) C 0 dX7_bits_45 (by decide) ?_
      refine g_istore (pc := 46) C ([(6, .int 0), (7, .int r25), (5, .int r23), (4, .int b0_11), (0, .ref (ad 0)), (1, .int p0), (2, .int p1), (3, .int p2)]) dX7_bits_46 (Nat.le_of_ble_eq_true rfl) rfl ?_
      exact g_sub [4, 5, 6, 7, 3, 2, 0, 1] rfl (J48 b0_11 r23 0 r25 hb0_11 hr23 (zi_c 0 (a := 0) (b := 65535) (by decide)) hr25)
  refine g_sub (lv' := [(0, .ref (ad 0)), (1, .int p0), (2, .int p1), (3, .int p2)]) [0, 1, 2, 3] rfl ?_
  refine g_iload_n (pc := 0) C dX7_bits_0 rfl 2 rfl ?_
  refine g_bipush (pc := 1) C 8 dX7_bits_1 (by decide) ?_
  refine g_icmp_gt (pc := 3) C 10 dX7_bits_3 (by decide) (fun c28 => ?_) (fun c28 => ?_)
  · have h29 : zI 9 16 p1 := zr_lt2 (zc_lt c28) (zi_c 8 (a := 8) (b := 8) (by decide)) hp1 (by decide)
    refine g_iconst (pc := 10) C 0 dX7_bits_10 (by decide) ?_
    exact g_sub [0, 1, 2, 3] rfl (J11 0 (zi_c 0 (a := 0) (b := 1) (by decide)))
  · have h30 : zI 1 8 p1 := zr_le1 (zc_nlt c28) hp1 (zi_c 8 (a := 8) (b := 8) (by decide)) (by decide)
    refine g_iconst (pc := 6) C 1 dX7_bits_6 (by decide) ?_
    refine g_goto (pc := 7) C 11 dX7_bits_7 (by decide) ?_
    exact g_sub [0, 1, 2, 3] rfl (J11 1 (zi_c 1 (a := 0) (b := 1) (by decide)))

set_option maxHeartbeats 2000000 in
set_option maxRecDepth 100000 in
theorem n_X7_withRegister (l : Launch) (D : va_G) (ad : Nat → Nat) (cy : Nat → ClassId) (tl : Int32) (A : Nat → Prop) (p0 : Int32) : zMi l yX7_withRegister wz_X7_withRegister ({ frames := 8, cells := 0, slots := 0, locals := 185 }) [.ref (ad 0), .int p0] D (zTr cy) A (zMr D A ad cy tl) (fun r H => zI 0 1 r ∧ (zMr D A ad cy tl) H) := by
  refine zstart_i (cc := cX7_withRegister) (maxL := 9) (ty := .boolean) (own := RX7) (by decide) rfl rfl (Nat.le_of_ble_eq_true rfl) (fun p e s m args below meth c Q C r => ?_)
  have J48 : ∀ (a2_48 : Int32) (a3_48 : Int32) (b0_48 : Int32) (b1_48 : Int32) (_ : zI 0 15 a2_48) (_ : zI 4 5 a3_48) (_ : zI 0 1 b0_48) (_ : zI 1 16 b1_48), zG p l e ({ frames := 8, cells := 0, slots := 0, locals := 185 }) s m args below meth c 9 0 0 A Q (zMr D A ad cy tl) 48 [(0, .ref (ad 0)), (1, .int p0), (2, .int a2_48), (3, .int a3_48)] [.int b0_48, .int b1_48, .int p0, .ref (ad 0)] := by
    intro a2_48 a3_48 b0_48 b1_48 ha2_48 ha3_48 hb0_48 hb1_48
    refine zcallVv (pc := 48) (st := []) C C.2.2.2.2.2 (n_X7_bits l D ad cy tl A p0 b1_48 b0_48 hb1_48) (cwV 3 C.2.2.2.2.1 gw_RX7_174 rfl rfl rfl cd_X7_bits ⟨Nat.le_of_ble_eq_true rfl, Nat.le_of_ble_eq_true rfl⟩) (hr_0 C) rfl rfl (Nat.le_of_ble_eq_true rfl) ⟨Nat.le_of_ble_eq_true rfl, Nat.le_of_ble_eq_true rfl⟩ dX7_withRegister_48 ?_
    refine g_iconst (pc := 51) C 1 dX7_withRegister_51 (by decide) ?_
    exact g_ireturn r dX7_withRegister_52 rfl (fun _ h => ⟨(zi_c 1 (a := 0) (b := 1) (by decide)), h⟩)
  have J38 : ∀ (a2_38 : Int32) (a3_38 : Int32) (b0_38 : Int32) (_ : zI 0 15 a2_38) (_ : zI 4 5 a3_38) (_ : zI 1 16 b0_38), zG p l e ({ frames := 8, cells := 0, slots := 0, locals := 185 }) s m args below meth c 9 0 0 A Q (zMr D A ad cy tl) 38 [(0, .ref (ad 0)), (1, .int p0), (2, .int a2_38), (3, .int a3_38)] [.int b0_38, .int p0, .ref (ad 0)] := by
    intro a2_38 a3_38 b0_38 ha2_38 ha3_38 hb0_38
    refine g_iload_n (pc := 38) C dX7_withRegister_38 rfl 3 rfl ?_
    refine g_iconst (pc := 39) C 4 dX7_withRegister_39 (by decide) ?_
    refine g_icmp_ne (pc := 40) C 47 dX7_withRegister_40 (by decide) (fun c1 => ?_) (fun c1 => ?_)
    · have h2 : zI 5 5 a3_38 := zr_neL c1 ha3_38 (zi_c 4 (a := 4) (b := 4) (by decide)) (by decide)
      refine g_iconst (pc := 47) C 0 dX7_withRegister_47 (by decide) ?_
      exact g_sub [0, 1, 2, 3] rfl (J48 a2_38 a3_38 0 b0_38 ha2_38 (zi_w h2 (a' := 4) (b' := 5) (by decide)) (zi_c 0 (a := 0) (b := 1) (by decide)) hb0_38)
    · have h3 : zI 4 4 a3_38 := zr_eq c1 ha3_38 (zi_c 4 (a := 4) (b := 4) (by decide)) (by decide)
      refine g_iconst (pc := 43) C 1 dX7_withRegister_43 (by decide) ?_
      refine g_goto (pc := 44) C 48 dX7_withRegister_44 (by decide) ?_
      exact g_sub [0, 1, 2, 3] rfl (J48 a2_38 a3_38 1 b0_38 ha2_38 (zi_w h3 (a' := 4) (b' := 5) (by decide)) (zi_c 1 (a := 0) (b := 1) (by decide)) hb0_38)
  have J26 : ∀ (a2_26 : Int32) (a3_26 : Int32) (_ : zI 0 15 a2_26) (_ : zI 4 5 a3_26), zG p l e ({ frames := 8, cells := 0, slots := 0, locals := 185 }) s m args below meth c 9 0 0 A Q (zMr D A ad cy tl) 26 [(0, .ref (ad 0)), (1, .int p0), (2, .int a2_26), (3, .int a3_26)] [] := by
    intro a2_26 a3_26 ha2_26 ha3_26
    refine g_aload_n (pc := 26) C dX7_withRegister_26 rfl 0 rfl ?_
    refine g_iload_n (pc := 27) C dX7_withRegister_27 rfl 1 rfl ?_
    refine g_iload_n (pc := 28) C dX7_withRegister_28 rfl 2 rfl ?_
    refine g_if_ne (pc := 29) C 37 dX7_withRegister_29 (by decide) (fun c4 => ?_) (fun c4 => ?_)
    · have h5 : zI 1 15 a2_26 := zr_neL c4 ha2_26 (zi_c 0 (a := 0) (b := 0) (by decide)) (by decide)
      refine g_iload_n (pc := 37) C dX7_withRegister_37 rfl 2 rfl ?_
      exact g_sub [0, 1, 2, 3] rfl (J38 a2_26 a3_26 a2_26 (zi_w h5 (a' := 0) (b' := 15) (by decide)) ha3_26 (zi_w h5 (a' := 1) (b' := 16) (by decide)))
    · have h6 : zI 0 0 a2_26 := zr_eq c4 ha2_26 (zi_c 0 (a := 0) (b := 0) (by decide)) (by decide)
      refine g_bipush (pc := 32) C 16 dX7_withRegister_32 (by decide) ?_
      refine g_goto (pc := 34) C 38 dX7_withRegister_34 (by decide) ?_
      exact g_sub [0, 1, 2, 3] rfl (J38 a2_26 a3_26 16 (zi_w h6 (a' := 0) (b' := 15) (by decide)) ha3_26 (zi_c 16 (a := 1) (b := 16) (by decide)))
  have J282 : ∀ (a2_282 : Int32) (a3_282 : Int32) (a4_282 : Int32) (a5_282 : Int32) (a6_282 : Int32) (_ : zI 0 15 a2_282) (_ : zI 0 7 a3_282) (_ : zI 0 65535 a4_282) (_ : zI 0 65535 a5_282) (_ : zI 0 65535 a6_282), zG p l e ({ frames := 8, cells := 0, slots := 0, locals := 185 }) s m args below meth c 9 0 0 A Q (zMr D A ad cy tl) 282 [(0, .ref (ad 0)), (1, .int p0), (2, .int a2_282), (3, .int a3_282), (4, .int a4_282), (5, .int a5_282), (6, .int a6_282)] [] := by
    intro a2_282 a3_282 a4_282 a5_282 a6_282 ha2_282 ha3_282 ha4_282 ha5_282 ha6_282
    refine g_iconst (pc := 282) C 1 dX7_withRegister_282 (by decide) ?_
    exact g_ireturn r dX7_withRegister_283 rfl (fun _ h => ⟨(zi_c 1 (a := 0) (b := 1) (by decide)), h⟩)
  have J179 : ∀ (a2_179 : Int32) (a3_179 : Int32) (a4_179 : Int32) (a5_179 : Int32) (a6_179 : Int32) (b0_179 : Int32) (_ : zI 0 15 a2_179) (_ : zI 0 7 a3_179) (_ : zI 0 65535 a4_179) (_ : zI 0 65535 a5_179) (_ : zI 0 65535 a6_179) (_ : zI 0 1 b0_179), zG p l e ({ frames := 8, cells := 0, slots := 0, locals := 185 }) s m args below meth c 9 0 0 A Q (zMr D A ad cy tl) 179 [(0, .ref (ad 0)), (1, .int p0), (2, .int a2_179), (3, .int a3_179), (4, .int a4_179), (5, .int a5_179), (6, .int a6_179)] [.int b0_179, .int 8192, .ref (ad 0)] := by
    intro a2_179 a3_179 a4_179 a5_179 a6_179 b0_179 ha2_179 ha3_179 ha4_179 ha5_179 ha6_179 hb0_179
    refine zcallVv (pc := 179) (st := []) C C.2.2.2.2.2 (n_X7_flag l D ad cy tl A 8192 b0_179) (cwV 2 C.2.2.2.2.1 gw_RX7_134 rfl rfl rfl cd_X7_flag ⟨Nat.le_of_ble_eq_true rfl, Nat.le_of_ble_eq_true rfl⟩) (hr_0 C) rfl rfl (Nat.le_of_ble_eq_true rfl) ⟨Nat.le_of_ble_eq_true rfl, Nat.le_of_ble_eq_true rfl⟩ dX7_withRegister_179 ?_
    refine g_goto (pc := 182) C 282 dX7_withRegister_182 (by decide) ?_
    exact g_sub [0, 1, 2, 3, 4, 5, 6] rfl (J282 a2_179 a3_179 a4_179 a5_179 a6_179 ha2_179 ha3_179 ha4_179 ha5_179 ha6_179)
  have J202 : ∀ (a2_202 : Int32) (a3_202 : Int32) (a4_202 : Int32) (a5_202 : Int32) (a6_202 : Int32) (b0_202 : Int32) (_ : zI 0 15 a2_202) (_ : zI 0 7 a3_202) (_ : zI 0 65535 a4_202) (_ : zI 0 65535 a5_202) (_ : zI 0 65535 a6_202) (_ : zI 0 1 b0_202), zG p l e ({ frames := 8, cells := 0, slots := 0, locals := 185 }) s m args below meth c 9 0 0 A Q (zMr D A ad cy tl) 202 [(0, .ref (ad 0)), (1, .int p0), (2, .int a2_202), (3, .int a3_202), (4, .int a4_202), (5, .int a5_202), (6, .int a6_202)] [.int b0_202, .int 8192, .ref (ad 0)] := by
    intro a2_202 a3_202 a4_202 a5_202 a6_202 b0_202 ha2_202 ha3_202 ha4_202 ha5_202 ha6_202 hb0_202
    refine zcallVv (pc := 202) (st := []) C C.2.2.2.2.2 (n_X7_flag l D ad cy tl A 8192 b0_202) (cwV 2 C.2.2.2.2.1 gw_RX7_134 rfl rfl rfl cd_X7_flag ⟨Nat.le_of_ble_eq_true rfl, Nat.le_of_ble_eq_true rfl⟩) (hr_0 C) rfl rfl (Nat.le_of_ble_eq_true rfl) ⟨Nat.le_of_ble_eq_true rfl, Nat.le_of_ble_eq_true rfl⟩ dX7_withRegister_202 ?_
    refine g_goto (pc := 205) C 282 dX7_withRegister_205 (by decide) ?_
    exact g_sub [0, 1, 2, 3, 4, 5, 6] rfl (J282 a2_202 a3_202 a4_202 a5_202 a6_202 ha2_202 ha3_202 ha4_202 ha5_202 ha6_202)
  refine g_sub (lv' := [(0, .ref (ad 0)), (1, .int p0)]) [0, 1] rfl ?_
  refine g_iload_n (pc := 0) C dX7_withRegister_0 rfl 1 rfl ?_
  refine g_bipush (pc := 1) C 6 dX7_withRegister_1 (by decide) ?_
  refine g_ishr (pc := 3) C dX7_withRegister_3 (fun z7 ez7 => ?_)
  refine g_bipush (pc := 4) C 15 dX7_withRegister_4 (by decide) ?_
  refine g_iand (pc := 6) C dX7_withRegister_6 (fun z8 ez8 => ?_)
  have hz8 : zI 0 15 z8 := zi_and1 (zi_c 15 (a := 0) (b := 15) (by decide)) ez8
  refine g_istore_n (pc := 7) C ([(2, .int z8), (0, .ref (ad 0)), (1, .int p0)]) dX7_withRegister_7 rfl (Nat.le_of_ble_eq_true rfl) rfl ?_
  refine g_iload_n (pc := 8) C dX7_withRegister_8 rfl 2 rfl ?_
  refine g_bipush (pc := 9) C 10 dX7_withRegister_9 (by decide) ?_
  refine g_ishr (pc := 11) C dX7_withRegister_11 (fun z9 ez9 => ?_)
  refine g_bipush (pc := 12) C 7 dX7_withRegister_12 (by decide) ?_
  refine g_iand (pc := 14) C dX7_withRegister_14 (fun z10 ez10 => ?_)
  have hz10 : zI 0 7 z10 := zi_and1 (zi_c 7 (a := 0) (b := 7) (by decide)) ez10
  refine g_istore_n (pc := 15) C ([(3, .int z10), (2, .int z8), (0, .ref (ad 0)), (1, .int p0)]) dX7_withRegister_15 rfl (Nat.le_of_ble_eq_true rfl) rfl ?_
  refine g_iload_n (pc := 16) C dX7_withRegister_16 rfl 0 rfl ?_
  refine g_iconst (pc := 17) C 4 dX7_withRegister_17 (by decide) ?_
  refine g_icmp_eq (pc := 18) C 26 dX7_withRegister_18 (by decide) (fun c11 => ?_) (fun c11 => ?_)
  · have h12 : zI 4 4 z10 := zr_eq c11 hz10 (zi_c 4 (a := 4) (b := 4) (by decide)) (by decide)
    exact g_sub [2, 3, 1, 0] rfl (J26 z8 z10 hz8 (zi_w h12 (a' := 4) (b' := 5) (by decide)))
  · refine g_iload_n (pc := 21) C dX7_withRegister_21 rfl 0 rfl ?_
    refine g_iconst (pc := 22) C 5 dX7_withRegister_22 (by decide) ?_
    refine g_icmp_ne (pc := 23) C 53 dX7_withRegister_23 (by decide) (fun c13 => ?_) (fun c13 => ?_)
    · refine g_aload_n (pc := 53) C dX7_withRegister_53 rfl 2 rfl ?_
      refine g_iload_n (pc := 54) C dX7_withRegister_54 rfl 3 rfl ?_
      refine g_bipush (pc := 55) C 63 dX7_withRegister_55 (by decide) ?_
      refine g_iand (pc := 57) C dX7_withRegister_57 (fun z14 ez14 => ?_)
      have hz14 : zI 0 63 z14 := zi_and1 (zi_c 63 (a := 0) (b := 63) (by decide)) ez14
      refine g_iconst (pc := 58) C 0 dX7_withRegister_58 (by decide) ?_
      refine zcallVi (pc := 59) (st := []) C C.2.2.2.2.2 (n_X7_operand l D ad cy tl A z14 0) (cwV 2 C.2.2.2.2.1 gw_RX7_155 rfl rfl rfl cd_X7_operand ⟨Nat.le_of_ble_eq_true rfl, Nat.le_of_ble_eq_true rfl⟩) (hr_0 C) rfl rfl (Nat.le_of_ble_eq_true rfl) ⟨Nat.le_of_ble_eq_true rfl, Nat.le_of_ble_eq_true rfl⟩ dX7_withRegister_59 (fun r15 => ?_)
      refine g_and (M2 := (zMr D A ad cy tl)) (fun hr15 => ?_)
      refine g_istore (pc := 62) C ([(4, .int r15), (3, .int z10), (2, .int z8), (0, .ref (ad 0)), (1, .int p0)]) dX7_withRegister_62 (Nat.le_of_ble_eq_true rfl) rfl ?_
      refine g_iload_n (pc := 64) C dX7_withRegister_64 rfl 1 rfl ?_
      refine g_iconst (pc := 65) C 3 dX7_withRegister_65 (by decide) ?_
      refine g_icmp_ne (pc := 66) C 102 dX7_withRegister_66 (by decide) (fun c16 => ?_) (fun c16 => ?_)
      · refine g_aload_n (pc := 102) C dX7_withRegister_102 rfl 3 rfl ?_
        refine g_iload (pc := 103) C dX7_withRegister_103 0 rfl ?_
        refine zcallVi (pc := 105) (st := []) C C.2.2.2.2.2 (n_X7_readWord l D ad cy tl A r15) (cwV 1 C.2.2.2.2.1 gw_RX7_122 rfl rfl rfl cd_X7_readWord ⟨Nat.le_of_ble_eq_true rfl, Nat.le_of_ble_eq_true rfl⟩) (hr_0 C) rfl rfl (Nat.le_of_ble_eq_true rfl) ⟨Nat.le_of_ble_eq_true rfl, Nat.le_of_ble_eq_true rfl⟩ dX7_withRegister_105 (fun r17 => ?_)
        refine g_and (M2 := (zMr D A ad cy tl)) (fun hr17 => ?_)
        refine g_istore (pc := 108) C ([(5, .int r17), (4, .int r15), (3, .int z10), (2, .int z8), (0, .ref (ad 0)), (1, .int p0)]) dX7_withRegister_108 (Nat.le_of_ble_eq_true rfl) rfl ?_
        refine g_aload_n (pc := 110) C dX7_withRegister_110 rfl 4 rfl ?_
        refine g_iload_n (pc := 111) C dX7_withRegister_111 rfl 3 rfl ?_
        refine zcallVi (pc := 112) (st := []) C C.2.2.2.2.2 (n_X7_register l D ad cy tl A z8) (cwV 1 C.2.2.2.2.1 gw_RX7_146 rfl rfl rfl cd_X7_register ⟨Nat.le_of_ble_eq_true rfl, Nat.le_of_ble_eq_true rfl⟩) (hr_0 C) rfl rfl (Nat.le_of_ble_eq_true rfl) ⟨Nat.le_of_ble_eq_true rfl, Nat.le_of_ble_eq_true rfl⟩ dX7_withRegister_112 (fun r18 => ?_)
        refine g_and (M2 := (zMr D A ad cy tl)) (fun hr18 => ?_)
        refine g_istore (pc := 115) C ([(6, .int r18), (5, .int r17), (4, .int r15), (3, .int z10), (2, .int z8), (0, .ref (ad 0)), (1, .int p0)]) dX7_withRegister_115 (Nat.le_of_ble_eq_true rfl) rfl ?_
        refine g_iload_n (pc := 117) C dX7_withRegister_117 rfl 3 rfl ?_
        refine g_tableI (pc := 118) C 0 7 (zi_w hz10 (a' := 0) (b' := 0 + (7 : Nat)) (by decide)) [160, 185, 208, 273, 232] dX7_withRegister_118 (by decide) (by decide) (by decide) (List.forall_mem_cons.mpr ⟨?_, (List.forall_mem_cons.mpr ⟨?_, (List.forall_mem_cons.mpr ⟨?_, (List.forall_mem_cons.mpr ⟨?_, (List.forall_mem_cons.mpr ⟨?_, fun _ h => absurd h List.not_mem_nil⟩)⟩)⟩)⟩)⟩)
        · refine g_aload_n (pc := 160) C dX7_withRegister_160 rfl 5 rfl ?_
          refine g_sipush (pc := 161) C 8192 dX7_withRegister_161 (by decide) ?_
          refine g_iload (pc := 164) C dX7_withRegister_164 1 rfl ?_
          refine g_iload (pc := 166) C dX7_withRegister_166 0 rfl ?_
          refine g_iconst (pc := 168) C (-1) dX7_withRegister_168 (by decide) ?_
          refine g_ixor (pc := 169) C dX7_withRegister_169 (fun z19 ez19 => ?_)
          refine g_iand (pc := 170) C dX7_withRegister_170 (fun z20 ez20 => ?_)
          have hz20 : zI 0 65535 z20 := zi_and2 hr17 ez20
          refine g_if_ne (pc := 171) C 178 dX7_withRegister_171 (by decide) (fun c21 => ?_) (fun c21 => ?_)
          · have h22 : zI 1 65535 z20 := zr_neL c21 hz20 (zi_c 0 (a := 0) (b := 0) (by decide)) (by decide)
            refine g_iconst (pc := 178) C 0 dX7_withRegister_178 (by decide) ?_
            exact g_sub [5, 6, 4, 3, 2, 1, 0] rfl (J179 z8 z10 r15 r17 r18 0 hz8 hz10 hr15 hr17 hr18 (zi_c 0 (a := 0) (b := 1) (by decide)))
          · have h23 : zI 0 0 z20 := zr_eq c21 hz20 (zi_c 0 (a := 0) (b := 0) (by decide)) (by decide)
            refine g_iconst (pc := 174) C 1 dX7_withRegister_174 (by decide) ?_
            refine g_goto (pc := 175) C 179 dX7_withRegister_175 (by decide) ?_
            exact g_sub [5, 6, 4, 3, 2, 1, 0] rfl (J179 z8 z10 r15 r17 r18 1 hz8 hz10 hr15 hr17 hr18 (zi_c 1 (a := 0) (b := 1) (by decide)))
        · refine g_aload_n (pc := 185) C dX7_withRegister_185 rfl 5 rfl ?_
          refine g_sipush (pc := 186) C 8192 dX7_withRegister_186 (by decide) ?_
          refine g_iload (pc := 189) C dX7_withRegister_189 1 rfl ?_
          refine g_iload (pc := 191) C dX7_withRegister_191 0 rfl ?_
          refine g_iand (pc := 193) C dX7_withRegister_193 (fun z24 ez24 => ?_)
          have hz24 : zI 0 65535 z24 := zi_and1 hr18 ez24
          refine g_if_ne (pc := 194) C 201 dX7_withRegister_194 (by decide) (fun c25 => ?_) (fun c25 => ?_)
          · have h26 : zI 1 65535 z24 := zr_neL c25 hz24 (zi_c 0 (a := 0) (b := 0) (by decide)) (by decide)
            refine g_iconst (pc := 201) C 0 dX7_withRegister_201 (by decide) ?_
            exact g_sub [5, 6, 4, 3, 2, 1, 0] rfl (J202 z8 z10 r15 r17 r18 0 hz8 hz10 hr15 hr17 hr18 (zi_c 0 (a := 0) (b := 1) (by decide)))
          · have h27 : zI 0 0 z24 := zr_eq c25 hz24 (zi_c 0 (a := 0) (b := 0) (by decide)) (by decide)
            refine g_iconst (pc := 197) C 1 dX7_withRegister_197 (by decide) ?_
            refine g_goto (pc := 198) C 202 dX7_withRegister_198 (by decide) ?_
            exact g_sub [5, 6, 4, 3, 2, 1, 0] rfl (J202 z8 z10 r15 r17 r18 1 hz8 hz10 hr15 hr17 hr18 (zi_c 1 (a := 0) (b := 1) (by decide)))
        · refine g_aload_n (pc := 208) C dX7_withRegister_208 rfl 5 rfl ?_
          refine g_iload_n (pc := 209) C dX7_withRegister_209 rfl 4 rfl ?_
          refine g_iload (pc := 210) C dX7_withRegister_210 1 rfl ?_
          refine g_iload (pc := 212) C dX7_withRegister_212 0 rfl ?_
          refine g_ixor (pc := 214) C dX7_withRegister_214 (fun z28 ez28 => ?_)
          refine zcallVv (pc := 215) (st := []) C C.2.2.2.2.2 (n_X7_register_ l D ad cy tl A z8 z28) (cwV 2 C.2.2.2.2.1 gw_RX7_149 rfl rfl rfl cd_X7_register_ ⟨Nat.le_of_ble_eq_true rfl, Nat.le_of_ble_eq_true rfl⟩) (hr_0 C) rfl rfl (Nat.le_of_ble_eq_true rfl) ⟨Nat.le_of_ble_eq_true rfl, Nat.le_of_ble_eq_true rfl⟩ dX7_withRegister_215 ?_
          refine g_aload_n (pc := 218) C dX7_withRegister_218 rfl 5 rfl ?_
          refine g_iload (pc := 219) C dX7_withRegister_219 1 rfl ?_
          refine g_iload (pc := 221) C dX7_withRegister_221 0 rfl ?_
          refine g_ixor (pc := 223) C dX7_withRegister_223 (fun z29 ez29 => ?_)
          refine g_iconst (pc := 224) C 0 dX7_withRegister_224 (by decide) ?_
          refine g_iconst (pc := 225) C 0 dX7_withRegister_225 (by decide) ?_
          refine zcallVv (pc := 226) (st := []) C C.2.2.2.2.2 (n_X7_compare l D ad cy tl A z29 0 0) (cwV 3 C.2.2.2.2.1 gw_RX7_151 rfl rfl rfl cd_X7_compare ⟨Nat.le_of_ble_eq_true rfl, Nat.le_of_ble_eq_true rfl⟩) (hr_0 C) rfl rfl (Nat.le_of_ble_eq_true rfl) ⟨Nat.le_of_ble_eq_true rfl, Nat.le_of_ble_eq_true rfl⟩ dX7_withRegister_226 ?_
          refine g_goto (pc := 229) C 282 dX7_withRegister_229 (by decide) ?_
          exact g_sub [5, 6, 4, 3, 2, 1, 0] rfl (J282 z8 z10 r15 r17 r18 hz8 hz10 hr15 hr17 hr18)
        · refine g_aload_n (pc := 273) C dX7_withRegister_273 rfl 5 rfl ?_
          refine g_iload_n (pc := 274) C dX7_withRegister_274 rfl 4 rfl ?_
          refine g_iload (pc := 275) C dX7_withRegister_275 1 rfl ?_
          refine g_iload (pc := 277) C dX7_withRegister_277 0 rfl ?_
          refine zcallVv (pc := 279) (st := []) C C.2.2.2.2.2 (n_X7_divide l D ad cy tl A z8 r17 r18 hr17 hr18) (cwV 3 C.2.2.2.2.1 gw_RX7_185 rfl rfl rfl cd_X7_divide ⟨Nat.le_of_ble_eq_true rfl, Nat.le_of_ble_eq_true rfl⟩) (hr_0 C) rfl rfl (Nat.le_of_ble_eq_true rfl) ⟨Nat.le_of_ble_eq_true rfl, Nat.le_of_ble_eq_true rfl⟩ dX7_withRegister_279 ?_
          exact g_sub [5, 6, 4, 3, 2, 1, 0] rfl (J282 z8 z10 r15 r17 r18 hz8 hz10 hr15 hr17 hr18)
        · refine g_iload (pc := 232) C dX7_withRegister_232 1 rfl ?_
          refine g_i2l (pc := 234) C dX7_withRegister_234 (fun z30 ez30 => ?_)
          refine g_iload (pc := 235) C dX7_withRegister_235 0 rfl ?_
          refine g_i2l (pc := 237) C dX7_withRegister_237 (fun z31 ez31 => ?_)
          refine g_lmul (pc := 238) C dX7_withRegister_238 (fun z32 ez32 => ?_)
          refine g_lstore (pc := 239) C ([(7, .long z32), (6, .int r18), (5, .int r17), (4, .int r15), (3, .int z10), (2, .int z8), (0, .ref (ad 0)), (1, .int p0)]) dX7_withRegister_239 (Nat.le_of_ble_eq_true rfl) rfl ?_
          refine g_aload_n (pc := 241) C dX7_withRegister_241 rfl 6 rfl ?_
          refine g_iload_n (pc := 242) C dX7_withRegister_242 rfl 5 rfl ?_
          refine g_lload (pc := 243) C dX7_withRegister_243 0 rfl ?_
          refine g_bipush (pc := 245) C 16 dX7_withRegister_245 (by decide) ?_
          refine g_lshr (pc := 247) C dX7_withRegister_247 (fun z33 ez33 => ?_)
          refine g_l2i (pc := 248) C dX7_withRegister_248 (fun z34 ez34 => ?_)
          refine zcallVv (pc := 249) (st := []) C C.2.2.2.2.2 (n_X7_register_ l D ad cy tl A z8 z34) (cwV 2 C.2.2.2.2.1 gw_RX7_149 rfl rfl rfl cd_X7_register_ ⟨Nat.le_of_ble_eq_true rfl, Nat.le_of_ble_eq_true rfl⟩) (hr_0 C) rfl rfl (Nat.le_of_ble_eq_true rfl) ⟨Nat.le_of_ble_eq_true rfl, Nat.le_of_ble_eq_true rfl⟩ dX7_withRegister_249 ?_
          refine g_aload_n (pc := 252) C dX7_withRegister_252 rfl 6 rfl ?_
          refine g_aload_n (pc := 253) C dX7_withRegister_253 rfl 6 rfl ?_
          refine g_iload_n (pc := 254) C dX7_withRegister_254 rfl 5 rfl ?_
          refine g_iconst (pc := 255) C 1 dX7_withRegister_255 (by decide) ?_
          refine g_iadd (pc := 256) C dX7_withRegister_256 (fun z35 ez35 => ?_)
          have hz35 : zI 1 16 z35 := zi_add hz8 (zi_c 1 (a := 1) (b := 1) (by decide)) ez35 (by decide)
          refine zcallVi (pc := 257) (st := [.ref (ad 0)]) C C.2.2.2.2.2 (n_X7_registerAt l D ad cy tl A z35) (cwV 1 C.2.2.2.2.1 gw_RX7_119 rfl rfl rfl cd_X7_registerAt ⟨Nat.le_of_ble_eq_true rfl, Nat.le_of_ble_eq_true rfl⟩) (hr_0 C) rfl rfl (Nat.le_of_ble_eq_true rfl) ⟨Nat.le_of_ble_eq_true rfl, Nat.le_of_ble_eq_true rfl⟩ dX7_withRegister_257 (fun r36 => ?_)
          refine g_and (M2 := (zMr D A ad cy tl)) (fun hr36 => ?_)
          refine g_lload (pc := 260) C dX7_withRegister_260 0 rfl ?_
          refine g_ldc2_w (pc := 262) C dX7_withRegister_262 (C.wd wk_886) ?_
          refine g_land (pc := 265) C dX7_withRegister_265 (fun z37 ez37 => ?_)
          refine g_l2i (pc := 266) C dX7_withRegister_266 (fun z38 ez38 => ?_)
          refine zcallVv (pc := 267) (st := []) C C.2.2.2.2.2 (n_X7_writeWord l D ad cy tl A r36 z38) (cwV 2 C.2.2.2.2.1 gw_RX7_125 rfl rfl rfl cd_X7_writeWord ⟨Nat.le_of_ble_eq_true rfl, Nat.le_of_ble_eq_true rfl⟩) (hr_0 C) rfl rfl (Nat.le_of_ble_eq_true rfl) ⟨Nat.le_of_ble_eq_true rfl, Nat.le_of_ble_eq_true rfl⟩ dX7_withRegister_267 ?_
          refine g_goto (pc := 270) C 282 dX7_withRegister_270 (by decide) ?_
          exact g_sub [6, 7, 5, 4, 3, 2, 1] rfl (J282 z8 z10 r15 r17 r18 hz8 hz10 hr15 hr17 hr18)
      · have h39 : zI 3 3 z10 := zr_eq c16 hz10 (zi_c 3 (a := 3) (b := 3) (by decide)) (by decide)
        refine g_aload_n (pc := 69) C dX7_withRegister_69 rfl 3 rfl ?_
        refine g_bipush (pc := 70) C 64 dX7_withRegister_70 (by decide) ?_
        refine g_iconst (pc := 72) C 4 dX7_withRegister_72 (by decide) ?_
        refine g_iload_n (pc := 73) C dX7_withRegister_73 rfl 2 rfl ?_
        refine g_imul (pc := 74) C dX7_withRegister_74 (fun z40 ez40 => ?_)
        have hz40 : zI 0 60 z40 := zi_mul (zi_c 4 (a := 4) (b := 4) (by decide)) hz8 ez40 (by decide)
        refine g_iadd (pc := 75) C dX7_withRegister_75 (fun z41 ez41 => ?_)
        have hz41 : zI 64 124 z41 := zi_add (zi_c 64 (a := 64) (b := 64) (by decide)) hz40 ez41 (by decide)
        refine zcallVv (pc := 76) (st := []) C C.2.2.2.2.2 (n_X7_enter l D ad cy tl A z41) (cwV 1 C.2.2.2.2.1 gw_RX7_177 rfl rfl rfl cd_X7_enter ⟨Nat.le_of_ble_eq_true rfl, Nat.le_of_ble_eq_true rfl⟩) (hr_0 C) rfl rfl (Nat.le_of_ble_eq_true rfl) ⟨Nat.le_of_ble_eq_true rfl, Nat.le_of_ble_eq_true rfl⟩ dX7_withRegister_76 ?_
        refine g_aload_n (pc := 79) C dX7_withRegister_79 rfl 3 rfl ?_
        refine g_bipush (pc := 80) C 11 dX7_withRegister_80 (by decide) ?_
        refine g_iload (pc := 82) C dX7_withRegister_82 0 rfl ?_
        refine zcallVv (pc := 84) (st := []) C C.2.2.2.2.2 (n_X7_register_ l D ad cy tl A 11 r15) (cwV 2 C.2.2.2.2.1 gw_RX7_149 rfl rfl rfl cd_X7_register_ ⟨Nat.le_of_ble_eq_true rfl, Nat.le_of_ble_eq_true rfl⟩) (hr_0 C) rfl rfl (Nat.le_of_ble_eq_true rfl) ⟨Nat.le_of_ble_eq_true rfl, Nat.le_of_ble_eq_true rfl⟩ dX7_withRegister_84 ?_
        refine g_aload_n (pc := 87) C dX7_withRegister_87 rfl 3 rfl ?_
        refine g_sipush (pc := 88) C 512 dX7_withRegister_88 (by decide) ?_
        refine g_iconst (pc := 91) C 1 dX7_withRegister_91 (by decide) ?_
        refine zcallVv (pc := 92) (st := []) C C.2.2.2.2.2 (n_X7_flag l D ad cy tl A 512 1) (cwV 2 C.2.2.2.2.1 gw_RX7_134 rfl rfl rfl cd_X7_flag ⟨Nat.le_of_ble_eq_true rfl, Nat.le_of_ble_eq_true rfl⟩) (hr_0 C) rfl rfl (Nat.le_of_ble_eq_true rfl) ⟨Nat.le_of_ble_eq_true rfl, Nat.le_of_ble_eq_true rfl⟩ dX7_withRegister_92 ?_
        refine g_aload_n (pc := 95) C dX7_withRegister_95 rfl 3 rfl ?_
        refine g_iconst (pc := 96) C 1 dX7_withRegister_96 (by decide) ?_
        refine pr_0_23 (pc := 97) C wk_716 (zi_c 1 (a := 0) (b := 1) (by decide)) dX7_withRegister_97 ?_
        refine g_iconst (pc := 100) C 1 dX7_withRegister_100 (by decide) ?_
        exact g_ireturn r dX7_withRegister_101 rfl (fun _ h => ⟨(zi_c 1 (a := 0) (b := 1) (by decide)), h⟩)
    · have h42 : zI 5 5 z10 := zr_eq c13 hz10 (zi_c 5 (a := 5) (b := 5) (by decide)) (by decide)
      exact g_sub [2, 3, 1, 0] rfl (J26 z8 z10 hz8 (zi_w h42 (a' := 4) (b' := 5) (by decide)))

set_option maxHeartbeats 2000000 in
set_option maxRecDepth 100000 in
theorem n_X7_shift (l : Launch) (D : va_G) (ad : Nat → Nat) (cy : Nat → ClassId) (tl : Int32) (A : Nat → Prop) (p0 : Int32) : zMv l yX7_shift wz_X7_shift ({ frames := 6, cells := 0, slots := 0, locals := 131 }) [.ref (ad 0), .int p0] D (zTr cy) A (zMr D A ad cy tl) (zMr D A ad cy tl) := by
  refine zstart_v (cc := cX7_shift) (maxL := 10) (own := RX7) (by decide) rfl rfl (Nat.le_of_ble_eq_true rfl) (fun p e s m args below meth c Q C r => ?_)
  have J258 : ∀ (a2_258 : Int32) (a3_258 : Int32) (a4_258 : Int32) (a5_258 : Int32) (a6_258 : Int32) (a7_258 : Int32) (a8_258 : Int32) (_ : zI 0 15 a2_258) (_ : zI 0 3 a3_258) (_ : zI 1 16 a4_258) (_ : zI 0 1 a6_258) (_ : zI 0 1 a7_258) (_ : zI 1 16 a8_258), zG p l e ({ frames := 6, cells := 0, slots := 0, locals := 131 }) s m args below meth c 10 0 0 A Q (zMr D A ad cy tl) 258 [(0, .ref (ad 0)), (1, .int p0), (2, .int a2_258), (3, .int a3_258), (4, .int a4_258), (5, .int a5_258), (6, .int a6_258), (7, .int a7_258), (8, .int a8_258)] [] := by
    intro a2_258 a3_258 a4_258 a5_258 a6_258 a7_258 a8_258 ha2_258 ha3_258 ha4_258 ha6_258 ha7_258 ha8_258
    refine g_aload_n (pc := 258) C dX7_shift_258 rfl 0 rfl ?_
    refine g_iload_n (pc := 259) C dX7_shift_259 rfl 2 rfl ?_
    refine g_iload (pc := 260) C dX7_shift_260 5 rfl ?_
    refine zcallVv (pc := 262) (st := []) C C.2.2.2.2.2 (n_X7_register_ l D ad cy tl A a2_258 a5_258) (cwV 2 C.2.2.2.2.1 gw_RX7_149 rfl rfl rfl cd_X7_register_ ⟨Nat.le_of_ble_eq_true rfl, Nat.le_of_ble_eq_true rfl⟩) (hr_0 C) rfl rfl (Nat.le_of_ble_eq_true rfl) ⟨Nat.le_of_ble_eq_true rfl, Nat.le_of_ble_eq_true rfl⟩ dX7_shift_262 ?_
    exact g_return r dX7_shift_265 (fun _ h => h)
  have J60 : ∀ (n : Nat) (a2_60 : Int32) (a3_60 : Int32) (a4_60 : Int32) (a5_60 : Int32) (a6_60 : Int32) (a7_60 : Int32) (a8_60 : Int32) (_ : zI 0 15 a2_60) (_ : zI 0 3 a3_60) (_ : zI 1 16 a4_60) (_ : zI 0 1 a6_60) (_ : zI 0 1 a7_60) (_ : zI 0 16 a8_60) (_ : (16 - (a8_60 : Int32).toInt).toNat = n), zG p l e ({ frames := 6, cells := 0, slots := 0, locals := 131 }) s m args below meth c 10 0 0 A Q (zMr D A ad cy tl) 60 [(0, .ref (ad 0)), (1, .int p0), (2, .int a2_60), (3, .int a3_60), (4, .int a4_60), (5, .int a5_60), (6, .int a6_60), (7, .int a7_60), (8, .int a8_60)] [] := by
    intro n
    induction n using Nat.strongRecOn with
    | ind n ih =>
      intro a2_60 a3_60 a4_60 a5_60 a6_60 a7_60 a8_60 ha2_60 ha3_60 ha4_60 ha6_60 ha7_60 ha8_60 hn
      have J219 : ∀ (a5_219 : Int32) (a7_219 : Int32) (b0_219 : Int32) (_ : zI 0 1 a7_219) (_ : zI 0 15 a8_60) (_ : zI 0 1 b0_219), zG p l e ({ frames := 6, cells := 0, slots := 0, locals := 131 }) s m args below meth c 10 0 0 A Q (zMr D A ad cy tl) 219 [(0, .ref (ad 0)), (1, .int p0), (2, .int a2_60), (3, .int a3_60), (4, .int a4_60), (5, .int a5_219), (6, .int a6_60), (7, .int a7_219), (8, .int a8_60), (9, .int a5_60)] [.int b0_219] := by
        intro a5_219 a7_219 b0_219 ha7_219 hc_a8_219 hb0_219
        refine g_istore (pc := 219) C ([(6, .int b0_219), (0, .ref (ad 0)), (1, .int p0), (2, .int a2_60), (3, .int a3_60), (4, .int a4_60), (5, .int a5_219), (7, .int a7_219), (8, .int a8_60), (9, .int a5_60)]) dX7_shift_219 (Nat.le_of_ble_eq_true rfl) rfl ?_
        obtain ⟨z1, ez1⟩ : ∃ z : Int32, z = a8_60 + 1 := ⟨_, rfl⟩
        have hz1 : zI 1 16 z1 := zi_add hc_a8_219 (zi_c 1 (a := 1) (b := 1) (by decide)) ez1 (by decide)
        refine g_iinc (pc := 221) C z1 ([(8, .int z1), (6, .int b0_219), (0, .ref (ad 0)), (1, .int p0), (2, .int a2_60), (3, .int a3_60), (4, .int a4_60), (5, .int a5_219), (7, .int a7_219), (9, .int a5_60)]) dX7_shift_221 8 rfl (by rw [ez1]; rfl) (Nat.le_of_ble_eq_true rfl) rfl ?_
        refine g_goto (pc := 224) C 60 dX7_shift_224 (by decide) ?_
        exact g_sub [2, 3, 4, 5, 6, 7, 1, 8, 0] rfl (ih (16 - (z1 : Int32).toInt).toNat (by rw [← hn]; exact zdec ez1 hc_a8_219 (by decide) (zi_w hz1 (a' := 0) (b' := 16) (by decide))) a2_60 a3_60 a4_60 a5_219 b0_219 a7_219 z1 ha2_60 ha3_60 ha4_60 hb0_219 ha7_219 (zi_w hz1 (a' := 0) (b' := 16) (by decide)) rfl)
      have J214 : ∀ (a5_214 : Int32) (a7_214 : Int32) (_ : zI 0 1 a7_214) (_ : zI 0 15 a8_60), zG p l e ({ frames := 6, cells := 0, slots := 0, locals := 131 }) s m args below meth c 10 0 0 A Q (zMr D A ad cy tl) 214 [(0, .ref (ad 0)), (1, .int p0), (2, .int a2_60), (3, .int a3_60), (4, .int a4_60), (5, .int a5_214), (6, .int a6_60), (7, .int a7_214), (8, .int a8_60), (9, .int a5_60)] [] := by
        intro a5_214 a7_214 ha7_214 hc_a8_214
        refine g_iconst (pc := 214) C 1 dX7_shift_214 (by decide) ?_
        refine g_goto (pc := 215) C 219 dX7_shift_215 (by decide) ?_
        exact g_sub [0, 1, 2, 3, 4, 5, 6, 7, 8, 9] rfl (J219 a5_214 a7_214 1 ha7_214 hc_a8_214 (zi_c 1 (a := 0) (b := 1) (by decide)))
      have J211 : ∀ (a5_211 : Int32) (a7_211 : Int32) (b0_211 : Int32) (b1_211 : Int32) (_ : zI 0 0 a6_60) (_ : zI 0 1 a7_211) (_ : zI 0 15 a8_60) (_ : zI 0 1 b0_211) (_ : zI 0 1 b1_211), zG p l e ({ frames := 6, cells := 0, slots := 0, locals := 131 }) s m args below meth c 10 0 0 A Q (zMr D A ad cy tl) 211 [(0, .ref (ad 0)), (1, .int p0), (2, .int a2_60), (3, .int a3_60), (4, .int a4_60), (5, .int a5_211), (6, .int a6_60), (7, .int a7_211), (8, .int a8_60), (9, .int a5_60)] [.int b0_211, .int b1_211] := by
        intro a5_211 a7_211 b0_211 b1_211 hc_a6_211 ha7_211 hc_a8_211 hb0_211 hb1_211
        refine g_icmp_eq (pc := 211) C 218 dX7_shift_211 (by decide) (fun c2 => ?_) (fun c2 => ?_)
        · refine g_iconst (pc := 218) C 0 dX7_shift_218 (by decide) ?_
          exact g_sub [0, 1, 2, 3, 4, 5, 6, 7, 8, 9] rfl (J219 a5_211 a7_211 0 ha7_211 hc_a8_211 (zi_c 0 (a := 0) (b := 1) (by decide)))
        · exact g_sub [0, 1, 2, 3, 4, 5, 6, 7, 8, 9] rfl (J214 a5_211 a7_211 ha7_211 hc_a8_211)
      have J199 : ∀ (a5_199 : Int32) (a7_199 : Int32) (b0_199 : Int32) (_ : zI 0 0 a6_60) (_ : zI 0 1 a7_199) (_ : zI 0 15 a8_60) (_ : zI 0 1 b0_199), zG p l e ({ frames := 6, cells := 0, slots := 0, locals := 131 }) s m args below meth c 10 0 0 A Q (zMr D A ad cy tl) 199 [(0, .ref (ad 0)), (1, .int p0), (2, .int a2_60), (3, .int a3_60), (4, .int a4_60), (5, .int a5_199), (6, .int a6_60), (7, .int a7_199), (8, .int a8_60), (9, .int a5_60)] [.int b0_199] := by
        intro a5_199 a7_199 b0_199 hc_a6_199 ha7_199 hc_a8_199 hb0_199
        refine g_iload (pc := 199) C dX7_shift_199 5 rfl ?_
        refine g_ldc (pc := 201) C dX7_shift_201 (C.wd wk_814) ?_
        refine g_icmp_lt (pc := 203) C 210 dX7_shift_203 (by decide) (fun c3 => ?_) (fun c3 => ?_)
        · have h4 : zI (-2147483648) 32767 a5_199 := zr_lt1 (zc_lt c3) (zi_full a5_199) (zi_c 32768 (a := 32768) (b := 32768) (by decide)) (by decide)
          refine g_iconst (pc := 210) C 0 dX7_shift_210 (by decide) ?_
          exact g_sub [0, 1, 2, 3, 4, 5, 6, 7, 8, 9] rfl (J211 a5_199 a7_199 0 b0_199 hc_a6_199 ha7_199 hc_a8_199 (zi_c 0 (a := 0) (b := 1) (by decide)) hb0_199)
        · have h5 : zI 32768 2147483647 a5_199 := zr_le2 (zc_nlt c3) (zi_c 32768 (a := 32768) (b := 32768) (by decide)) (zi_full a5_199) (by decide)
          refine g_iconst (pc := 206) C 1 dX7_shift_206 (by decide) ?_
          refine g_goto (pc := 207) C 211 dX7_shift_207 (by decide) ?_
          exact g_sub [0, 1, 2, 3, 4, 5, 6, 7, 8, 9] rfl (J211 a5_199 a7_199 1 b0_199 hc_a6_199 ha7_199 hc_a8_199 (zi_c 1 (a := 0) (b := 1) (by decide)) hb0_199)
      have J182 : ∀ (a5_182 : Int32) (a7_182 : Int32) (_ : zI 0 1 a7_182) (_ : zI 0 15 a8_60), zG p l e ({ frames := 6, cells := 0, slots := 0, locals := 131 }) s m args below meth c 10 0 0 A Q (zMr D A ad cy tl) 182 [(0, .ref (ad 0)), (1, .int p0), (2, .int a2_60), (3, .int a3_60), (4, .int a4_60), (5, .int a5_182), (6, .int a6_60), (7, .int a7_182), (8, .int a8_60), (9, .int a5_60)] [] := by
        intro a5_182 a7_182 ha7_182 hc_a8_182
        refine g_iload (pc := 182) C dX7_shift_182 6 rfl ?_
        refine g_if_ne (pc := 184) C 214 dX7_shift_184 (by decide) (fun c6 => ?_) (fun c6 => ?_)
        · have h7 : zI 1 1 a6_60 := zr_neL c6 ha6_60 (zi_c 0 (a := 0) (b := 0) (by decide)) (by decide)
          exact g_sub [0, 1, 2, 3, 4, 5, 6, 7, 8, 9] rfl (J214 a5_182 a7_182 ha7_182 hc_a8_182)
        · have h8 : zI 0 0 a6_60 := zr_eq c6 ha6_60 (zi_c 0 (a := 0) (b := 0) (by decide)) (by decide)
          refine g_iload (pc := 187) C dX7_shift_187 9 rfl ?_
          refine g_ldc (pc := 189) C dX7_shift_189 (C.wd wk_814) ?_
          refine g_icmp_lt (pc := 191) C 198 dX7_shift_191 (by decide) (fun c9 => ?_) (fun c9 => ?_)
          · have h10 : zI (-2147483648) 32767 a5_60 := zr_lt1 (zc_lt c9) (zi_full a5_60) (zi_c 32768 (a := 32768) (b := 32768) (by decide)) (by decide)
            refine g_iconst (pc := 198) C 0 dX7_shift_198 (by decide) ?_
            exact g_sub [0, 1, 2, 3, 4, 5, 6, 7, 8, 9] rfl (J199 a5_182 a7_182 0 h8 ha7_182 hc_a8_182 (zi_c 0 (a := 0) (b := 1) (by decide)))
          · have h11 : zI 32768 2147483647 a5_60 := zr_le2 (zc_nlt c9) (zi_c 32768 (a := 32768) (b := 32768) (by decide)) (zi_full a5_60) (by decide)
            refine g_iconst (pc := 194) C 1 dX7_shift_194 (by decide) ?_
            refine g_goto (pc := 195) C 199 dX7_shift_195 (by decide) ?_
            exact g_sub [0, 1, 2, 3, 4, 5, 6, 7, 8, 9] rfl (J199 a5_182 a7_182 1 h8 ha7_182 hc_a8_182 (zi_c 1 (a := 0) (b := 1) (by decide)))
      have J104 : ∀ (b0_104 : Int32) (_ : zI 0 15 a8_60) (_ : zI 0 1 b0_104), zG p l e ({ frames := 6, cells := 0, slots := 0, locals := 131 }) s m args below meth c 10 0 0 A Q (zMr D A ad cy tl) 104 [(0, .ref (ad 0)), (1, .int p0), (2, .int a2_60), (3, .int a3_60), (4, .int a4_60), (5, .int a5_60), (6, .int a6_60), (7, .int a7_60), (8, .int a8_60), (9, .int a5_60)] [.int b0_104] := by
        intro b0_104 hc_a8_104 hb0_104
        refine g_istore (pc := 104) C ([(7, .int b0_104), (0, .ref (ad 0)), (1, .int p0), (2, .int a2_60), (3, .int a3_60), (4, .int a4_60), (5, .int a5_60), (6, .int a6_60), (8, .int a8_60), (9, .int a5_60)]) dX7_shift_104 (Nat.le_of_ble_eq_true rfl) rfl ?_
        refine g_iload_n (pc := 106) C dX7_shift_106 rfl 4 rfl ?_
        refine g_tableI (pc := 107) C 0 3 (zi_w ha3_60 (a' := 0) (b' := 0 + (3 : Nat)) (by decide)) [132, 147, 156, 168] dX7_shift_107 (by decide) (by decide) (by decide) (List.forall_mem_cons.mpr ⟨?_, (List.forall_mem_cons.mpr ⟨?_, (List.forall_mem_cons.mpr ⟨?_, (List.forall_mem_cons.mpr ⟨?_, fun _ h => absurd h List.not_mem_nil⟩)⟩)⟩)⟩)
        · refine g_iload (pc := 132) C dX7_shift_132 6 rfl ?_
          refine g_iconst (pc := 134) C 1 dX7_shift_134 (by decide) ?_
          refine g_ishr (pc := 135) C dX7_shift_135 (fun z12 ez12 => ?_)
          refine g_iload (pc := 136) C dX7_shift_136 6 rfl ?_
          refine g_ldc (pc := 138) C dX7_shift_138 (C.wd wk_814) ?_
          refine g_iand (pc := 140) C dX7_shift_140 (fun z13 ez13 => ?_)
          have hz13 : zI 0 32768 z13 := zi_and1 (zi_c 32768 (a := 0) (b := 32768) (by decide)) ez13
          refine g_ior (pc := 141) C dX7_shift_141 (fun z14 ez14 => ?_)
          refine g_istore (pc := 142) C ([(5, .int z14), (7, .int b0_104), (0, .ref (ad 0)), (1, .int p0), (2, .int a2_60), (3, .int a3_60), (4, .int a4_60), (6, .int a6_60), (8, .int a8_60), (9, .int a5_60)]) dX7_shift_142 (Nat.le_of_ble_eq_true rfl) rfl ?_
          refine g_goto (pc := 144) C 182 dX7_shift_144 (by decide) ?_
          exact g_sub [2, 3, 4, 5, 6, 0, 7, 1, 8, 9] rfl (J182 z14 b0_104 hb0_104 hc_a8_104)
        · refine g_iload (pc := 147) C dX7_shift_147 6 rfl ?_
          refine g_iconst (pc := 149) C 1 dX7_shift_149 (by decide) ?_
          refine g_ishr (pc := 150) C dX7_shift_150 (fun z15 ez15 => ?_)
          refine g_istore (pc := 151) C ([(5, .int z15), (7, .int b0_104), (0, .ref (ad 0)), (1, .int p0), (2, .int a2_60), (3, .int a3_60), (4, .int a4_60), (6, .int a6_60), (8, .int a8_60), (9, .int a5_60)]) dX7_shift_151 (Nat.le_of_ble_eq_true rfl) rfl ?_
          refine g_goto (pc := 153) C 182 dX7_shift_153 (by decide) ?_
          exact g_sub [2, 3, 4, 5, 6, 0, 7, 1, 8, 9] rfl (J182 z15 b0_104 hb0_104 hc_a8_104)
        · refine g_iload (pc := 156) C dX7_shift_156 6 rfl ?_
          refine g_iconst (pc := 158) C 1 dX7_shift_158 (by decide) ?_
          refine g_ishl (pc := 159) C dX7_shift_159 (fun z16 ez16 => ?_)
          refine g_ldc (pc := 160) C dX7_shift_160 (C.wd wk_816) ?_
          refine g_iand (pc := 162) C dX7_shift_162 (fun z17 ez17 => ?_)
          have hz17 : zI 0 65535 z17 := zi_and1 (zi_c 65535 (a := 0) (b := 65535) (by decide)) ez17
          refine g_istore (pc := 163) C ([(5, .int z17), (7, .int b0_104), (0, .ref (ad 0)), (1, .int p0), (2, .int a2_60), (3, .int a3_60), (4, .int a4_60), (6, .int a6_60), (8, .int a8_60), (9, .int a5_60)]) dX7_shift_163 (Nat.le_of_ble_eq_true rfl) rfl ?_
          refine g_goto (pc := 165) C 182 dX7_shift_165 (by decide) ?_
          exact g_sub [2, 3, 4, 5, 6, 0, 7, 1, 8, 9] rfl (J182 z17 b0_104 hb0_104 hc_a8_104)
        · refine g_iload (pc := 168) C dX7_shift_168 6 rfl ?_
          refine g_iconst (pc := 170) C 1 dX7_shift_170 (by decide) ?_
          refine g_ishr (pc := 171) C dX7_shift_171 (fun z18 ez18 => ?_)
          refine g_iload (pc := 172) C dX7_shift_172 6 rfl ?_
          refine g_iconst (pc := 174) C 1 dX7_shift_174 (by decide) ?_
          refine g_iand (pc := 175) C dX7_shift_175 (fun z19 ez19 => ?_)
          have hz19 : zI 0 1 z19 := zi_and1 (zi_c 1 (a := 0) (b := 1) (by decide)) ez19
          refine g_bipush (pc := 176) C 15 dX7_shift_176 (by decide) ?_
          refine g_ishl (pc := 178) C dX7_shift_178 (fun z20 ez20 => ?_)
          refine g_ior (pc := 179) C dX7_shift_179 (fun z21 ez21 => ?_)
          refine g_istore (pc := 180) C ([(5, .int z21), (7, .int b0_104), (0, .ref (ad 0)), (1, .int p0), (2, .int a2_60), (3, .int a3_60), (4, .int a4_60), (6, .int a6_60), (8, .int a8_60), (9, .int a5_60)]) dX7_shift_180 (Nat.le_of_ble_eq_true rfl) rfl ?_
          exact g_sub [2, 3, 4, 5, 6, 0, 7, 1, 8, 9] rfl (J182 z21 b0_104 hb0_104 hc_a8_104)
      refine g_iload (pc := 60) C dX7_shift_60 8 rfl ?_
      refine g_iload (pc := 62) C dX7_shift_62 4 rfl ?_
      refine g_icmp_ge (pc := 64) C 227 dX7_shift_64 (by decide) (fun c22 => ?_) (fun c22 => ?_)
      · have h23 : zI 1 16 a8_60 := zr_le2 (zc_le c22) ha4_60 ha8_60 (by decide)
        refine g_aload_n (pc := 227) C dX7_shift_227 rfl 0 rfl ?_
        refine g_sipush (pc := 228) C 4096 dX7_shift_228 (by decide) ?_
        refine g_iload (pc := 231) C dX7_shift_231 7 rfl ?_
        refine zcallVv (pc := 233) (st := []) C C.2.2.2.2.2 (n_X7_flag l D ad cy tl A 4096 a7_60) (cwV 2 C.2.2.2.2.1 gw_RX7_134 rfl rfl rfl cd_X7_flag ⟨Nat.le_of_ble_eq_true rfl, Nat.le_of_ble_eq_true rfl⟩) (hr_0 C) rfl rfl (Nat.le_of_ble_eq_true rfl) ⟨Nat.le_of_ble_eq_true rfl, Nat.le_of_ble_eq_true rfl⟩ dX7_shift_233 ?_
        refine g_aload_n (pc := 236) C dX7_shift_236 rfl 0 rfl ?_
        refine g_iload (pc := 237) C dX7_shift_237 5 rfl ?_
        refine g_iconst (pc := 239) C 0 dX7_shift_239 (by decide) ?_
        refine g_iconst (pc := 240) C 0 dX7_shift_240 (by decide) ?_
        refine zcallVv (pc := 241) (st := []) C C.2.2.2.2.2 (n_X7_compare l D ad cy tl A a5_60 0 0) (cwV 3 C.2.2.2.2.1 gw_RX7_151 rfl rfl rfl cd_X7_compare ⟨Nat.le_of_ble_eq_true rfl, Nat.le_of_ble_eq_true rfl⟩) (hr_0 C) rfl rfl (Nat.le_of_ble_eq_true rfl) ⟨Nat.le_of_ble_eq_true rfl, Nat.le_of_ble_eq_true rfl⟩ dX7_shift_241 ?_
        refine g_iload_n (pc := 244) C dX7_shift_244 rfl 3 rfl ?_
        refine g_iconst (pc := 245) C 2 dX7_shift_245 (by decide) ?_
        refine g_icmp_ne (pc := 246) C 258 dX7_shift_246 (by decide) (fun c24 => ?_) (fun c24 => ?_)
        · exact g_sub [0, 1, 2, 3, 4, 5, 6, 7, 8] rfl (J258 a2_60 a3_60 a4_60 a5_60 a6_60 a7_60 a8_60 ha2_60 ha3_60 ha4_60 ha6_60 ha7_60 h23)
        · have h25 : zI 2 2 a3_60 := zr_eq c24 ha3_60 (zi_c 2 (a := 2) (b := 2) (by decide)) (by decide)
          refine g_aload_n (pc := 249) C dX7_shift_249 rfl 0 rfl ?_
          refine g_sipush (pc := 250) C 2048 dX7_shift_250 (by decide) ?_
          refine g_iload (pc := 253) C dX7_shift_253 6 rfl ?_
          refine zcallVv (pc := 255) (st := []) C C.2.2.2.2.2 (n_X7_flag l D ad cy tl A 2048 a6_60) (cwV 2 C.2.2.2.2.1 gw_RX7_134 rfl rfl rfl cd_X7_flag ⟨Nat.le_of_ble_eq_true rfl, Nat.le_of_ble_eq_true rfl⟩) (hr_0 C) rfl rfl (Nat.le_of_ble_eq_true rfl) ⟨Nat.le_of_ble_eq_true rfl, Nat.le_of_ble_eq_true rfl⟩ dX7_shift_255 ?_
          exact g_sub [0, 1, 2, 3, 4, 5, 6, 7, 8] rfl (J258 a2_60 a3_60 a4_60 a5_60 a6_60 a7_60 a8_60 ha2_60 (zi_w h25 (a' := 0) (b' := 3) (by decide)) ha4_60 ha6_60 ha7_60 h23)
      · have h26 : zI 0 15 a8_60 := zr_lt1 (zc_nle c22) ha8_60 ha4_60 (by decide)
        refine g_iload (pc := 67) C dX7_shift_67 5 rfl ?_
        refine g_istore (pc := 69) C ([(9, .int a5_60), (0, .ref (ad 0)), (1, .int p0), (2, .int a2_60), (3, .int a3_60), (4, .int a4_60), (5, .int a5_60), (6, .int a6_60), (7, .int a7_60), (8, .int a8_60)]) dX7_shift_69 (Nat.le_of_ble_eq_true rfl) rfl ?_
        refine g_iload_n (pc := 71) C dX7_shift_71 rfl 4 rfl ?_
        refine g_iconst (pc := 72) C 2 dX7_shift_72 (by decide) ?_
        refine g_icmp_ne (pc := 73) C 91 dX7_shift_73 (by decide) (fun c27 => ?_) (fun c27 => ?_)
        · refine g_iload (pc := 91) C dX7_shift_91 6 rfl ?_
          refine g_iconst (pc := 93) C 2 dX7_shift_93 (by decide) ?_
          refine g_irem (pc := 94) C dX7_shift_94 (by decide) (fun z28 ez28 => ?_)
          refine g_iconst (pc := 95) C 1 dX7_shift_95 (by decide) ?_
          refine g_icmp_ne (pc := 96) C 103 dX7_shift_96 (by decide) (fun c29 => ?_) (fun c29 => ?_)
          · refine g_iconst (pc := 103) C 0 dX7_shift_103 (by decide) ?_
            exact g_sub [1, 2, 3, 4, 5, 6, 7, 8, 9, 0] rfl (J104 0 h26 (zi_c 0 (a := 0) (b := 1) (by decide)))
          · have h30 : zI 1 1 z28 := zr_eq c29 (zi_full z28) (zi_c 1 (a := 1) (b := 1) (by decide)) (by decide)
            refine g_iconst (pc := 99) C 1 dX7_shift_99 (by decide) ?_
            refine g_goto (pc := 100) C 104 dX7_shift_100 (by decide) ?_
            exact g_sub [1, 2, 3, 4, 5, 6, 7, 8, 9, 0] rfl (J104 1 h26 (zi_c 1 (a := 0) (b := 1) (by decide)))
        · have h31 : zI 2 2 a3_60 := zr_eq c27 ha3_60 (zi_c 2 (a := 2) (b := 2) (by decide)) (by decide)
          refine g_iload (pc := 76) C dX7_shift_76 6 rfl ?_
          refine g_ldc (pc := 78) C dX7_shift_78 (C.wd wk_814) ?_
          refine g_icmp_lt (pc := 80) C 87 dX7_shift_80 (by decide) (fun c32 => ?_) (fun c32 => ?_)
          · have h33 : zI (-2147483648) 32767 a5_60 := zr_lt1 (zc_lt c32) (zi_full a5_60) (zi_c 32768 (a := 32768) (b := 32768) (by decide)) (by decide)
            refine g_iconst (pc := 87) C 0 dX7_shift_87 (by decide) ?_
            refine g_goto (pc := 88) C 104 dX7_shift_88 (by decide) ?_
            exact g_sub [1, 2, 3, 4, 5, 6, 7, 8, 9, 0] rfl (J104 0 h26 (zi_c 0 (a := 0) (b := 1) (by decide)))
          · have h34 : zI 32768 2147483647 a5_60 := zr_le2 (zc_nlt c32) (zi_c 32768 (a := 32768) (b := 32768) (by decide)) (zi_full a5_60) (by decide)
            refine g_iconst (pc := 83) C 1 dX7_shift_83 (by decide) ?_
            refine g_goto (pc := 84) C 104 dX7_shift_84 (by decide) ?_
            exact g_sub [1, 2, 3, 4, 5, 6, 7, 8, 9, 0] rfl (J104 1 h26 (zi_c 1 (a := 0) (b := 1) (by decide)))
  have J44 : ∀ (a2_44 : Int32) (a3_44 : Int32) (a4_44 : Int32) (_ : zI 0 15 a2_44) (_ : zI 0 3 a3_44) (_ : zI 1 16 a4_44), zG p l e ({ frames := 6, cells := 0, slots := 0, locals := 131 }) s m args below meth c 10 0 0 A Q (zMr D A ad cy tl) 44 [(0, .ref (ad 0)), (1, .int p0), (2, .int a2_44), (3, .int a3_44), (4, .int a4_44)] [] := by
    intro a2_44 a3_44 a4_44 ha2_44 ha3_44 ha4_44
    refine g_aload_n (pc := 44) C dX7_shift_44 rfl 0 rfl ?_
    refine g_iload_n (pc := 45) C dX7_shift_45 rfl 2 rfl ?_
    refine zcallVi (pc := 46) (st := []) C C.2.2.2.2.2 (n_X7_register l D ad cy tl A a2_44) (cwV 1 C.2.2.2.2.1 gw_RX7_146 rfl rfl rfl cd_X7_register ⟨Nat.le_of_ble_eq_true rfl, Nat.le_of_ble_eq_true rfl⟩) (hr_0 C) rfl rfl (Nat.le_of_ble_eq_true rfl) ⟨Nat.le_of_ble_eq_true rfl, Nat.le_of_ble_eq_true rfl⟩ dX7_shift_46 (fun r35 => ?_)
    refine g_and (M2 := (zMr D A ad cy tl)) (fun hr35 => ?_)
    refine g_istore (pc := 49) C ([(5, .int r35), (0, .ref (ad 0)), (1, .int p0), (2, .int a2_44), (3, .int a3_44), (4, .int a4_44)]) dX7_shift_49 (Nat.le_of_ble_eq_true rfl) rfl ?_
    refine g_iconst (pc := 51) C 0 dX7_shift_51 (by decide) ?_
    refine g_istore (pc := 52) C ([(6, .int 0), (5, .int r35), (0, .ref (ad 0)), (1, .int p0), (2, .int a2_44), (3, .int a3_44), (4, .int a4_44)]) dX7_shift_52 (Nat.le_of_ble_eq_true rfl) rfl ?_
    refine g_iconst (pc := 54) C 0 dX7_shift_54 (by decide) ?_
    refine g_istore (pc := 55) C ([(7, .int 0), (6, .int 0), (5, .int r35), (0, .ref (ad 0)), (1, .int p0), (2, .int a2_44), (3, .int a3_44), (4, .int a4_44)]) dX7_shift_55 (Nat.le_of_ble_eq_true rfl) rfl ?_
    refine g_iconst (pc := 57) C 0 dX7_shift_57 (by decide) ?_
    refine g_istore (pc := 58) C ([(8, .int 0), (7, .int 0), (6, .int 0), (5, .int r35), (0, .ref (ad 0)), (1, .int p0), (2, .int a2_44), (3, .int a3_44), (4, .int a4_44)]) dX7_shift_58 (Nat.le_of_ble_eq_true rfl) rfl ?_
    exact g_sub [4, 5, 6, 7, 8, 3, 2, 1, 0] rfl (J60 (16 - (0 : Int32).toInt).toNat a2_44 a3_44 a4_44 r35 0 0 0 ha2_44 ha3_44 ha4_44 (zi_c 0 (a := 0) (b := 1) (by decide)) (zi_c 0 (a := 0) (b := 1) (by decide)) (zi_c 0 (a := 0) (b := 16) (by decide)) rfl)
  have J35 : ∀ (a2_35 : Int32) (a3_35 : Int32) (a4_35 : Int32) (_ : zI 0 15 a2_35) (_ : zI 0 3 a3_35) (_ : zI 0 15 a4_35), zG p l e ({ frames := 6, cells := 0, slots := 0, locals := 131 }) s m args below meth c 10 0 0 A Q (zMr D A ad cy tl) 35 [(0, .ref (ad 0)), (1, .int p0), (2, .int a2_35), (3, .int a3_35), (4, .int a4_35)] [] := by
    intro a2_35 a3_35 a4_35 ha2_35 ha3_35 ha4_35
    refine g_iload (pc := 35) C dX7_shift_35 4 rfl ?_
    refine g_if_ne (pc := 37) C 44 dX7_shift_37 (by decide) (fun c36 => ?_) (fun c36 => ?_)
    · have h37 : zI 1 15 a4_35 := zr_neL c36 ha4_35 (zi_c 0 (a := 0) (b := 0) (by decide)) (by decide)
      exact g_sub [0, 1, 2, 3, 4] rfl (J44 a2_35 a3_35 a4_35 ha2_35 ha3_35 (zi_w h37 (a' := 1) (b' := 16) (by decide)))
    · have h38 : zI 0 0 a4_35 := zr_eq c36 ha4_35 (zi_c 0 (a := 0) (b := 0) (by decide)) (by decide)
      refine g_bipush (pc := 40) C 16 dX7_shift_40 (by decide) ?_
      refine g_istore (pc := 42) C ([(4, .int 16), (0, .ref (ad 0)), (1, .int p0), (2, .int a2_35), (3, .int a3_35)]) dX7_shift_42 (Nat.le_of_ble_eq_true rfl) rfl ?_
      exact g_sub [1, 2, 3, 4, 0] rfl (J44 a2_35 a3_35 16 ha2_35 ha3_35 (zi_c 16 (a := 1) (b := 16) (by decide)))
  refine g_sub (lv' := [(0, .ref (ad 0)), (1, .int p0)]) [0, 1] rfl ?_
  refine g_iload_n (pc := 0) C dX7_shift_0 rfl 1 rfl ?_
  refine g_bipush (pc := 1) C 15 dX7_shift_1 (by decide) ?_
  refine g_iand (pc := 3) C dX7_shift_3 (fun z39 ez39 => ?_)
  have hz39 : zI 0 15 z39 := zi_and1 (zi_c 15 (a := 0) (b := 15) (by decide)) ez39
  refine g_istore_n (pc := 4) C ([(2, .int z39), (0, .ref (ad 0)), (1, .int p0)]) dX7_shift_4 rfl (Nat.le_of_ble_eq_true rfl) rfl ?_
  refine g_iload_n (pc := 5) C dX7_shift_5 rfl 2 rfl ?_
  refine g_bipush (pc := 6) C 8 dX7_shift_6 (by decide) ?_
  refine g_ishr (pc := 8) C dX7_shift_8 (fun z40 ez40 => ?_)
  refine g_iconst (pc := 9) C 3 dX7_shift_9 (by decide) ?_
  refine g_iand (pc := 10) C dX7_shift_10 (fun z41 ez41 => ?_)
  have hz41 : zI 0 3 z41 := zi_and1 (zi_c 3 (a := 0) (b := 3) (by decide)) ez41
  refine g_istore_n (pc := 11) C ([(3, .int z41), (2, .int z39), (0, .ref (ad 0)), (1, .int p0)]) dX7_shift_11 rfl (Nat.le_of_ble_eq_true rfl) rfl ?_
  refine g_iload_n (pc := 12) C dX7_shift_12 rfl 3 rfl ?_
  refine g_iconst (pc := 13) C 4 dX7_shift_13 (by decide) ?_
  refine g_ishr (pc := 14) C dX7_shift_14 (fun z42 ez42 => ?_)
  refine g_bipush (pc := 15) C 15 dX7_shift_15 (by decide) ?_
  refine g_iand (pc := 17) C dX7_shift_17 (fun z43 ez43 => ?_)
  have hz43 : zI 0 15 z43 := zi_and1 (zi_c 15 (a := 0) (b := 15) (by decide)) ez43
  refine g_istore (pc := 18) C ([(4, .int z43), (3, .int z41), (2, .int z39), (0, .ref (ad 0)), (1, .int p0)]) dX7_shift_18 (Nat.le_of_ble_eq_true rfl) rfl ?_
  refine g_iload (pc := 20) C dX7_shift_20 0 rfl ?_
  refine g_if_ne (pc := 22) C 35 dX7_shift_22 (by decide) (fun c44 => ?_) (fun c44 => ?_)
  · have h45 : zI 1 15 z43 := zr_neL c44 hz43 (zi_c 0 (a := 0) (b := 0) (by decide)) (by decide)
    exact g_sub [3, 4, 2, 1, 0] rfl (J35 z39 z41 z43 hz39 hz41 (zi_w h45 (a' := 0) (b' := 15) (by decide)))
  · have h46 : zI 0 0 z43 := zr_eq c44 hz43 (zi_c 0 (a := 0) (b := 0) (by decide)) (by decide)
    refine g_aload_n (pc := 25) C dX7_shift_25 rfl 3 rfl ?_
    refine g_iconst (pc := 26) C 0 dX7_shift_26 (by decide) ?_
    refine zcallVi (pc := 27) (st := []) C C.2.2.2.2.2 (n_X7_register l D ad cy tl A 0) (cwV 1 C.2.2.2.2.1 gw_RX7_146 rfl rfl rfl cd_X7_register ⟨Nat.le_of_ble_eq_true rfl, Nat.le_of_ble_eq_true rfl⟩) (hr_0 C) rfl rfl (Nat.le_of_ble_eq_true rfl) ⟨Nat.le_of_ble_eq_true rfl, Nat.le_of_ble_eq_true rfl⟩ dX7_shift_27 (fun r47 => ?_)
    refine g_and (M2 := (zMr D A ad cy tl)) (fun hr47 => ?_)
    refine g_bipush (pc := 30) C 16 dX7_shift_30 (by decide) ?_
    refine g_irem (pc := 32) C dX7_shift_32 (by decide) (fun z48 ez48 => ?_)
    have hz48 : zI 0 15 z48 := zi_rem hr47 (zi_c 16 (a := 16) (b := 16) (by decide)) ez48 (by decide)
    refine g_istore (pc := 33) C ([(4, .int z48), (3, .int z41), (2, .int z39), (0, .ref (ad 0)), (1, .int p0)]) dX7_shift_33 (Nat.le_of_ble_eq_true rfl) rfl ?_
    exact g_sub [3, 4, 2, 1, 0] rfl (J35 z39 z41 z48 hz39 hz41 hz48)

set_option maxHeartbeats 2000000 in
set_option maxRecDepth 100000 in
theorem n_X7_changes (l : Launch) (D : va_G) (ad : Nat → Nat) (cy : Nat → ClassId) (tl : Int32) (A : Nat → Prop) (p0 : Int32) (p1 : Int32) : zMv l yX7_changes wz_X7_changes ({ frames := 5, cells := 0, slots := 0, locals := 109 }) [.ref (ad 0), .int p0, .int p1] D (zTr cy) A (zMr D A ad cy tl) (zMr D A ad cy tl) := by
  refine zstart_v (cc := cX7_changes) (maxL := 5) (own := RX7) (by decide) rfl rfl (Nat.le_of_ble_eq_true rfl) (fun p e s m args below meth c Q C r => ?_)
  have J225 : ∀ (a3_225 : Int32) (a4_225 : Int32) (_ : zI 0 65535 a3_225), zG p l e ({ frames := 5, cells := 0, slots := 0, locals := 109 }) s m args below meth c 5 0 0 A Q (zMr D A ad cy tl) 225 [(0, .ref (ad 0)), (1, .int p0), (2, .int p1), (3, .int a3_225), (4, .int a4_225)] [] := by
    intro a3_225 a4_225 ha3_225
    refine g_aload_n (pc := 225) C dX7_changes_225 rfl 0 rfl ?_
    refine g_iload_n (pc := 226) C dX7_changes_226 rfl 2 rfl ?_
    refine g_iload (pc := 227) C dX7_changes_227 4 rfl ?_
    refine zcallVv (pc := 229) (st := []) C C.2.2.2.2.2 (n_X7_writeWord l D ad cy tl A p1 a4_225) (cwV 2 C.2.2.2.2.1 gw_RX7_125 rfl rfl rfl cd_X7_writeWord ⟨Nat.le_of_ble_eq_true rfl, Nat.le_of_ble_eq_true rfl⟩) (hr_0 C) rfl rfl (Nat.le_of_ble_eq_true rfl) ⟨Nat.le_of_ble_eq_true rfl, Nat.le_of_ble_eq_true rfl⟩ dX7_changes_229 ?_
    exact g_return r dX7_changes_232 (fun _ h => h)
  have J223 : ∀ (a3_223 : Int32) (a4_223 : Int32) (b0_223 : Int32) (_ : zI 0 65535 a3_223) (_ : zI 0 65535 a4_223) (_ : zI 0 32768 b0_223), zG p l e ({ frames := 5, cells := 0, slots := 0, locals := 109 }) s m args below meth c 5 0 0 A Q (zMr D A ad cy tl) 223 [(0, .ref (ad 0)), (1, .int p0), (2, .int p1), (3, .int a3_223), (4, .int a4_223)] [.int b0_223] := by
    intro a3_223 a4_223 b0_223 ha3_223 ha4_223 hb0_223
    refine g_istore (pc := 223) C ([(4, .int b0_223), (0, .ref (ad 0)), (1, .int p0), (2, .int p1), (3, .int a3_223)]) dX7_changes_223 (Nat.le_of_ble_eq_true rfl) rfl ?_
    exact g_sub [1, 2, 3, 4, 0] rfl (J225 a3_223 b0_223 ha3_223)
  have J206 : ∀ (a3_206 : Int32) (a4_206 : Int32) (b0_206 : Int32) (_ : zI 0 65535 a3_206) (_ : zI 0 65535 a4_206) (_ : zI 0 1 b0_206), zG p l e ({ frames := 5, cells := 0, slots := 0, locals := 109 }) s m args below meth c 5 0 0 A Q (zMr D A ad cy tl) 206 [(0, .ref (ad 0)), (1, .int p0), (2, .int p1), (3, .int a3_206), (4, .int a4_206)] [.int b0_206, .int 2048, .ref (ad 0)] := by
    intro a3_206 a4_206 b0_206 ha3_206 ha4_206 hb0_206
    refine zcallVv (pc := 206) (st := []) C C.2.2.2.2.2 (n_X7_flag l D ad cy tl A 2048 b0_206) (cwV 2 C.2.2.2.2.1 gw_RX7_134 rfl rfl rfl cd_X7_flag ⟨Nat.le_of_ble_eq_true rfl, Nat.le_of_ble_eq_true rfl⟩) (hr_0 C) rfl rfl (Nat.le_of_ble_eq_true rfl) ⟨Nat.le_of_ble_eq_true rfl, Nat.le_of_ble_eq_true rfl⟩ dX7_changes_206 ?_
    refine g_iload_n (pc := 209) C dX7_changes_209 rfl 3 rfl ?_
    refine g_ldc (pc := 210) C dX7_changes_210 (C.wd wk_814) ?_
    refine g_icmp_le (pc := 212) C 222 dX7_changes_212 (by decide) (fun c1 => ?_) (fun c1 => ?_)
    · have h2 : zI 0 32768 a3_206 := zr_le1 (zc_le c1) ha3_206 (zi_c 32768 (a := 32768) (b := 32768) (by decide)) (by decide)
      refine g_iload_n (pc := 222) C dX7_changes_222 rfl 3 rfl ?_
      exact g_sub [0, 1, 2, 3, 4] rfl (J223 a3_206 a4_206 a3_206 (zi_w h2 (a' := 0) (b' := 65535) (by decide)) ha4_206 h2)
    · have h3 : zI 32769 65535 a3_206 := zr_lt2 (zc_nle c1) (zi_c 32768 (a := 32768) (b := 32768) (by decide)) ha3_206 (by decide)
      refine g_ldc (pc := 215) C dX7_changes_215 (C.wd wk_692) ?_
      refine g_iload_n (pc := 217) C dX7_changes_217 rfl 3 rfl ?_
      refine g_isub (pc := 218) C dX7_changes_218 (fun z4 ez4 => ?_)
      have hz4 : zI 1 32767 z4 := zi_sub (zi_c 65536 (a := 65536) (b := 65536) (by decide)) h3 ez4 (by decide)
      refine g_goto (pc := 219) C 223 dX7_changes_219 (by decide) ?_
      exact g_sub [0, 1, 2, 3, 4] rfl (J223 a3_206 a4_206 z4 (zi_w h3 (a' := 0) (b' := 65535) (by decide)) ha4_206 (zi_w hz4 (a' := 0) (b' := 32768) (by decide)))
  refine g_sub (lv' := [(0, .ref (ad 0)), (1, .int p0), (2, .int p1)]) [0, 1, 2] rfl ?_
  refine g_aload_n (pc := 0) C dX7_changes_0 rfl 0 rfl ?_
  refine g_iload_n (pc := 1) C dX7_changes_1 rfl 2 rfl ?_
  refine zcallVi (pc := 2) (st := []) C C.2.2.2.2.2 (n_X7_readWord l D ad cy tl A p1) (cwV 1 C.2.2.2.2.1 gw_RX7_122 rfl rfl rfl cd_X7_readWord ⟨Nat.le_of_ble_eq_true rfl, Nat.le_of_ble_eq_true rfl⟩) (hr_0 C) rfl rfl (Nat.le_of_ble_eq_true rfl) ⟨Nat.le_of_ble_eq_true rfl, Nat.le_of_ble_eq_true rfl⟩ dX7_changes_2 (fun r5 => ?_)
  refine g_and (M2 := (zMr D A ad cy tl)) (fun hr5 => ?_)
  refine g_istore_n (pc := 5) C ([(3, .int r5), (0, .ref (ad 0)), (1, .int p0), (2, .int p1)]) dX7_changes_5 rfl (Nat.le_of_ble_eq_true rfl) rfl ?_
  refine g_iload_n (pc := 6) C dX7_changes_6 rfl 0 rfl ?_
  refine g_istore (pc := 7) C ([(4, .int r5), (3, .int r5), (0, .ref (ad 0)), (1, .int p0), (2, .int p1)]) dX7_changes_7 (Nat.le_of_ble_eq_true rfl) rfl ?_
  refine g_iload_n (pc := 9) C dX7_changes_9 rfl 3 rfl ?_
  refine g_table (pc := 10) C [176, 64, 70, 82, 101, 113, 125, 138, 151, 169] dX7_changes_10 (by decide) (by decide) (by decide) (List.forall_mem_cons.mpr ⟨?_, (List.forall_mem_cons.mpr ⟨?_, (List.forall_mem_cons.mpr ⟨?_, (List.forall_mem_cons.mpr ⟨?_, (List.forall_mem_cons.mpr ⟨?_, (List.forall_mem_cons.mpr ⟨?_, (List.forall_mem_cons.mpr ⟨?_, (List.forall_mem_cons.mpr ⟨?_, (List.forall_mem_cons.mpr ⟨?_, (List.forall_mem_cons.mpr ⟨?_, fun _ h => absurd h List.not_mem_nil⟩)⟩)⟩)⟩)⟩)⟩)⟩)⟩)⟩)⟩)
  · refine g_aload_n (pc := 176) C dX7_changes_176 rfl 2 rfl ?_
    refine g_iload_n (pc := 177) C dX7_changes_177 rfl 1 rfl ?_
    refine g_iconst (pc := 178) C 0 dX7_changes_178 (by decide) ?_
    refine g_iconst (pc := 179) C 0 dX7_changes_179 (by decide) ?_
    refine zcallVv (pc := 180) (st := []) C C.2.2.2.2.2 (n_X7_compare l D ad cy tl A r5 0 0) (cwV 3 C.2.2.2.2.1 gw_RX7_151 rfl rfl rfl cd_X7_compare ⟨Nat.le_of_ble_eq_true rfl, Nat.le_of_ble_eq_true rfl⟩) (hr_0 C) rfl rfl (Nat.le_of_ble_eq_true rfl) ⟨Nat.le_of_ble_eq_true rfl, Nat.le_of_ble_eq_true rfl⟩ dX7_changes_180 ?_
    refine g_aload_n (pc := 183) C dX7_changes_183 rfl 2 rfl ?_
    refine g_sipush (pc := 184) C 4096 dX7_changes_184 (by decide) ?_
    refine g_iconst (pc := 187) C 0 dX7_changes_187 (by decide) ?_
    refine zcallVv (pc := 188) (st := []) C C.2.2.2.2.2 (n_X7_flag l D ad cy tl A 4096 0) (cwV 2 C.2.2.2.2.1 gw_RX7_134 rfl rfl rfl cd_X7_flag ⟨Nat.le_of_ble_eq_true rfl, Nat.le_of_ble_eq_true rfl⟩) (hr_0 C) rfl rfl (Nat.le_of_ble_eq_true rfl) ⟨Nat.le_of_ble_eq_true rfl, Nat.le_of_ble_eq_true rfl⟩ dX7_changes_188 ?_
    refine g_aload_n (pc := 191) C dX7_changes_191 rfl 2 rfl ?_
    refine g_sipush (pc := 192) C 2048 dX7_changes_192 (by decide) ?_
    refine g_iload_n (pc := 195) C dX7_changes_195 rfl 1 rfl ?_
    refine g_ldc (pc := 196) C dX7_changes_196 (C.wd wk_814) ?_
    refine g_icmp_ne (pc := 198) C 205 dX7_changes_198 (by decide) (fun c6 => ?_) (fun c6 => ?_)
    · refine g_iconst (pc := 205) C 0 dX7_changes_205 (by decide) ?_
      exact g_sub [2, 3, 4, 1, 0] rfl (J206 r5 r5 0 hr5 hr5 (zi_c 0 (a := 0) (b := 1) (by decide)))
    · have h7 : zI 32768 32768 r5 := zr_eq c6 hr5 (zi_c 32768 (a := 32768) (b := 32768) (by decide)) (by decide)
      refine g_iconst (pc := 201) C 1 dX7_changes_201 (by decide) ?_
      refine g_goto (pc := 202) C 206 dX7_changes_202 (by decide) ?_
      exact g_sub [2, 3, 4, 1, 0] rfl (J206 r5 r5 1 (zi_w h7 (a' := 0) (b' := 65535) (by decide)) (zi_w h7 (a' := 0) (b' := 65535) (by decide)) (zi_c 1 (a := 0) (b := 1) (by decide)))
  · refine g_iconst (pc := 64) C 0 dX7_changes_64 (by decide) ?_
    refine g_istore (pc := 65) C ([(4, .int 0), (3, .int r5), (0, .ref (ad 0)), (1, .int p0), (2, .int p1)]) dX7_changes_65 (Nat.le_of_ble_eq_true rfl) rfl ?_
    refine g_goto (pc := 67) C 225 dX7_changes_67 (by decide) ?_
    exact g_sub [2, 3, 4, 1, 0] rfl (J225 r5 0 hr5)
  · refine g_aload_n (pc := 70) C dX7_changes_70 rfl 2 rfl ?_
    refine g_iconst (pc := 71) C 0 dX7_changes_71 (by decide) ?_
    refine g_iload_n (pc := 72) C dX7_changes_72 rfl 1 rfl ?_
    refine g_iconst (pc := 73) C 0 dX7_changes_73 (by decide) ?_
    refine zcallVi (pc := 74) (st := []) C C.2.2.2.2.2 (n_X7_less l D ad cy tl A 0 r5 0) (cwV 3 C.2.2.2.2.1 gw_RX7_161 rfl rfl rfl cd_X7_less ⟨Nat.le_of_ble_eq_true rfl, Nat.le_of_ble_eq_true rfl⟩) (hr_0 C) rfl rfl (Nat.le_of_ble_eq_true rfl) ⟨Nat.le_of_ble_eq_true rfl, Nat.le_of_ble_eq_true rfl⟩ dX7_changes_74 (fun r8 => ?_)
    refine g_istore (pc := 77) C ([(4, .int r8), (3, .int r5), (0, .ref (ad 0)), (1, .int p0), (2, .int p1)]) dX7_changes_77 (Nat.le_of_ble_eq_true rfl) rfl ?_
    refine g_goto (pc := 79) C 225 dX7_changes_79 (by decide) ?_
    exact g_sub [2, 3, 4, 1, 0] rfl (J225 r5 r8 hr5)
  · refine g_iload_n (pc := 82) C dX7_changes_82 rfl 1 rfl ?_
    refine g_iconst (pc := 83) C (-1) dX7_changes_83 (by decide) ?_
    refine g_ixor (pc := 84) C dX7_changes_84 (fun z9 ez9 => ?_)
    refine g_ldc (pc := 85) C dX7_changes_85 (C.wd wk_816) ?_
    refine g_iand (pc := 87) C dX7_changes_87 (fun z10 ez10 => ?_)
    have hz10 : zI 0 65535 z10 := zi_and1 (zi_c 65535 (a := 0) (b := 65535) (by decide)) ez10
    refine g_istore (pc := 88) C ([(4, .int z10), (3, .int r5), (0, .ref (ad 0)), (1, .int p0), (2, .int p1)]) dX7_changes_88 (Nat.le_of_ble_eq_true rfl) rfl ?_
    refine g_aload_n (pc := 90) C dX7_changes_90 rfl 2 rfl ?_
    refine g_iload (pc := 91) C dX7_changes_91 0 rfl ?_
    refine g_iconst (pc := 93) C 0 dX7_changes_93 (by decide) ?_
    refine g_iconst (pc := 94) C 0 dX7_changes_94 (by decide) ?_
    refine zcallVv (pc := 95) (st := []) C C.2.2.2.2.2 (n_X7_compare l D ad cy tl A z10 0 0) (cwV 3 C.2.2.2.2.1 gw_RX7_151 rfl rfl rfl cd_X7_compare ⟨Nat.le_of_ble_eq_true rfl, Nat.le_of_ble_eq_true rfl⟩) (hr_0 C) rfl rfl (Nat.le_of_ble_eq_true rfl) ⟨Nat.le_of_ble_eq_true rfl, Nat.le_of_ble_eq_true rfl⟩ dX7_changes_95 ?_
    refine g_goto (pc := 98) C 225 dX7_changes_98 (by decide) ?_
    exact g_sub [2, 3, 4, 1, 0] rfl (J225 r5 z10 hr5)
  · refine g_aload_n (pc := 101) C dX7_changes_101 rfl 2 rfl ?_
    refine g_iload_n (pc := 102) C dX7_changes_102 rfl 1 rfl ?_
    refine g_iconst (pc := 103) C 1 dX7_changes_103 (by decide) ?_
    refine g_iconst (pc := 104) C 0 dX7_changes_104 (by decide) ?_
    refine zcallVi (pc := 105) (st := []) C C.2.2.2.2.2 (n_X7_plus l D ad cy tl A r5 1 0) (cwV 3 C.2.2.2.2.1 gw_RX7_165 rfl rfl rfl cd_X7_plus ⟨Nat.le_of_ble_eq_true rfl, Nat.le_of_ble_eq_true rfl⟩) (hr_0 C) rfl rfl (Nat.le_of_ble_eq_true rfl) ⟨Nat.le_of_ble_eq_true rfl, Nat.le_of_ble_eq_true rfl⟩ dX7_changes_105 (fun r11 => ?_)
    refine g_istore (pc := 108) C ([(4, .int r11), (3, .int r5), (0, .ref (ad 0)), (1, .int p0), (2, .int p1)]) dX7_changes_108 (Nat.le_of_ble_eq_true rfl) rfl ?_
    refine g_goto (pc := 110) C 225 dX7_changes_110 (by decide) ?_
    exact g_sub [2, 3, 4, 1, 0] rfl (J225 r5 r11 hr5)
  · refine g_aload_n (pc := 113) C dX7_changes_113 rfl 2 rfl ?_
    refine g_iload_n (pc := 114) C dX7_changes_114 rfl 1 rfl ?_
    refine g_iconst (pc := 115) C 2 dX7_changes_115 (by decide) ?_
    refine g_iconst (pc := 116) C 0 dX7_changes_116 (by decide) ?_
    refine zcallVi (pc := 117) (st := []) C C.2.2.2.2.2 (n_X7_plus l D ad cy tl A r5 2 0) (cwV 3 C.2.2.2.2.1 gw_RX7_165 rfl rfl rfl cd_X7_plus ⟨Nat.le_of_ble_eq_true rfl, Nat.le_of_ble_eq_true rfl⟩) (hr_0 C) rfl rfl (Nat.le_of_ble_eq_true rfl) ⟨Nat.le_of_ble_eq_true rfl, Nat.le_of_ble_eq_true rfl⟩ dX7_changes_117 (fun r12 => ?_)
    refine g_istore (pc := 120) C ([(4, .int r12), (3, .int r5), (0, .ref (ad 0)), (1, .int p0), (2, .int p1)]) dX7_changes_120 (Nat.le_of_ble_eq_true rfl) rfl ?_
    refine g_goto (pc := 122) C 225 dX7_changes_122 (by decide) ?_
    exact g_sub [2, 3, 4, 1, 0] rfl (J225 r5 r12 hr5)
  · refine g_aload_n (pc := 125) C dX7_changes_125 rfl 2 rfl ?_
    refine g_iload_n (pc := 126) C dX7_changes_126 rfl 1 rfl ?_
    refine g_ldc (pc := 127) C dX7_changes_127 (C.wd wk_816) ?_
    refine g_iconst (pc := 129) C 0 dX7_changes_129 (by decide) ?_
    refine zcallVi (pc := 130) (st := []) C C.2.2.2.2.2 (n_X7_plus l D ad cy tl A r5 65535 0) (cwV 3 C.2.2.2.2.1 gw_RX7_165 rfl rfl rfl cd_X7_plus ⟨Nat.le_of_ble_eq_true rfl, Nat.le_of_ble_eq_true rfl⟩) (hr_0 C) rfl rfl (Nat.le_of_ble_eq_true rfl) ⟨Nat.le_of_ble_eq_true rfl, Nat.le_of_ble_eq_true rfl⟩ dX7_changes_130 (fun r13 => ?_)
    refine g_istore (pc := 133) C ([(4, .int r13), (3, .int r5), (0, .ref (ad 0)), (1, .int p0), (2, .int p1)]) dX7_changes_133 (Nat.le_of_ble_eq_true rfl) rfl ?_
    refine g_goto (pc := 135) C 225 dX7_changes_135 (by decide) ?_
    exact g_sub [2, 3, 4, 1, 0] rfl (J225 r5 r13 hr5)
  · refine g_aload_n (pc := 138) C dX7_changes_138 rfl 2 rfl ?_
    refine g_iload_n (pc := 139) C dX7_changes_139 rfl 1 rfl ?_
    refine g_ldc (pc := 140) C dX7_changes_140 (C.wd wk_792) ?_
    refine g_iconst (pc := 142) C 0 dX7_changes_142 (by decide) ?_
    refine zcallVi (pc := 143) (st := []) C C.2.2.2.2.2 (n_X7_plus l D ad cy tl A r5 65534 0) (cwV 3 C.2.2.2.2.1 gw_RX7_165 rfl rfl rfl cd_X7_plus ⟨Nat.le_of_ble_eq_true rfl, Nat.le_of_ble_eq_true rfl⟩) (hr_0 C) rfl rfl (Nat.le_of_ble_eq_true rfl) ⟨Nat.le_of_ble_eq_true rfl, Nat.le_of_ble_eq_true rfl⟩ dX7_changes_143 (fun r14 => ?_)
    refine g_istore (pc := 146) C ([(4, .int r14), (3, .int r5), (0, .ref (ad 0)), (1, .int p0), (2, .int p1)]) dX7_changes_146 (Nat.le_of_ble_eq_true rfl) rfl ?_
    refine g_goto (pc := 148) C 225 dX7_changes_148 (by decide) ?_
    exact g_sub [2, 3, 4, 1, 0] rfl (J225 r5 r14 hr5)
  · refine g_iload_n (pc := 151) C dX7_changes_151 rfl 1 rfl ?_
    refine g_bipush (pc := 152) C 8 dX7_changes_152 (by decide) ?_
    refine g_ishr (pc := 154) C dX7_changes_154 (fun z15 ez15 => ?_)
    have hz15 : zI 0 255 z15 := zi_shr 8 hr5 (by decide) ez15 (by decide)
    refine g_iload_n (pc := 155) C dX7_changes_155 rfl 1 rfl ?_
    refine g_sipush (pc := 156) C 255 dX7_changes_156 (by decide) ?_
    refine g_iand (pc := 159) C dX7_changes_159 (fun z16 ez16 => ?_)
    have hz16 : zI 0 255 z16 := zi_and1 (zi_c 255 (a := 0) (b := 255) (by decide)) ez16
    refine g_bipush (pc := 160) C 8 dX7_changes_160 (by decide) ?_
    refine g_ishl (pc := 162) C dX7_changes_162 (fun z17 ez17 => ?_)
    refine g_ior (pc := 163) C dX7_changes_163 (fun z18 ez18 => ?_)
    refine g_istore (pc := 164) C ([(4, .int z18), (3, .int r5), (0, .ref (ad 0)), (1, .int p0), (2, .int p1)]) dX7_changes_164 (Nat.le_of_ble_eq_true rfl) rfl ?_
    refine g_goto (pc := 166) C 225 dX7_changes_166 (by decide) ?_
    exact g_sub [2, 3, 4, 1, 0] rfl (J225 r5 z18 hr5)
  · refine g_ldc (pc := 169) C dX7_changes_169 (C.wd wk_816) ?_
    refine g_istore (pc := 171) C ([(4, .int 65535), (3, .int r5), (0, .ref (ad 0)), (1, .int p0), (2, .int p1)]) dX7_changes_171 (Nat.le_of_ble_eq_true rfl) rfl ?_
    refine g_goto (pc := 173) C 225 dX7_changes_173 (by decide) ?_
    exact g_sub [2, 3, 4, 1, 0] rfl (J225 r5 65535 hr5)

set_option maxHeartbeats 2000000 in
set_option maxRecDepth 100000 in
theorem n_X7_comesBack (l : Launch) (D : va_G) (ad : Nat → Nat) (cy : Nat → ClassId) (tl : Int32) (A : Nat → Prop) : zMv l yX7_comesBack wz_X7_comesBack ({ frames := 5, cells := 0, slots := 0, locals := 108 }) [.ref (ad 0)] D (zTr cy) A (zMr D A ad cy tl) (zMr D A ad cy tl) := by
  refine zstart_v (cc := cX7_comesBack) (maxL := 4) (own := RX7) (by decide) rfl rfl (Nat.le_of_ble_eq_true rfl) (fun p e s m args below meth c Q C r => ?_)
  refine g_sub (lv' := [(0, .ref (ad 0))]) [0] rfl ?_
  refine g_aload_n (pc := 0) C dX7_comesBack_0 rfl 0 rfl ?_
  refine g_bipush (pc := 1) C 15 dX7_comesBack_1 (by decide) ?_
  refine zcallVi (pc := 3) (st := []) C C.2.2.2.2.2 (n_X7_register l D ad cy tl A 15) (cwV 1 C.2.2.2.2.1 gw_RX7_146 rfl rfl rfl cd_X7_register ⟨Nat.le_of_ble_eq_true rfl, Nat.le_of_ble_eq_true rfl⟩) (hr_0 C) rfl rfl (Nat.le_of_ble_eq_true rfl) ⟨Nat.le_of_ble_eq_true rfl, Nat.le_of_ble_eq_true rfl⟩ dX7_comesBack_3 (fun r1 => ?_)
  refine g_and (M2 := (zMr D A ad cy tl)) (fun hr1 => ?_)
  refine g_istore_n (pc := 6) C ([(1, .int r1), (0, .ref (ad 0))]) dX7_comesBack_6 rfl (Nat.le_of_ble_eq_true rfl) rfl ?_
  refine g_aload_n (pc := 7) C dX7_comesBack_7 rfl 1 rfl ?_
  refine g_bipush (pc := 8) C 14 dX7_comesBack_8 (by decide) ?_
  refine zcallVi (pc := 10) (st := []) C C.2.2.2.2.2 (n_X7_register l D ad cy tl A 14) (cwV 1 C.2.2.2.2.1 gw_RX7_146 rfl rfl rfl cd_X7_register ⟨Nat.le_of_ble_eq_true rfl, Nat.le_of_ble_eq_true rfl⟩) (hr_0 C) rfl rfl (Nat.le_of_ble_eq_true rfl) ⟨Nat.le_of_ble_eq_true rfl, Nat.le_of_ble_eq_true rfl⟩ dX7_comesBack_10 (fun r2 => ?_)
  refine g_and (M2 := (zMr D A ad cy tl)) (fun hr2 => ?_)
  refine g_istore_n (pc := 13) C ([(2, .int r2), (1, .int r1), (0, .ref (ad 0))]) dX7_comesBack_13 rfl (Nat.le_of_ble_eq_true rfl) rfl ?_
  refine g_aload_n (pc := 14) C dX7_comesBack_14 rfl 2 rfl ?_
  refine g_bipush (pc := 15) C 13 dX7_comesBack_15 (by decide) ?_
  refine zcallVi (pc := 17) (st := []) C C.2.2.2.2.2 (n_X7_register l D ad cy tl A 13) (cwV 1 C.2.2.2.2.1 gw_RX7_146 rfl rfl rfl cd_X7_register ⟨Nat.le_of_ble_eq_true rfl, Nat.le_of_ble_eq_true rfl⟩) (hr_0 C) rfl rfl (Nat.le_of_ble_eq_true rfl) ⟨Nat.le_of_ble_eq_true rfl, Nat.le_of_ble_eq_true rfl⟩ dX7_comesBack_17 (fun r3 => ?_)
  refine g_and (M2 := (zMr D A ad cy tl)) (fun hr3 => ?_)
  refine g_istore_n (pc := 20) C ([(3, .int r3), (2, .int r2), (1, .int r1), (0, .ref (ad 0))]) dX7_comesBack_20 rfl (Nat.le_of_ble_eq_true rfl) rfl ?_
  refine g_aload_n (pc := 21) C dX7_comesBack_21 rfl 3 rfl ?_
  refine g_iload_n (pc := 22) C dX7_comesBack_22 rfl 2 rfl ?_
  refine g_ldc (pc := 23) C dX7_comesBack_23 (C.wd wk_918) ?_
  refine g_iand (pc := 25) C dX7_comesBack_25 (fun z4 ez4 => ?_)
  have hz4 : zI 0 65039 z4 := zi_and1 (zi_c 65039 (a := 0) (b := 65039) (by decide)) ez4
  refine pr_0_18 (pc := 26) C wk_711 dX7_comesBack_26 ?_
  refine g_aload_n (pc := 29) C dX7_comesBack_29 rfl 3 rfl ?_
  refine g_iload_n (pc := 30) C dX7_comesBack_30 rfl 1 rfl ?_
  refine g_ldc (pc := 31) C dX7_comesBack_31 (C.wd wk_792) ?_
  refine g_iand (pc := 33) C dX7_comesBack_33 (fun z5 ez5 => ?_)
  have vz5 : zEv z5 := zev_and ez5
  have hz5 : zI 0 65534 z5 := zi_and1 (zi_c 65534 (a := 0) (b := 65534) (by decide)) ez5
  refine pr_0_16 (pc := 34) C wk_709 dX7_comesBack_34 ?_
  refine g_aload_n (pc := 37) C dX7_comesBack_37 rfl 3 rfl ?_
  refine g_iload_n (pc := 38) C dX7_comesBack_38 rfl 0 rfl ?_
  refine g_ldc (pc := 39) C dX7_comesBack_39 (C.wd wk_792) ?_
  refine g_iand (pc := 41) C dX7_comesBack_41 (fun z6 ez6 => ?_)
  have vz6 : zEv z6 := zev_and ez6
  have hz6 : zI 0 65534 z6 := zi_and1 (zi_c 65534 (a := 0) (b := 65534) (by decide)) ez6
  refine pr_0_17 (pc := 42) C wk_710 vz6 dX7_comesBack_42 ?_
  exact g_return r dX7_comesBack_45 (fun _ h => h)

set_option maxHeartbeats 2000000 in
set_option maxRecDepth 100000 in
theorem n_X7_immediate (l : Launch) (D : va_G) (ad : Nat → Nat) (cy : Nat → ClassId) (tl : Int32) (A : Nat → Prop) (p0 : Int32) (p1 : Int32) (p2 : Int32) : zMv l yX7_immediate wz_X7_immediate ({ frames := 6, cells := 0, slots := 0, locals := 131 }) [.ref (ad 0), .int p0, .int p1, .int p2] D (zTr cy) A (zMr D A ad cy tl) (zMr D A ad cy tl) := by
  refine zstart_v (cc := cX7_immediate) (maxL := 6) (own := RX7) (by decide) rfl rfl (Nat.le_of_ble_eq_true rfl) (fun p e s m args below meth c Q C r => ?_)
  have J86 : ∀ (a4_86 : Int32) (a5_86 : Int32) (_ : zI 0 65535 a4_86), zG p l e ({ frames := 6, cells := 0, slots := 0, locals := 131 }) s m args below meth c 6 0 0 A Q (zMr D A ad cy tl) 86 [(0, .ref (ad 0)), (1, .int p0), (2, .int p1), (3, .int p2), (4, .int a4_86), (5, .int a5_86)] [] := by
    intro a4_86 a5_86 ha4_86
    refine g_aload_n (pc := 86) C dX7_immediate_86 rfl 0 rfl ?_
    refine g_iload_n (pc := 87) C dX7_immediate_87 rfl 2 rfl ?_
    refine g_iload (pc := 88) C dX7_immediate_88 5 rfl ?_
    refine zcallVv (pc := 90) (st := []) C C.2.2.2.2.2 (n_X7_register_ l D ad cy tl A p1 a5_86) (cwV 2 C.2.2.2.2.1 gw_RX7_149 rfl rfl rfl cd_X7_register_ ⟨Nat.le_of_ble_eq_true rfl, Nat.le_of_ble_eq_true rfl⟩) (hr_0 C) rfl rfl (Nat.le_of_ble_eq_true rfl) ⟨Nat.le_of_ble_eq_true rfl, Nat.le_of_ble_eq_true rfl⟩ dX7_immediate_90 ?_
    exact g_return r dX7_immediate_93 (fun _ h => h)
  have J71 : ∀ (a4_71 : Int32) (b0_71 : Int32) (_ : zI 0 65535 a4_71), zG p l e ({ frames := 6, cells := 0, slots := 0, locals := 131 }) s m args below meth c 6 0 0 A Q (zMr D A ad cy tl) 71 [(0, .ref (ad 0)), (1, .int p0), (2, .int p1), (3, .int p2), (4, .int a4_71)] [.int b0_71] := by
    intro a4_71 b0_71 ha4_71
    refine g_istore (pc := 71) C ([(5, .int b0_71), (0, .ref (ad 0)), (1, .int p0), (2, .int p1), (3, .int p2), (4, .int a4_71)]) dX7_immediate_71 (Nat.le_of_ble_eq_true rfl) rfl ?_
    refine g_iload_n (pc := 73) C dX7_immediate_73 rfl 2 rfl ?_
    refine g_iconst (pc := 74) C 1 dX7_immediate_74 (by decide) ?_
    refine g_icmp_le (pc := 75) C 86 dX7_immediate_75 (by decide) (fun c1 => ?_) (fun c1 => ?_)
    · have h2 : zI (-2147483648) 1 p0 := zr_le1 (zc_le c1) (zi_full p0) (zi_c 1 (a := 1) (b := 1) (by decide)) (by decide)
      exact g_sub [1, 2, 3, 4, 5, 0] rfl (J86 a4_71 b0_71 ha4_71)
    · have h3 : zI 2 2147483647 p0 := zr_lt2 (zc_nle c1) (zi_c 1 (a := 1) (b := 1) (by decide)) (zi_full p0) (by decide)
      refine g_aload_n (pc := 78) C dX7_immediate_78 rfl 1 rfl ?_
      refine g_iload (pc := 79) C dX7_immediate_79 0 rfl ?_
      refine g_iconst (pc := 81) C 0 dX7_immediate_81 (by decide) ?_
      refine g_iconst (pc := 82) C 0 dX7_immediate_82 (by decide) ?_
      refine zcallVv (pc := 83) (st := []) C C.2.2.2.2.2 (n_X7_compare l D ad cy tl A b0_71 0 0) (cwV 3 C.2.2.2.2.1 gw_RX7_151 rfl rfl rfl cd_X7_compare ⟨Nat.le_of_ble_eq_true rfl, Nat.le_of_ble_eq_true rfl⟩) (hr_0 C) rfl rfl (Nat.le_of_ble_eq_true rfl) ⟨Nat.le_of_ble_eq_true rfl, Nat.le_of_ble_eq_true rfl⟩ dX7_immediate_83 ?_
      exact g_sub [1, 2, 3, 4, 5, 0] rfl (J86 a4_71 b0_71 ha4_71)
  refine g_sub (lv' := [(0, .ref (ad 0)), (1, .int p0), (2, .int p1), (3, .int p2)]) [0, 1, 2, 3] rfl ?_
  refine g_iload_n (pc := 0) C dX7_immediate_0 rfl 1 rfl ?_
  refine g_if_ne (pc := 1) C 18 dX7_immediate_1 (by decide) (fun c4 => ?_) (fun c4 => ?_)
  · refine g_aload_n (pc := 18) C dX7_immediate_18 rfl 0 rfl ?_
    refine g_iload_n (pc := 19) C dX7_immediate_19 rfl 2 rfl ?_
    refine zcallVi (pc := 20) (st := []) C C.2.2.2.2.2 (n_X7_register l D ad cy tl A p1) (cwV 1 C.2.2.2.2.1 gw_RX7_146 rfl rfl rfl cd_X7_register ⟨Nat.le_of_ble_eq_true rfl, Nat.le_of_ble_eq_true rfl⟩) (hr_0 C) rfl rfl (Nat.le_of_ble_eq_true rfl) ⟨Nat.le_of_ble_eq_true rfl, Nat.le_of_ble_eq_true rfl⟩ dX7_immediate_20 (fun r5 => ?_)
    refine g_and (M2 := (zMr D A ad cy tl)) (fun hr5 => ?_)
    refine g_istore (pc := 23) C ([(4, .int r5), (0, .ref (ad 0)), (1, .int p0), (2, .int p1), (3, .int p2)]) dX7_immediate_23 (Nat.le_of_ble_eq_true rfl) rfl ?_
    refine g_iload_n (pc := 25) C dX7_immediate_25 rfl 2 rfl ?_
    refine g_iconst (pc := 26) C 4 dX7_immediate_26 (by decide) ?_
    refine g_icmp_ne (pc := 27) C 39 dX7_immediate_27 (by decide) (fun c6 => ?_) (fun c6 => ?_)
    · refine g_iload_n (pc := 39) C dX7_immediate_39 rfl 2 rfl ?_
      refine g_iconst (pc := 40) C 1 dX7_immediate_40 (by decide) ?_
      refine g_icmp_ne (pc := 41) C 55 dX7_immediate_41 (by decide) (fun c7 => ?_) (fun c7 => ?_)
      · refine g_iload_n (pc := 55) C dX7_immediate_55 rfl 2 rfl ?_
        refine g_iconst (pc := 56) C 2 dX7_immediate_56 (by decide) ?_
        refine g_icmp_ne (pc := 57) C 67 dX7_immediate_57 (by decide) (fun c8 => ?_) (fun c8 => ?_)
        · refine g_iload (pc := 67) C dX7_immediate_67 0 rfl ?_
          refine g_iload_n (pc := 69) C dX7_immediate_69 rfl 4 rfl ?_
          refine g_ior (pc := 70) C dX7_immediate_70 (fun z9 ez9 => ?_)
          exact g_sub [1, 2, 3, 4, 0] rfl (J71 r5 z9 hr5)
        · have h10 : zI 2 2 p0 := zr_eq c8 (zi_full p0) (zi_c 2 (a := 2) (b := 2) (by decide)) (by decide)
          refine g_iload (pc := 60) C dX7_immediate_60 0 rfl ?_
          refine g_iload_n (pc := 62) C dX7_immediate_62 rfl 4 rfl ?_
          refine g_iand (pc := 63) C dX7_immediate_63 (fun z11 ez11 => ?_)
          have hz11 : zI 0 65535 z11 := zi_and2 hr5 ez11
          refine g_goto (pc := 64) C 71 dX7_immediate_64 (by decide) ?_
          exact g_sub [1, 2, 3, 4, 0] rfl (J71 r5 z11 hr5)
      · have h12 : zI 1 1 p0 := zr_eq c7 (zi_full p0) (zi_c 1 (a := 1) (b := 1) (by decide)) (by decide)
        refine g_aload_n (pc := 44) C dX7_immediate_44 rfl 1 rfl ?_
        refine g_iload (pc := 45) C dX7_immediate_45 0 rfl ?_
        refine g_iload_n (pc := 47) C dX7_immediate_47 rfl 4 rfl ?_
        refine g_iconst (pc := 48) C 0 dX7_immediate_48 (by decide) ?_
        refine zcallVi (pc := 49) (st := []) C C.2.2.2.2.2 (n_X7_plus l D ad cy tl A r5 p2 0) (cwV 3 C.2.2.2.2.1 gw_RX7_165 rfl rfl rfl cd_X7_plus ⟨Nat.le_of_ble_eq_true rfl, Nat.le_of_ble_eq_true rfl⟩) (hr_0 C) rfl rfl (Nat.le_of_ble_eq_true rfl) ⟨Nat.le_of_ble_eq_true rfl, Nat.le_of_ble_eq_true rfl⟩ dX7_immediate_49 (fun r13 => ?_)
        refine g_goto (pc := 52) C 71 dX7_immediate_52 (by decide) ?_
        exact g_sub [1, 2, 3, 4, 0] rfl (J71 r5 r13 hr5)
    · have h14 : zI 4 4 p0 := zr_eq c6 (zi_full p0) (zi_c 4 (a := 4) (b := 4) (by decide)) (by decide)
      refine g_aload_n (pc := 30) C dX7_immediate_30 rfl 1 rfl ?_
      refine g_iload (pc := 31) C dX7_immediate_31 0 rfl ?_
      refine g_iload_n (pc := 33) C dX7_immediate_33 rfl 4 rfl ?_
      refine g_iconst (pc := 34) C 0 dX7_immediate_34 (by decide) ?_
      refine zcallVv (pc := 35) (st := []) C C.2.2.2.2.2 (n_X7_compare l D ad cy tl A r5 p2 0) (cwV 3 C.2.2.2.2.1 gw_RX7_151 rfl rfl rfl cd_X7_compare ⟨Nat.le_of_ble_eq_true rfl, Nat.le_of_ble_eq_true rfl⟩) (hr_0 C) rfl rfl (Nat.le_of_ble_eq_true rfl) ⟨Nat.le_of_ble_eq_true rfl, Nat.le_of_ble_eq_true rfl⟩ dX7_immediate_35 ?_
      exact g_return r dX7_immediate_38 (fun _ h => h)
  · have h15 : zI 0 0 p0 := zr_eq c4 (zi_full p0) (zi_c 0 (a := 0) (b := 0) (by decide)) (by decide)
    refine g_aload_n (pc := 4) C dX7_immediate_4 rfl 0 rfl ?_
    refine g_iload_n (pc := 5) C dX7_immediate_5 rfl 2 rfl ?_
    refine g_iload_n (pc := 6) C dX7_immediate_6 rfl 3 rfl ?_
    refine zcallVv (pc := 7) (st := []) C C.2.2.2.2.2 (n_X7_register_ l D ad cy tl A p1 p2) (cwV 2 C.2.2.2.2.1 gw_RX7_149 rfl rfl rfl cd_X7_register_ ⟨Nat.le_of_ble_eq_true rfl, Nat.le_of_ble_eq_true rfl⟩) (hr_0 C) rfl rfl (Nat.le_of_ble_eq_true rfl) ⟨Nat.le_of_ble_eq_true rfl, Nat.le_of_ble_eq_true rfl⟩ dX7_immediate_7 ?_
    refine g_aload_n (pc := 10) C dX7_immediate_10 rfl 0 rfl ?_
    refine g_iload_n (pc := 11) C dX7_immediate_11 rfl 3 rfl ?_
    refine g_iconst (pc := 12) C 0 dX7_immediate_12 (by decide) ?_
    refine g_iconst (pc := 13) C 0 dX7_immediate_13 (by decide) ?_
    refine zcallVv (pc := 14) (st := []) C C.2.2.2.2.2 (n_X7_compare l D ad cy tl A p2 0 0) (cwV 3 C.2.2.2.2.1 gw_RX7_151 rfl rfl rfl cd_X7_compare ⟨Nat.le_of_ble_eq_true rfl, Nat.le_of_ble_eq_true rfl⟩) (hr_0 C) rfl rfl (Nat.le_of_ble_eq_true rfl) ⟨Nat.le_of_ble_eq_true rfl, Nat.le_of_ble_eq_true rfl⟩ dX7_immediate_14 ?_
    exact g_return r dX7_immediate_17 (fun _ h => h)

set_option maxHeartbeats 2000000 in
set_option maxRecDepth 100000 in
theorem n_X7_told (l : Launch) (D : va_G) (ad : Nat → Nat) (cy : Nat → ClassId) (tl : Int32) (A : Nat → Prop) (p0 : Int32) : zMi l yX7_told wz_X7_told ({ frames := 7, cells := 0, slots := 0, locals := 156 }) [.ref (ad 0), .int p0] D (zTr cy) A (zMr D A ad cy tl) (fun r H => zI 0 1 r ∧ (zMr D A ad cy tl) H) := by
  refine zstart_i (cc := cX7_told) (maxL := 4) (ty := .boolean) (own := RX7) (by decide) rfl rfl (Nat.le_of_ble_eq_true rfl) (fun p e s m args below meth c Q C r => ?_)
  refine g_sub (lv' := [(0, .ref (ad 0)), (1, .int p0)]) [0, 1] rfl ?_
  refine g_iload_n (pc := 0) C dX7_told_0 rfl 1 rfl ?_
  refine g_bipush (pc := 1) C 15 dX7_told_1 (by decide) ?_
  refine g_iand (pc := 3) C dX7_told_3 (fun z1 ez1 => ?_)
  have hz1 : zI 0 15 z1 := zi_and1 (zi_c 15 (a := 0) (b := 15) (by decide)) ez1
  refine g_istore_n (pc := 4) C ([(2, .int z1), (0, .ref (ad 0)), (1, .int p0)]) dX7_told_4 rfl (Nat.le_of_ble_eq_true rfl) rfl ?_
  refine g_iload_n (pc := 5) C dX7_told_5 rfl 2 rfl ?_
  refine g_iconst (pc := 6) C 5 dX7_told_6 (by decide) ?_
  refine g_ishr (pc := 7) C dX7_told_7 (fun z2 ez2 => ?_)
  refine g_bipush (pc := 8) C 15 dX7_told_8 (by decide) ?_
  refine g_iand (pc := 10) C dX7_told_10 (fun z3 ez3 => ?_)
  have hz3 : zI 0 15 z3 := zi_and1 (zi_c 15 (a := 0) (b := 15) (by decide)) ez3
  refine g_istore_n (pc := 11) C ([(3, .int z3), (2, .int z1), (0, .ref (ad 0)), (1, .int p0)]) dX7_told_11 rfl (Nat.le_of_ble_eq_true rfl) rfl ?_
  refine g_iload_n (pc := 12) C dX7_told_12 rfl 0 rfl ?_
  refine g_iconst (pc := 13) C 5 dX7_told_13 (by decide) ?_
  refine g_icmp_ge (pc := 14) C 29 dX7_told_14 (by decide) (fun c4 => ?_) (fun c4 => ?_)
  · have h5 : zI 5 15 z3 := zr_le2 (zc_le c4) (zi_c 5 (a := 5) (b := 5) (by decide)) hz3 (by decide)
    refine g_iload_n (pc := 29) C dX7_told_29 rfl 0 rfl ?_
    refine g_tableI (pc := 30) C 5 10 (zi_w h5 (a' := 5) (b' := 5 + (10 : Nat)) (by decide)) [76, 87, 98, 111, 132, 134, 141, 154, 160] dX7_told_30 (by decide) (by decide) (by decide) (List.forall_mem_cons.mpr ⟨?_, (List.forall_mem_cons.mpr ⟨?_, (List.forall_mem_cons.mpr ⟨?_, (List.forall_mem_cons.mpr ⟨?_, (List.forall_mem_cons.mpr ⟨?_, (List.forall_mem_cons.mpr ⟨?_, (List.forall_mem_cons.mpr ⟨?_, (List.forall_mem_cons.mpr ⟨?_, (List.forall_mem_cons.mpr ⟨?_, fun _ h => absurd h List.not_mem_nil⟩)⟩)⟩)⟩)⟩)⟩)⟩)⟩)⟩)
    · refine g_aload_n (pc := 76) C dX7_told_76 rfl 2 rfl ?_
      refine g_iload_n (pc := 77) C dX7_told_77 rfl 1 rfl ?_
      refine g_aload_n (pc := 78) C dX7_told_78 rfl 2 rfl ?_
      refine gr_0_17 (pc := 79) C wk_710 dX7_told_79 (fun z6 vz6 => ?_)
      refine zcallVv (pc := 82) (st := []) C C.2.2.2.2.2 (n_X7_register_ l D ad cy tl A z1 z6) (cwV 2 C.2.2.2.2.1 gw_RX7_149 rfl rfl rfl cd_X7_register_ ⟨Nat.le_of_ble_eq_true rfl, Nat.le_of_ble_eq_true rfl⟩) (hr_0 C) rfl rfl (Nat.le_of_ble_eq_true rfl) ⟨Nat.le_of_ble_eq_true rfl, Nat.le_of_ble_eq_true rfl⟩ dX7_told_82 ?_
      refine g_iconst (pc := 85) C 1 dX7_told_85 (by decide) ?_
      exact g_ireturn r dX7_told_86 rfl (fun _ h => ⟨(zi_c 1 (a := 0) (b := 1) (by decide)), h⟩)
    · refine g_aload_n (pc := 87) C dX7_told_87 rfl 2 rfl ?_
      refine g_iload_n (pc := 88) C dX7_told_88 rfl 1 rfl ?_
      refine g_aload_n (pc := 89) C dX7_told_89 rfl 2 rfl ?_
      refine gr_0_18 (pc := 90) C wk_711 dX7_told_90 (fun z7 => ?_)
      refine zcallVv (pc := 93) (st := []) C C.2.2.2.2.2 (n_X7_register_ l D ad cy tl A z1 z7) (cwV 2 C.2.2.2.2.1 gw_RX7_149 rfl rfl rfl cd_X7_register_ ⟨Nat.le_of_ble_eq_true rfl, Nat.le_of_ble_eq_true rfl⟩) (hr_0 C) rfl rfl (Nat.le_of_ble_eq_true rfl) ⟨Nat.le_of_ble_eq_true rfl, Nat.le_of_ble_eq_true rfl⟩ dX7_told_93 ?_
      refine g_iconst (pc := 96) C 1 dX7_told_96 (by decide) ?_
      exact g_ireturn r dX7_told_97 rfl (fun _ h => ⟨(zi_c 1 (a := 0) (b := 1) (by decide)), h⟩)
    · refine g_aload_n (pc := 98) C dX7_told_98 rfl 2 rfl ?_
      refine g_aload_n (pc := 99) C dX7_told_99 rfl 2 rfl ?_
      refine zcallVi (pc := 100) (st := [.ref (ad 0)]) C C.2.2.2.2.2 (n_X7_nextWord l D ad cy tl A ) (cwV 0 C.2.2.2.2.1 gw_RX7_142 rfl rfl rfl cd_X7_nextWord ⟨Nat.le_of_ble_eq_true rfl, Nat.le_of_ble_eq_true rfl⟩) (hr_0 C) rfl rfl (Nat.le_of_ble_eq_true rfl) ⟨Nat.le_of_ble_eq_true rfl, Nat.le_of_ble_eq_true rfl⟩ dX7_told_100 (fun r8 => ?_)
      refine g_and (M2 := (zMr D A ad cy tl)) (fun hr8 => ?_)
      refine g_ldc (pc := 103) C dX7_told_103 (C.wd wk_792) ?_
      refine g_iand (pc := 105) C dX7_told_105 (fun z9 ez9 => ?_)
      have vz9 : zEv z9 := zev_and ez9
      have hz9 : zI 0 65534 z9 := zi_and1 (zi_c 65534 (a := 0) (b := 65534) (by decide)) ez9
      refine pr_0_17 (pc := 106) C wk_710 vz9 dX7_told_106 ?_
      refine g_iconst (pc := 109) C 1 dX7_told_109 (by decide) ?_
      exact g_ireturn r dX7_told_110 rfl (fun _ h => ⟨(zi_c 1 (a := 0) (b := 1) (by decide)), h⟩)
    · refine g_aload_n (pc := 111) C dX7_told_111 rfl 2 rfl ?_
      refine g_aload_n (pc := 112) C dX7_told_112 rfl 2 rfl ?_
      refine gr_0_18 (pc := 113) C wk_711 dX7_told_113 (fun z10 => ?_)
      refine g_bipush (pc := 116) C (-16) dX7_told_116 (by decide) ?_
      refine g_iand (pc := 118) C dX7_told_118 (fun z11 ez11 => ?_)
      refine g_aload_n (pc := 119) C dX7_told_119 rfl 2 rfl ?_
      refine zcallVi (pc := 120) (st := [.int z11, .ref (ad 0)]) C C.2.2.2.2.2 (n_X7_nextWord l D ad cy tl A ) (cwV 0 C.2.2.2.2.1 gw_RX7_142 rfl rfl rfl cd_X7_nextWord ⟨Nat.le_of_ble_eq_true rfl, Nat.le_of_ble_eq_true rfl⟩) (hr_0 C) rfl rfl (Nat.le_of_ble_eq_true rfl) ⟨Nat.le_of_ble_eq_true rfl, Nat.le_of_ble_eq_true rfl⟩ dX7_told_120 (fun r12 => ?_)
      refine g_and (M2 := (zMr D A ad cy tl)) (fun hr12 => ?_)
      refine g_bipush (pc := 123) C 15 dX7_told_123 (by decide) ?_
      refine g_iand (pc := 125) C dX7_told_125 (fun z13 ez13 => ?_)
      have hz13 : zI 0 15 z13 := zi_and1 (zi_c 15 (a := 0) (b := 15) (by decide)) ez13
      refine g_ior (pc := 126) C dX7_told_126 (fun z14 ez14 => ?_)
      refine pr_0_18 (pc := 127) C wk_711 dX7_told_127 ?_
      refine g_iconst (pc := 130) C 1 dX7_told_130 (by decide) ?_
      exact g_ireturn r dX7_told_131 rfl (fun _ h => ⟨(zi_c 1 (a := 0) (b := 1) (by decide)), h⟩)
    · refine g_iconst (pc := 132) C 0 dX7_told_132 (by decide) ?_
      exact g_ireturn r dX7_told_133 rfl (fun _ h => ⟨(zi_c 0 (a := 0) (b := 1) (by decide)), h⟩)
    · refine g_aload_n (pc := 134) C dX7_told_134 rfl 2 rfl ?_
      refine g_iconst (pc := 135) C 1 dX7_told_135 (by decide) ?_
      refine pr_0_19 (pc := 136) C wk_712 dX7_told_136 ?_
      refine g_iconst (pc := 139) C 1 dX7_told_139 (by decide) ?_
      exact g_ireturn r dX7_told_140 rfl (fun _ h => ⟨(zi_c 1 (a := 0) (b := 1) (by decide)), h⟩)
    · refine g_aload_n (pc := 141) C dX7_told_141 rfl 2 rfl ?_
      refine g_aload_n (pc := 142) C dX7_told_142 rfl 2 rfl ?_
      refine gr_0_18 (pc := 143) C wk_711 dX7_told_143 (fun z15 => ?_)
      refine g_bipush (pc := 146) C (-16) dX7_told_146 (by decide) ?_
      refine g_iand (pc := 148) C dX7_told_148 (fun z16 ez16 => ?_)
      refine pr_0_18 (pc := 149) C wk_711 dX7_told_149 ?_
      refine g_iconst (pc := 152) C 1 dX7_told_152 (by decide) ?_
      exact g_ireturn r dX7_told_153 rfl (fun _ h => ⟨(zi_c 1 (a := 0) (b := 1) (by decide)), h⟩)
    · refine g_aload_n (pc := 154) C dX7_told_154 rfl 2 rfl ?_
      refine zcallVv (pc := 155) (st := []) C C.2.2.2.2.2 (n_X7_comesBack l D ad cy tl A ) (cwV 0 C.2.2.2.2.1 gw_RX7_205 rfl rfl rfl cd_X7_comesBack ⟨Nat.le_of_ble_eq_true rfl, Nat.le_of_ble_eq_true rfl⟩) (hr_0 C) rfl rfl (Nat.le_of_ble_eq_true rfl) ⟨Nat.le_of_ble_eq_true rfl, Nat.le_of_ble_eq_true rfl⟩ dX7_told_155 ?_
      refine g_iconst (pc := 158) C 1 dX7_told_158 (by decide) ?_
      exact g_ireturn r dX7_told_159 rfl (fun _ h => ⟨(zi_c 1 (a := 0) (b := 1) (by decide)), h⟩)
    · refine g_iconst (pc := 160) C 1 dX7_told_160 (by decide) ?_
      exact g_ireturn r dX7_told_161 rfl (fun _ h => ⟨(zi_c 1 (a := 0) (b := 1) (by decide)), h⟩)
  · have h17 : zI 0 4 z3 := zr_lt1 (zc_nle c4) hz3 (zi_c 5 (a := 5) (b := 5) (by decide)) (by decide)
    refine g_aload_n (pc := 17) C dX7_told_17 rfl 2 rfl ?_
    refine g_iload_n (pc := 18) C dX7_told_18 rfl 0 rfl ?_
    refine g_iload_n (pc := 19) C dX7_told_19 rfl 1 rfl ?_
    refine g_aload_n (pc := 20) C dX7_told_20 rfl 2 rfl ?_
    refine zcallVi (pc := 21) (st := [.int z1, .int z3, .ref (ad 0)]) C C.2.2.2.2.2 (n_X7_nextWord l D ad cy tl A ) (cwV 0 C.2.2.2.2.1 gw_RX7_142 rfl rfl rfl cd_X7_nextWord ⟨Nat.le_of_ble_eq_true rfl, Nat.le_of_ble_eq_true rfl⟩) (hr_0 C) rfl rfl (Nat.le_of_ble_eq_true rfl) ⟨Nat.le_of_ble_eq_true rfl, Nat.le_of_ble_eq_true rfl⟩ dX7_told_21 (fun r18 => ?_)
    refine g_and (M2 := (zMr D A ad cy tl)) (fun hr18 => ?_)
    refine zcallVv (pc := 24) (st := []) C C.2.2.2.2.2 (n_X7_immediate l D ad cy tl A z3 z1 r18) (cwV 3 C.2.2.2.2.1 gw_RX7_202 rfl rfl rfl cd_X7_immediate ⟨Nat.le_of_ble_eq_true rfl, Nat.le_of_ble_eq_true rfl⟩) (hr_0 C) rfl rfl (Nat.le_of_ble_eq_true rfl) ⟨Nat.le_of_ble_eq_true rfl, Nat.le_of_ble_eq_true rfl⟩ dX7_told_24 ?_
    refine g_iconst (pc := 27) C 1 dX7_told_27 (by decide) ?_
    exact g_ireturn r dX7_told_28 rfl (fun _ h => ⟨(zi_c 1 (a := 0) (b := 1) (by decide)), h⟩)

set_option maxHeartbeats 2000000 in
set_option maxRecDepth 100000 in
theorem n_X7_jumps (l : Launch) (D : va_G) (ad : Nat → Nat) (cy : Nat → ClassId) (tl : Int32) (A : Nat → Prop) (p0 : Int32) : zMi l yX7_jumps wz_X7_jumps ({ frames := 1, cells := 0, slots := 0, locals := 21 }) [.ref (ad 0), .int p0] D (zTr cy) A (zMr D A ad cy tl) (fun r H => zI 0 1 r ∧ (zMr D A ad cy tl) H) := by
  refine zstart_i (cc := cX7_jumps) (maxL := 5) (ty := .boolean) (own := RX7) (by decide) rfl rfl (Nat.le_of_ble_eq_true rfl) (fun p e s m args below meth c Q C r => ?_)
  have J104 : ∀ (a2_104 : Int32) (a3_104 : Int32) (a4_104 : Int32) (b0_104 : Int32) (_ : zI 0 1 a2_104) (_ : zI 0 1 a3_104) (_ : zI 0 1 a4_104) (_ : zI 0 1 b0_104), zG p l e ({ frames := 1, cells := 0, slots := 0, locals := 21 }) s m args below meth c 5 0 0 A Q (zMr D A ad cy tl) 104 [(0, .ref (ad 0)), (1, .int p0), (2, .int a2_104), (3, .int a3_104), (4, .int a4_104)] [.int b0_104] := by
    intro a2_104 a3_104 a4_104 b0_104 ha2_104 ha3_104 ha4_104 hb0_104
    exact g_ireturn r dX7_jumps_104 (zn_bool hb0_104) (fun _ h => ⟨hb0_104, h⟩)
  have J103 : ∀ (a2_103 : Int32) (a3_103 : Int32) (a4_103 : Int32) (_ : zI 0 1 a2_103) (_ : zI 0 1 a3_103) (_ : zI 0 1 a4_103), zG p l e ({ frames := 1, cells := 0, slots := 0, locals := 21 }) s m args below meth c 5 0 0 A Q (zMr D A ad cy tl) 103 [(0, .ref (ad 0)), (1, .int p0), (2, .int a2_103), (3, .int a3_103), (4, .int a4_103)] [] := by
    intro a2_103 a3_103 a4_103 ha2_103 ha3_103 ha4_103
    refine g_iconst (pc := 103) C 0 dX7_jumps_103 (by decide) ?_
    exact g_sub [0, 1, 2, 3, 4] rfl (J104 a2_103 a3_103 a4_103 0 ha2_103 ha3_103 ha4_103 (zi_c 0 (a := 0) (b := 1) (by decide)))
  have J119 : ∀ (a2_119 : Int32) (a3_119 : Int32) (a4_119 : Int32) (b0_119 : Int32) (_ : zI 0 1 a2_119) (_ : zI 0 1 a3_119) (_ : zI 0 1 a4_119) (_ : zI 0 1 b0_119), zG p l e ({ frames := 1, cells := 0, slots := 0, locals := 21 }) s m args below meth c 5 0 0 A Q (zMr D A ad cy tl) 119 [(0, .ref (ad 0)), (1, .int p0), (2, .int a2_119), (3, .int a3_119), (4, .int a4_119)] [.int b0_119] := by
    intro a2_119 a3_119 a4_119 b0_119 ha2_119 ha3_119 ha4_119 hb0_119
    exact g_ireturn r dX7_jumps_119 (zn_bool hb0_119) (fun _ h => ⟨hb0_119, h⟩)
  have J114 : ∀ (a2_114 : Int32) (a3_114 : Int32) (a4_114 : Int32) (_ : zI 0 1 a2_114) (_ : zI 0 1 a3_114) (_ : zI 0 1 a4_114), zG p l e ({ frames := 1, cells := 0, slots := 0, locals := 21 }) s m args below meth c 5 0 0 A Q (zMr D A ad cy tl) 114 [(0, .ref (ad 0)), (1, .int p0), (2, .int a2_114), (3, .int a3_114), (4, .int a4_114)] [] := by
    intro a2_114 a3_114 a4_114 ha2_114 ha3_114 ha4_114
    refine g_iconst (pc := 114) C 1 dX7_jumps_114 (by decide) ?_
    refine g_goto (pc := 115) C 119 dX7_jumps_115 (by decide) ?_
    exact g_sub [0, 1, 2, 3, 4] rfl (J119 a2_114 a3_114 a4_114 1 ha2_114 ha3_114 ha4_114 (zi_c 1 (a := 0) (b := 1) (by decide)))
  have J137 : ∀ (a2_137 : Int32) (a3_137 : Int32) (a4_137 : Int32) (b0_137 : Int32) (_ : zI 0 1 a2_137) (_ : zI 0 1 a3_137) (_ : zI 0 1 a4_137) (_ : zI 0 1 b0_137), zG p l e ({ frames := 1, cells := 0, slots := 0, locals := 21 }) s m args below meth c 5 0 0 A Q (zMr D A ad cy tl) 137 [(0, .ref (ad 0)), (1, .int p0), (2, .int a2_137), (3, .int a3_137), (4, .int a4_137)] [.int b0_137] := by
    intro a2_137 a3_137 a4_137 b0_137 ha2_137 ha3_137 ha4_137 hb0_137
    exact g_ireturn r dX7_jumps_137 (zn_bool hb0_137) (fun _ h => ⟨hb0_137, h⟩)
  have J132 : ∀ (a2_132 : Int32) (a3_132 : Int32) (a4_132 : Int32) (_ : zI 0 1 a2_132) (_ : zI 0 1 a3_132) (_ : zI 0 1 a4_132), zG p l e ({ frames := 1, cells := 0, slots := 0, locals := 21 }) s m args below meth c 5 0 0 A Q (zMr D A ad cy tl) 132 [(0, .ref (ad 0)), (1, .int p0), (2, .int a2_132), (3, .int a3_132), (4, .int a4_132)] [] := by
    intro a2_132 a3_132 a4_132 ha2_132 ha3_132 ha4_132
    refine g_iconst (pc := 132) C 1 dX7_jumps_132 (by decide) ?_
    refine g_goto (pc := 133) C 137 dX7_jumps_133 (by decide) ?_
    exact g_sub [0, 1, 2, 3, 4] rfl (J137 a2_132 a3_132 a4_132 1 ha2_132 ha3_132 ha4_132 (zi_c 1 (a := 0) (b := 1) (by decide)))
  have J150 : ∀ (a2_150 : Int32) (a3_150 : Int32) (a4_150 : Int32) (b0_150 : Int32) (_ : zI 0 1 a2_150) (_ : zI 0 1 a3_150) (_ : zI 0 1 a4_150) (_ : zI 0 1 b0_150), zG p l e ({ frames := 1, cells := 0, slots := 0, locals := 21 }) s m args below meth c 5 0 0 A Q (zMr D A ad cy tl) 150 [(0, .ref (ad 0)), (1, .int p0), (2, .int a2_150), (3, .int a3_150), (4, .int a4_150)] [.int b0_150] := by
    intro a2_150 a3_150 a4_150 b0_150 ha2_150 ha3_150 ha4_150 hb0_150
    exact g_ireturn r dX7_jumps_150 (zn_bool hb0_150) (fun _ h => ⟨hb0_150, h⟩)
  have J166 : ∀ (a2_166 : Int32) (a3_166 : Int32) (a4_166 : Int32) (b0_166 : Int32) (_ : zI 0 1 a2_166) (_ : zI 0 1 a3_166) (_ : zI 0 1 a4_166) (_ : zI 0 1 b0_166), zG p l e ({ frames := 1, cells := 0, slots := 0, locals := 21 }) s m args below meth c 5 0 0 A Q (zMr D A ad cy tl) 166 [(0, .ref (ad 0)), (1, .int p0), (2, .int a2_166), (3, .int a3_166), (4, .int a4_166)] [.int b0_166] := by
    intro a2_166 a3_166 a4_166 b0_166 ha2_166 ha3_166 ha4_166 hb0_166
    exact g_ireturn r dX7_jumps_166 (zn_bool hb0_166) (fun _ h => ⟨hb0_166, h⟩)
  have J190 : ∀ (a2_190 : Int32) (a3_190 : Int32) (a4_190 : Int32) (b0_190 : Int32) (_ : zI 0 1 a2_190) (_ : zI 0 1 a3_190) (_ : zI 0 1 a4_190) (_ : zI 0 1 b0_190), zG p l e ({ frames := 1, cells := 0, slots := 0, locals := 21 }) s m args below meth c 5 0 0 A Q (zMr D A ad cy tl) 190 [(0, .ref (ad 0)), (1, .int p0), (2, .int a2_190), (3, .int a3_190), (4, .int a4_190)] [.int b0_190] := by
    intro a2_190 a3_190 a4_190 b0_190 ha2_190 ha3_190 ha4_190 hb0_190
    exact g_ireturn r dX7_jumps_190 (zn_bool hb0_190) (fun _ h => ⟨hb0_190, h⟩)
  have J205 : ∀ (a2_205 : Int32) (a3_205 : Int32) (a4_205 : Int32) (b0_205 : Int32) (_ : zI 0 1 a2_205) (_ : zI 0 1 a3_205) (_ : zI 0 1 a4_205) (_ : zI 0 1 b0_205), zG p l e ({ frames := 1, cells := 0, slots := 0, locals := 21 }) s m args below meth c 5 0 0 A Q (zMr D A ad cy tl) 205 [(0, .ref (ad 0)), (1, .int p0), (2, .int a2_205), (3, .int a3_205), (4, .int a4_205)] [.int b0_205] := by
    intro a2_205 a3_205 a4_205 b0_205 ha2_205 ha3_205 ha4_205 hb0_205
    exact g_ireturn r dX7_jumps_205 (zn_bool hb0_205) (fun _ h => ⟨hb0_205, h⟩)
  have J204 : ∀ (a2_204 : Int32) (a3_204 : Int32) (a4_204 : Int32) (_ : zI 0 1 a2_204) (_ : zI 0 1 a3_204) (_ : zI 0 1 a4_204), zG p l e ({ frames := 1, cells := 0, slots := 0, locals := 21 }) s m args below meth c 5 0 0 A Q (zMr D A ad cy tl) 204 [(0, .ref (ad 0)), (1, .int p0), (2, .int a2_204), (3, .int a3_204), (4, .int a4_204)] [] := by
    intro a2_204 a3_204 a4_204 ha2_204 ha3_204 ha4_204
    refine g_iconst (pc := 204) C 0 dX7_jumps_204 (by decide) ?_
    exact g_sub [0, 1, 2, 3, 4] rfl (J205 a2_204 a3_204 a4_204 0 ha2_204 ha3_204 ha4_204 (zi_c 0 (a := 0) (b := 1) (by decide)))
  have J220 : ∀ (a2_220 : Int32) (a3_220 : Int32) (a4_220 : Int32) (b0_220 : Int32) (_ : zI 0 1 a2_220) (_ : zI 0 1 a3_220) (_ : zI 0 1 a4_220) (_ : zI 0 1 b0_220), zG p l e ({ frames := 1, cells := 0, slots := 0, locals := 21 }) s m args below meth c 5 0 0 A Q (zMr D A ad cy tl) 220 [(0, .ref (ad 0)), (1, .int p0), (2, .int a2_220), (3, .int a3_220), (4, .int a4_220)] [.int b0_220] := by
    intro a2_220 a3_220 a4_220 b0_220 ha2_220 ha3_220 ha4_220 hb0_220
    exact g_ireturn r dX7_jumps_220 (zn_bool hb0_220) (fun _ h => ⟨hb0_220, h⟩)
  have J219 : ∀ (a2_219 : Int32) (a3_219 : Int32) (a4_219 : Int32) (_ : zI 0 1 a2_219) (_ : zI 0 1 a3_219) (_ : zI 0 1 a4_219), zG p l e ({ frames := 1, cells := 0, slots := 0, locals := 21 }) s m args below meth c 5 0 0 A Q (zMr D A ad cy tl) 219 [(0, .ref (ad 0)), (1, .int p0), (2, .int a2_219), (3, .int a3_219), (4, .int a4_219)] [] := by
    intro a2_219 a3_219 a4_219 ha2_219 ha3_219 ha4_219
    refine g_iconst (pc := 219) C 0 dX7_jumps_219 (by decide) ?_
    exact g_sub [0, 1, 2, 3, 4] rfl (J220 a2_219 a3_219 a4_219 0 ha2_219 ha3_219 ha4_219 (zi_c 0 (a := 0) (b := 1) (by decide)))
  refine g_sub (lv' := [(0, .ref (ad 0)), (1, .int p0)]) [0, 1] rfl ?_
  refine g_aload_n (pc := 0) C dX7_jumps_0 rfl 0 rfl ?_
  refine g_ldc (pc := 1) C dX7_jumps_1 (C.wd wk_814) ?_
  refine zcallVi (pc := 3) (st := []) C C.2.2.2.2.2 (n_X7_has l D ad cy tl A 32768) (cwV 1 C.2.2.2.2.1 gw_RX7_209 rfl rfl rfl cd_X7_has ⟨Nat.le_of_ble_eq_true rfl, Nat.le_of_ble_eq_true rfl⟩) (hr_0 C) rfl rfl (Nat.le_of_ble_eq_true rfl) ⟨Nat.le_of_ble_eq_true rfl, Nat.le_of_ble_eq_true rfl⟩ dX7_jumps_3 (fun r1 => ?_)
  refine g_and (M2 := (zMr D A ad cy tl)) (fun hr1 => ?_)
  refine g_istore_n (pc := 6) C ([(2, .int r1), (0, .ref (ad 0)), (1, .int p0)]) dX7_jumps_6 rfl (Nat.le_of_ble_eq_true rfl) rfl ?_
  refine g_aload_n (pc := 7) C dX7_jumps_7 rfl 1 rfl ?_
  refine g_sipush (pc := 8) C 16384 dX7_jumps_8 (by decide) ?_
  refine zcallVi (pc := 11) (st := []) C C.2.2.2.2.2 (n_X7_has l D ad cy tl A 16384) (cwV 1 C.2.2.2.2.1 gw_RX7_209 rfl rfl rfl cd_X7_has ⟨Nat.le_of_ble_eq_true rfl, Nat.le_of_ble_eq_true rfl⟩) (hr_0 C) rfl rfl (Nat.le_of_ble_eq_true rfl) ⟨Nat.le_of_ble_eq_true rfl, Nat.le_of_ble_eq_true rfl⟩ dX7_jumps_11 (fun r2 => ?_)
  refine g_and (M2 := (zMr D A ad cy tl)) (fun hr2 => ?_)
  refine g_istore_n (pc := 14) C ([(3, .int r2), (2, .int r1), (0, .ref (ad 0)), (1, .int p0)]) dX7_jumps_14 rfl (Nat.le_of_ble_eq_true rfl) rfl ?_
  refine g_aload_n (pc := 15) C dX7_jumps_15 rfl 2 rfl ?_
  refine g_sipush (pc := 16) C 8192 dX7_jumps_16 (by decide) ?_
  refine zcallVi (pc := 19) (st := []) C C.2.2.2.2.2 (n_X7_has l D ad cy tl A 8192) (cwV 1 C.2.2.2.2.1 gw_RX7_209 rfl rfl rfl cd_X7_has ⟨Nat.le_of_ble_eq_true rfl, Nat.le_of_ble_eq_true rfl⟩) (hr_0 C) rfl rfl (Nat.le_of_ble_eq_true rfl) ⟨Nat.le_of_ble_eq_true rfl, Nat.le_of_ble_eq_true rfl⟩ dX7_jumps_19 (fun r3 => ?_)
  refine g_and (M2 := (zMr D A ad cy tl)) (fun hr3 => ?_)
  refine g_istore (pc := 22) C ([(4, .int r3), (3, .int r2), (2, .int r1), (0, .ref (ad 0)), (1, .int p0)]) dX7_jumps_22 (Nat.le_of_ble_eq_true rfl) rfl ?_
  refine g_iload_n (pc := 24) C dX7_jumps_24 rfl 4 rfl ?_
  refine g_table (pc := 25) C [221, 88, 90, 105, 120, 123, 138, 140, 151, 167, 175, 191, 206] dX7_jumps_25 (by decide) (by decide) (by decide) (List.forall_mem_cons.mpr ⟨?_, (List.forall_mem_cons.mpr ⟨?_, (List.forall_mem_cons.mpr ⟨?_, (List.forall_mem_cons.mpr ⟨?_, (List.forall_mem_cons.mpr ⟨?_, (List.forall_mem_cons.mpr ⟨?_, (List.forall_mem_cons.mpr ⟨?_, (List.forall_mem_cons.mpr ⟨?_, (List.forall_mem_cons.mpr ⟨?_, (List.forall_mem_cons.mpr ⟨?_, (List.forall_mem_cons.mpr ⟨?_, (List.forall_mem_cons.mpr ⟨?_, (List.forall_mem_cons.mpr ⟨?_, fun _ h => absurd h List.not_mem_nil⟩)⟩)⟩)⟩)⟩)⟩)⟩)⟩)⟩)⟩)⟩)⟩)⟩)
  · refine g_aload_n (pc := 221) C dX7_jumps_221 rfl 3 rfl ?_
    refine g_sipush (pc := 222) C 1024 dX7_jumps_222 (by decide) ?_
    refine zcallVi (pc := 225) (st := []) C C.2.2.2.2.2 (n_X7_has l D ad cy tl A 1024) (cwV 1 C.2.2.2.2.1 gw_RX7_209 rfl rfl rfl cd_X7_has ⟨Nat.le_of_ble_eq_true rfl, Nat.le_of_ble_eq_true rfl⟩) (hr_0 C) rfl rfl (Nat.le_of_ble_eq_true rfl) ⟨Nat.le_of_ble_eq_true rfl, Nat.le_of_ble_eq_true rfl⟩ dX7_jumps_225 (fun r4 => ?_)
    refine g_and (M2 := (zMr D A ad cy tl)) (fun hr4 => ?_)
    exact g_ireturn r dX7_jumps_228 (zn_bool hr4) (fun _ h => ⟨hr4, h⟩)
  · refine g_iconst (pc := 88) C 1 dX7_jumps_88 (by decide) ?_
    exact g_ireturn r dX7_jumps_89 rfl (fun _ h => ⟨(zi_c 1 (a := 0) (b := 1) (by decide)), h⟩)
  · refine g_iload_n (pc := 90) C dX7_jumps_90 rfl 1 rfl ?_
    refine g_if_ne (pc := 91) C 103 dX7_jumps_91 (by decide) (fun c5 => ?_) (fun c5 => ?_)
    · have h6 : zI 1 1 r2 := zr_neL c5 hr2 (zi_c 0 (a := 0) (b := 0) (by decide)) (by decide)
      exact g_sub [3, 4, 2, 1, 0] rfl (J103 r1 r2 r3 hr1 (zi_w h6 (a' := 0) (b' := 1) (by decide)) hr3)
    · have h7 : zI 0 0 r2 := zr_eq c5 hr2 (zi_c 0 (a := 0) (b := 0) (by decide)) (by decide)
      refine g_iload (pc := 94) C dX7_jumps_94 0 rfl ?_
      refine g_if_ne (pc := 96) C 103 dX7_jumps_96 (by decide) (fun c8 => ?_) (fun c8 => ?_)
      · have h9 : zI 1 1 r3 := zr_neL c8 hr3 (zi_c 0 (a := 0) (b := 0) (by decide)) (by decide)
        exact g_sub [3, 4, 2, 1, 0] rfl (J103 r1 r2 r3 hr1 (zi_w h7 (a' := 0) (b' := 1) (by decide)) (zi_w h9 (a' := 0) (b' := 1) (by decide)))
      · have h10 : zI 0 0 r3 := zr_eq c8 hr3 (zi_c 0 (a := 0) (b := 0) (by decide)) (by decide)
        refine g_iconst (pc := 99) C 1 dX7_jumps_99 (by decide) ?_
        refine g_goto (pc := 100) C 104 dX7_jumps_100 (by decide) ?_
        exact g_sub [3, 4, 2, 1, 0] rfl (J104 r1 r2 r3 1 hr1 (zi_w h7 (a' := 0) (b' := 1) (by decide)) (zi_w h10 (a' := 0) (b' := 1) (by decide)) (zi_c 1 (a := 0) (b := 1) (by decide)))
  · refine g_iload_n (pc := 105) C dX7_jumps_105 rfl 2 rfl ?_
    refine g_if_eq (pc := 106) C 114 dX7_jumps_106 (by decide) (fun c11 => ?_) (fun c11 => ?_)
    · have h12 : zI 0 0 r1 := zr_eq c11 hr1 (zi_c 0 (a := 0) (b := 0) (by decide)) (by decide)
      exact g_sub [3, 4, 2, 1, 0] rfl (J114 r1 r2 r3 (zi_w h12 (a' := 0) (b' := 1) (by decide)) hr2 hr3)
    · have h13 : zI 1 1 r1 := zr_neL c11 hr1 (zi_c 0 (a := 0) (b := 0) (by decide)) (by decide)
      refine g_iload (pc := 109) C dX7_jumps_109 0 rfl ?_
      refine g_if_eq (pc := 111) C 118 dX7_jumps_111 (by decide) (fun c14 => ?_) (fun c14 => ?_)
      · have h15 : zI 0 0 r3 := zr_eq c14 hr3 (zi_c 0 (a := 0) (b := 0) (by decide)) (by decide)
        refine g_iconst (pc := 118) C 0 dX7_jumps_118 (by decide) ?_
        exact g_sub [3, 4, 2, 1, 0] rfl (J119 r1 r2 r3 0 (zi_w h13 (a' := 0) (b' := 1) (by decide)) hr2 (zi_w h15 (a' := 0) (b' := 1) (by decide)) (zi_c 0 (a := 0) (b := 1) (by decide)))
      · have h16 : zI 1 1 r3 := zr_neL c14 hr3 (zi_c 0 (a := 0) (b := 0) (by decide)) (by decide)
        exact g_sub [3, 4, 2, 1, 0] rfl (J114 r1 r2 r3 (zi_w h13 (a' := 0) (b' := 1) (by decide)) hr2 (zi_w h16 (a' := 0) (b' := 1) (by decide)))
  · refine g_iload (pc := 120) C dX7_jumps_120 0 rfl ?_
    exact g_ireturn r dX7_jumps_122 (zn_bool hr3) (fun _ h => ⟨hr3, h⟩)
  · refine g_iload_n (pc := 123) C dX7_jumps_123 rfl 2 rfl ?_
    refine g_if_ne (pc := 124) C 132 dX7_jumps_124 (by decide) (fun c17 => ?_) (fun c17 => ?_)
    · have h18 : zI 1 1 r1 := zr_neL c17 hr1 (zi_c 0 (a := 0) (b := 0) (by decide)) (by decide)
      exact g_sub [3, 4, 2, 1, 0] rfl (J132 r1 r2 r3 (zi_w h18 (a' := 0) (b' := 1) (by decide)) hr2 hr3)
    · have h19 : zI 0 0 r1 := zr_eq c17 hr1 (zi_c 0 (a := 0) (b := 0) (by decide)) (by decide)
      refine g_iload (pc := 127) C dX7_jumps_127 0 rfl ?_
      refine g_if_eq (pc := 129) C 136 dX7_jumps_129 (by decide) (fun c20 => ?_) (fun c20 => ?_)
      · have h21 : zI 0 0 r3 := zr_eq c20 hr3 (zi_c 0 (a := 0) (b := 0) (by decide)) (by decide)
        refine g_iconst (pc := 136) C 0 dX7_jumps_136 (by decide) ?_
        exact g_sub [3, 4, 2, 1, 0] rfl (J137 r1 r2 r3 0 (zi_w h19 (a' := 0) (b' := 1) (by decide)) hr2 (zi_w h21 (a' := 0) (b' := 1) (by decide)) (zi_c 0 (a := 0) (b := 1) (by decide)))
      · have h22 : zI 1 1 r3 := zr_neL c20 hr3 (zi_c 0 (a := 0) (b := 0) (by decide)) (by decide)
        exact g_sub [3, 4, 2, 1, 0] rfl (J132 r1 r2 r3 (zi_w h19 (a' := 0) (b' := 1) (by decide)) hr2 (zi_w h22 (a' := 0) (b' := 1) (by decide)))
  · refine g_iload_n (pc := 138) C dX7_jumps_138 rfl 1 rfl ?_
    exact g_ireturn r dX7_jumps_139 (zn_bool hr2) (fun _ h => ⟨hr2, h⟩)
  · refine g_iload (pc := 140) C dX7_jumps_140 0 rfl ?_
    refine g_if_ne (pc := 142) C 149 dX7_jumps_142 (by decide) (fun c23 => ?_) (fun c23 => ?_)
    · have h24 : zI 1 1 r3 := zr_neL c23 hr3 (zi_c 0 (a := 0) (b := 0) (by decide)) (by decide)
      refine g_iconst (pc := 149) C 0 dX7_jumps_149 (by decide) ?_
      exact g_sub [3, 4, 2, 1, 0] rfl (J150 r1 r2 r3 0 hr1 hr2 (zi_w h24 (a' := 0) (b' := 1) (by decide)) (zi_c 0 (a := 0) (b := 1) (by decide)))
    · have h25 : zI 0 0 r3 := zr_eq c23 hr3 (zi_c 0 (a := 0) (b := 0) (by decide)) (by decide)
      refine g_iconst (pc := 145) C 1 dX7_jumps_145 (by decide) ?_
      refine g_goto (pc := 146) C 150 dX7_jumps_146 (by decide) ?_
      exact g_sub [3, 4, 2, 1, 0] rfl (J150 r1 r2 r3 1 hr1 hr2 (zi_w h25 (a' := 0) (b' := 1) (by decide)) (zi_c 1 (a := 0) (b := 1) (by decide)))
  · refine g_aload_n (pc := 151) C dX7_jumps_151 rfl 3 rfl ?_
    refine g_sipush (pc := 152) C 4096 dX7_jumps_152 (by decide) ?_
    refine zcallVi (pc := 155) (st := []) C C.2.2.2.2.2 (n_X7_has l D ad cy tl A 4096) (cwV 1 C.2.2.2.2.1 gw_RX7_209 rfl rfl rfl cd_X7_has ⟨Nat.le_of_ble_eq_true rfl, Nat.le_of_ble_eq_true rfl⟩) (hr_0 C) rfl rfl (Nat.le_of_ble_eq_true rfl) ⟨Nat.le_of_ble_eq_true rfl, Nat.le_of_ble_eq_true rfl⟩ dX7_jumps_155 (fun r26 => ?_)
    refine g_and (M2 := (zMr D A ad cy tl)) (fun hr26 => ?_)
    refine g_if_ne (pc := 158) C 165 dX7_jumps_158 (by decide) (fun c27 => ?_) (fun c27 => ?_)
    · have h28 : zI 1 1 r26 := zr_neL c27 hr26 (zi_c 0 (a := 0) (b := 0) (by decide)) (by decide)
      refine g_iconst (pc := 165) C 0 dX7_jumps_165 (by decide) ?_
      exact g_sub [3, 4, 2, 1, 0] rfl (J166 r1 r2 r3 0 hr1 hr2 hr3 (zi_c 0 (a := 0) (b := 1) (by decide)))
    · have h29 : zI 0 0 r26 := zr_eq c27 hr26 (zi_c 0 (a := 0) (b := 0) (by decide)) (by decide)
      refine g_iconst (pc := 161) C 1 dX7_jumps_161 (by decide) ?_
      refine g_goto (pc := 162) C 166 dX7_jumps_162 (by decide) ?_
      exact g_sub [3, 4, 2, 1, 0] rfl (J166 r1 r2 r3 1 hr1 hr2 hr3 (zi_c 1 (a := 0) (b := 1) (by decide)))
  · refine g_aload_n (pc := 167) C dX7_jumps_167 rfl 3 rfl ?_
    refine g_sipush (pc := 168) C 4096 dX7_jumps_168 (by decide) ?_
    refine zcallVi (pc := 171) (st := []) C C.2.2.2.2.2 (n_X7_has l D ad cy tl A 4096) (cwV 1 C.2.2.2.2.1 gw_RX7_209 rfl rfl rfl cd_X7_has ⟨Nat.le_of_ble_eq_true rfl, Nat.le_of_ble_eq_true rfl⟩) (hr_0 C) rfl rfl (Nat.le_of_ble_eq_true rfl) ⟨Nat.le_of_ble_eq_true rfl, Nat.le_of_ble_eq_true rfl⟩ dX7_jumps_171 (fun r30 => ?_)
    refine g_and (M2 := (zMr D A ad cy tl)) (fun hr30 => ?_)
    exact g_ireturn r dX7_jumps_174 (zn_bool hr30) (fun _ h => ⟨hr30, h⟩)
  · refine g_aload_n (pc := 175) C dX7_jumps_175 rfl 3 rfl ?_
    refine g_sipush (pc := 176) C 2048 dX7_jumps_176 (by decide) ?_
    refine zcallVi (pc := 179) (st := []) C C.2.2.2.2.2 (n_X7_has l D ad cy tl A 2048) (cwV 1 C.2.2.2.2.1 gw_RX7_209 rfl rfl rfl cd_X7_has ⟨Nat.le_of_ble_eq_true rfl, Nat.le_of_ble_eq_true rfl⟩) (hr_0 C) rfl rfl (Nat.le_of_ble_eq_true rfl) ⟨Nat.le_of_ble_eq_true rfl, Nat.le_of_ble_eq_true rfl⟩ dX7_jumps_179 (fun r31 => ?_)
    refine g_and (M2 := (zMr D A ad cy tl)) (fun hr31 => ?_)
    refine g_if_ne (pc := 182) C 189 dX7_jumps_182 (by decide) (fun c32 => ?_) (fun c32 => ?_)
    · have h33 : zI 1 1 r31 := zr_neL c32 hr31 (zi_c 0 (a := 0) (b := 0) (by decide)) (by decide)
      refine g_iconst (pc := 189) C 0 dX7_jumps_189 (by decide) ?_
      exact g_sub [3, 4, 2, 1, 0] rfl (J190 r1 r2 r3 0 hr1 hr2 hr3 (zi_c 0 (a := 0) (b := 1) (by decide)))
    · have h34 : zI 0 0 r31 := zr_eq c32 hr31 (zi_c 0 (a := 0) (b := 0) (by decide)) (by decide)
      refine g_iconst (pc := 185) C 1 dX7_jumps_185 (by decide) ?_
      refine g_goto (pc := 186) C 190 dX7_jumps_186 (by decide) ?_
      exact g_sub [3, 4, 2, 1, 0] rfl (J190 r1 r2 r3 1 hr1 hr2 hr3 (zi_c 1 (a := 0) (b := 1) (by decide)))
  · refine g_iload_n (pc := 191) C dX7_jumps_191 rfl 2 rfl ?_
    refine g_if_ne (pc := 192) C 204 dX7_jumps_192 (by decide) (fun c35 => ?_) (fun c35 => ?_)
    · have h36 : zI 1 1 r1 := zr_neL c35 hr1 (zi_c 0 (a := 0) (b := 0) (by decide)) (by decide)
      exact g_sub [3, 4, 2, 1, 0] rfl (J204 r1 r2 r3 (zi_w h36 (a' := 0) (b' := 1) (by decide)) hr2 hr3)
    · have h37 : zI 0 0 r1 := zr_eq c35 hr1 (zi_c 0 (a := 0) (b := 0) (by decide)) (by decide)
      refine g_iload (pc := 195) C dX7_jumps_195 0 rfl ?_
      refine g_if_ne (pc := 197) C 204 dX7_jumps_197 (by decide) (fun c38 => ?_) (fun c38 => ?_)
      · have h39 : zI 1 1 r3 := zr_neL c38 hr3 (zi_c 0 (a := 0) (b := 0) (by decide)) (by decide)
        exact g_sub [3, 4, 2, 1, 0] rfl (J204 r1 r2 r3 (zi_w h37 (a' := 0) (b' := 1) (by decide)) hr2 (zi_w h39 (a' := 0) (b' := 1) (by decide)))
      · have h40 : zI 0 0 r3 := zr_eq c38 hr3 (zi_c 0 (a := 0) (b := 0) (by decide)) (by decide)
        refine g_iconst (pc := 200) C 1 dX7_jumps_200 (by decide) ?_
        refine g_goto (pc := 201) C 205 dX7_jumps_201 (by decide) ?_
        exact g_sub [3, 4, 2, 1, 0] rfl (J205 r1 r2 r3 1 (zi_w h37 (a' := 0) (b' := 1) (by decide)) hr2 (zi_w h40 (a' := 0) (b' := 1) (by decide)) (zi_c 1 (a := 0) (b := 1) (by decide)))
  · refine g_iload_n (pc := 206) C dX7_jumps_206 rfl 2 rfl ?_
    refine g_if_eq (pc := 207) C 219 dX7_jumps_207 (by decide) (fun c41 => ?_) (fun c41 => ?_)
    · have h42 : zI 0 0 r1 := zr_eq c41 hr1 (zi_c 0 (a := 0) (b := 0) (by decide)) (by decide)
      exact g_sub [3, 4, 2, 1, 0] rfl (J219 r1 r2 r3 (zi_w h42 (a' := 0) (b' := 1) (by decide)) hr2 hr3)
    · have h43 : zI 1 1 r1 := zr_neL c41 hr1 (zi_c 0 (a := 0) (b := 0) (by decide)) (by decide)
      refine g_iload (pc := 210) C dX7_jumps_210 0 rfl ?_
      refine g_if_ne (pc := 212) C 219 dX7_jumps_212 (by decide) (fun c44 => ?_) (fun c44 => ?_)
      · have h45 : zI 1 1 r3 := zr_neL c44 hr3 (zi_c 0 (a := 0) (b := 0) (by decide)) (by decide)
        exact g_sub [3, 4, 2, 1, 0] rfl (J219 r1 r2 r3 (zi_w h43 (a' := 0) (b' := 1) (by decide)) hr2 (zi_w h45 (a' := 0) (b' := 1) (by decide)))
      · have h46 : zI 0 0 r3 := zr_eq c44 hr3 (zi_c 0 (a := 0) (b := 0) (by decide)) (by decide)
        refine g_iconst (pc := 215) C 1 dX7_jumps_215 (by decide) ?_
        refine g_goto (pc := 216) C 220 dX7_jumps_216 (by decide) ?_
        exact g_sub [3, 4, 2, 1, 0] rfl (J220 r1 r2 r3 1 (zi_w h43 (a' := 0) (b' := 1) (by decide)) hr2 (zi_w h46 (a' := 0) (b' := 1) (by decide)) (zi_c 1 (a := 0) (b := 1) (by decide)))

set_option maxHeartbeats 2000000 in
set_option maxRecDepth 100000 in
theorem n_X7_jump (l : Launch) (D : va_G) (ad : Nat → Nat) (cy : Nat → ClassId) (tl : Int32) (A : Nat → Prop) (p0 : Int32) : zMv l yX7_jump wz_X7_jump ({ frames := 6, cells := 0, slots := 0, locals := 128 }) [.ref (ad 0), .int p0] D (zTr cy) A (zMr D A ad cy tl) (zMr D A ad cy tl) := by
  refine zstart_v (cc := cX7_jump) (maxL := 5) (own := RX7) (by decide) rfl rfl (Nat.le_of_ble_eq_true rfl) (fun p e s m args below meth c Q C r => ?_)
  have J40 : ∀ (a2_40 : Int32) (a3_40 : Int32) (_ : zI 0 12 a2_40) (_ : zI (-128) 127 a3_40), zG p l e ({ frames := 6, cells := 0, slots := 0, locals := 128 }) s m args below meth c 5 0 0 A Q (zMr D A ad cy tl) 40 [(0, .ref (ad 0)), (1, .int p0), (2, .int a2_40), (3, .int a3_40)] [] := by
    intro a2_40 a3_40 ha2_40 ha3_40
    exact g_return r dX7_jump_40 (fun _ h => h)
  have J106 : ∀ (a2_106 : Int32) (a3_106 : Int32) (a4_106 : Int32) (_ : zI 13 15 a2_106) (_ : zI (-128) 127 a3_106) (_ : zI 0 4095 a4_106), zG p l e ({ frames := 6, cells := 0, slots := 0, locals := 128 }) s m args below meth c 5 0 0 A Q (zMr D A ad cy tl) 106 [(0, .ref (ad 0)), (1, .int p0), (2, .int a2_106), (3, .int a3_106), (4, .int a4_106)] [] := by
    intro a2_106 a3_106 a4_106 ha2_106 ha3_106 ha4_106
    exact g_return r dX7_jump_106 (fun _ h => h)
  have J80 : ∀ (a2_80 : Int32) (a3_80 : Int32) (a4_80 : Int32) (b0_80 : Int32) (b1_80 : Int32) (_ : zI 13 14 a2_80) (_ : zI (-128) 127 a3_80) (_ : zI 0 4095 a4_80) (_ : zI 0 1 b0_80) (_ : zI 0 4095 b1_80), zG p l e ({ frames := 6, cells := 0, slots := 0, locals := 128 }) s m args below meth c 5 0 0 A Q (zMr D A ad cy tl) 80 [(0, .ref (ad 0)), (1, .int p0), (2, .int a2_80), (3, .int a3_80), (4, .int a4_80)] [.int b0_80, .int b1_80, .ref (ad 6)] := by
    intro a2_80 a3_80 a4_80 b0_80 b1_80 ha2_80 ha3_80 ha4_80 hb0_80 hb1_80
    refine sr_6 (pc := 80) C (zi_in hb1_80 (by decide)) dX7_jump_80 ?_
    refine g_goto (pc := 81) C 106 dX7_jump_81 (by decide) ?_
    exact g_sub [0, 1, 2, 3, 4] rfl (J106 a2_80 a3_80 a4_80 (zi_w ha2_80 (a' := 13) (b' := 15) (by decide)) ha3_80 ha4_80)
  have J103 : ∀ (a2_103 : Int32) (a3_103 : Int32) (a4_103 : Int32) (b0_103 : Int32) (_ : zI 15 15 a2_103) (_ : zI (-128) 127 a3_103) (_ : zI 0 4095 a4_103) (_ : zI 0 1 b0_103), zG p l e ({ frames := 6, cells := 0, slots := 0, locals := 128 }) s m args below meth c 5 0 0 A Q (zMr D A ad cy tl) 103 [(0, .ref (ad 0)), (1, .int p0), (2, .int a2_103), (3, .int a3_103), (4, .int a4_103)] [.int b0_103, .int 8192, .ref (ad 0)] := by
    intro a2_103 a3_103 a4_103 b0_103 ha2_103 ha3_103 ha4_103 hb0_103
    refine zcallVv (pc := 103) (st := []) C C.2.2.2.2.2 (n_X7_flag l D ad cy tl A 8192 b0_103) (cwV 2 C.2.2.2.2.1 gw_RX7_134 rfl rfl rfl cd_X7_flag ⟨Nat.le_of_ble_eq_true rfl, Nat.le_of_ble_eq_true rfl⟩) (hr_0 C) rfl rfl (Nat.le_of_ble_eq_true rfl) ⟨Nat.le_of_ble_eq_true rfl, Nat.le_of_ble_eq_true rfl⟩ dX7_jump_103 ?_
    exact g_sub [0, 1, 2, 3, 4] rfl (J106 a2_103 a3_103 a4_103 (zi_w ha2_103 (a' := 13) (b' := 15) (by decide)) ha3_103 ha4_103)
  refine g_sub (lv' := [(0, .ref (ad 0)), (1, .int p0)]) [0, 1] rfl ?_
  refine g_iload_n (pc := 0) C dX7_jump_0 rfl 1 rfl ?_
  refine g_bipush (pc := 1) C 8 dX7_jump_1 (by decide) ?_
  refine g_ishr (pc := 3) C dX7_jump_3 (fun z1 ez1 => ?_)
  refine g_bipush (pc := 4) C 15 dX7_jump_4 (by decide) ?_
  refine g_iand (pc := 6) C dX7_jump_6 (fun z2 ez2 => ?_)
  have hz2 : zI 0 15 z2 := zi_and1 (zi_c 15 (a := 0) (b := 15) (by decide)) ez2
  refine g_istore_n (pc := 7) C ([(2, .int z2), (0, .ref (ad 0)), (1, .int p0)]) dX7_jump_7 rfl (Nat.le_of_ble_eq_true rfl) rfl ?_
  refine g_iload_n (pc := 8) C dX7_jump_8 rfl 2 rfl ?_
  refine g_i2b (pc := 9) C dX7_jump_9 (fun z3 ez3 => ?_)
  have hz3 : zI (-128) 127 z3 := zi_i2b ez3
  refine g_istore_n (pc := 10) C ([(3, .int z3), (2, .int z2), (0, .ref (ad 0)), (1, .int p0)]) dX7_jump_10 rfl (Nat.le_of_ble_eq_true rfl) rfl ?_
  refine g_iload_n (pc := 11) C dX7_jump_11 rfl 1 rfl ?_
  refine g_bipush (pc := 12) C 13 dX7_jump_12 (by decide) ?_
  refine g_icmp_ge (pc := 14) C 41 dX7_jump_14 (by decide) (fun c4 => ?_) (fun c4 => ?_)
  · have h5 : zI 13 15 z2 := zr_le2 (zc_le c4) (zi_c 13 (a := 13) (b := 13) (by decide)) hz2 (by decide)
    refine g_aload_n (pc := 41) C dX7_jump_41 rfl 2 rfl ?_
    refine zcallVi (pc := 42) (st := []) C C.2.2.2.2.2 (n_X7_base l D ad cy tl A ) (cwV 0 C.2.2.2.2.1 gw_RX7_190 rfl rfl rfl cd_X7_base ⟨Nat.le_of_ble_eq_true rfl, Nat.le_of_ble_eq_true rfl⟩) (hr_0 C) rfl rfl (Nat.le_of_ble_eq_true rfl) ⟨Nat.le_of_ble_eq_true rfl, Nat.le_of_ble_eq_true rfl⟩ dX7_jump_42 (fun r6 => ?_)
    refine g_and (M2 := (zMr D A ad cy tl)) (fun hr6 => ?_)
    refine g_iload_n (pc := 45) C dX7_jump_45 rfl 0 rfl ?_
    refine g_iadd (pc := 46) C dX7_jump_46 (fun z7 ez7 => ?_)
    have hz7 : zI (-128) 4222 z7 := zi_add hr6 hz3 ez7 (by decide)
    refine g_sipush (pc := 47) C 4096 dX7_jump_47 (by decide) ?_
    refine g_iadd (pc := 50) C dX7_jump_50 (fun z8 ez8 => ?_)
    have hz8 : zI 3968 8318 z8 := zi_add hz7 (zi_c 4096 (a := 4096) (b := 4096) (by decide)) ez8 (by decide)
    refine g_sipush (pc := 51) C 4096 dX7_jump_51 (by decide) ?_
    refine g_irem (pc := 54) C dX7_jump_54 (by decide) (fun z9 ez9 => ?_)
    have hz9 : zI 0 4095 z9 := zi_rem hz8 (zi_c 4096 (a := 4096) (b := 4096) (by decide)) ez9 (by decide)
    refine g_istore (pc := 55) C ([(4, .int z9), (3, .int z3), (2, .int z2), (0, .ref (ad 0)), (1, .int p0)]) dX7_jump_55 (Nat.le_of_ble_eq_true rfl) rfl ?_
    refine g_iload_n (pc := 57) C dX7_jump_57 rfl 2 rfl ?_
    refine g_bipush (pc := 58) C 15 dX7_jump_58 (by decide) ?_
    refine g_icmp_ge (pc := 60) C 84 dX7_jump_60 (by decide) (fun c10 => ?_) (fun c10 => ?_)
    · have h11 : zI 15 15 z2 := zr_le2 (zc_le c10) (zi_c 15 (a := 15) (b := 15) (by decide)) h5 (by decide)
      refine g_aload_n (pc := 84) C dX7_jump_84 rfl 3 rfl ?_
      refine g_sipush (pc := 85) C 8192 dX7_jump_85 (by decide) ?_
      refine g_aload_n (pc := 88) C dX7_jump_88 rfl 3 rfl ?_
      refine g_iload (pc := 89) C dX7_jump_89 0 rfl ?_
      refine zcallVi (pc := 91) (st := [.int 8192, .ref (ad 0)]) C C.2.2.2.2.2 (n_X7_inOf l D ad cy tl A z9 hz9) (cwV 1 C.2.2.2.2.1 gw_RX7_193 rfl rfl rfl cd_X7_inOf ⟨Nat.le_of_ble_eq_true rfl, Nat.le_of_ble_eq_true rfl⟩) (hr_0 C) rfl rfl (Nat.le_of_ble_eq_true rfl) ⟨Nat.le_of_ble_eq_true rfl, Nat.le_of_ble_eq_true rfl⟩ dX7_jump_91 (fun r12 => ?_)
      refine g_and (M2 := (zMr D A ad cy tl)) (fun hr12 => ?_)
      refine g_iconst (pc := 94) C 1 dX7_jump_94 (by decide) ?_
      refine g_icmp_ne (pc := 95) C 102 dX7_jump_95 (by decide) (fun c13 => ?_) (fun c13 => ?_)
      · have h14 : zI 0 0 r12 := zr_neH c13 hr12 (zi_c 1 (a := 1) (b := 1) (by decide)) (by decide)
        refine g_iconst (pc := 102) C 0 dX7_jump_102 (by decide) ?_
        exact g_sub [3, 4, 2, 1, 0] rfl (J103 z2 z3 z9 0 h11 hz3 hz9 (zi_c 0 (a := 0) (b := 1) (by decide)))
      · have h15 : zI 1 1 r12 := zr_eq c13 hr12 (zi_c 1 (a := 1) (b := 1) (by decide)) (by decide)
        refine g_iconst (pc := 98) C 1 dX7_jump_98 (by decide) ?_
        refine g_goto (pc := 99) C 103 dX7_jump_99 (by decide) ?_
        exact g_sub [3, 4, 2, 1, 0] rfl (J103 z2 z3 z9 1 h11 hz3 hz9 (zi_c 1 (a := 0) (b := 1) (by decide)))
    · have h16 : zI 13 14 z2 := zr_lt1 (zc_nle c10) h5 (zi_c 15 (a := 15) (b := 15) (by decide)) (by decide)
      refine g_aload_n (pc := 63) C dX7_jump_63 rfl 3 rfl ?_
      refine gr_0_14 (pc := 64) C wk_707 dX7_jump_64 ?_
      refine g_iload (pc := 67) C dX7_jump_67 0 rfl ?_
      refine g_iload_n (pc := 69) C dX7_jump_69 rfl 2 rfl ?_
      refine g_bipush (pc := 70) C 13 dX7_jump_70 (by decide) ?_
      refine g_icmp_ne (pc := 72) C 79 dX7_jump_72 (by decide) (fun c17 => ?_) (fun c17 => ?_)
      · have h18 : zI 14 14 z2 := zr_neL c17 h16 (zi_c 13 (a := 13) (b := 13) (by decide)) (by decide)
        refine g_iconst (pc := 79) C 0 dX7_jump_79 (by decide) ?_
        exact g_sub [3, 4, 2, 1, 0] rfl (J80 z2 z3 z9 0 z9 (zi_w h18 (a' := 13) (b' := 14) (by decide)) hz3 hz9 (zi_c 0 (a := 0) (b := 1) (by decide)) hz9)
      · have h19 : zI 13 13 z2 := zr_eq c17 h16 (zi_c 13 (a := 13) (b := 13) (by decide)) (by decide)
        refine g_iconst (pc := 75) C 1 dX7_jump_75 (by decide) ?_
        refine g_goto (pc := 76) C 80 dX7_jump_76 (by decide) ?_
        exact g_sub [3, 4, 2, 1, 0] rfl (J80 z2 z3 z9 1 z9 (zi_w h19 (a' := 13) (b' := 14) (by decide)) hz3 hz9 (zi_c 1 (a := 0) (b := 1) (by decide)) hz9)
  · have h20 : zI 0 12 z2 := zr_lt1 (zc_nle c4) hz2 (zi_c 13 (a := 13) (b := 13) (by decide)) (by decide)
    refine g_aload_n (pc := 17) C dX7_jump_17 rfl 2 rfl ?_
    refine g_iload_n (pc := 18) C dX7_jump_18 rfl 1 rfl ?_
    refine zcallVi (pc := 19) (st := []) C C.2.2.2.2.2 (n_X7_jumps l D ad cy tl A z2) (cwV 1 C.2.2.2.2.1 gw_RX7_212 rfl rfl rfl cd_X7_jumps ⟨Nat.le_of_ble_eq_true rfl, Nat.le_of_ble_eq_true rfl⟩) (hr_0 C) rfl rfl (Nat.le_of_ble_eq_true rfl) ⟨Nat.le_of_ble_eq_true rfl, Nat.le_of_ble_eq_true rfl⟩ dX7_jump_19 (fun r21 => ?_)
    refine g_and (M2 := (zMr D A ad cy tl)) (fun hr21 => ?_)
    refine g_if_eq (pc := 22) C 40 dX7_jump_22 (by decide) (fun c22 => ?_) (fun c22 => ?_)
    · have h23 : zI 0 0 r21 := zr_eq c22 hr21 (zi_c 0 (a := 0) (b := 0) (by decide)) (by decide)
      exact g_sub [2, 3, 1, 0] rfl (J40 z2 z3 h20 hz3)
    · have h24 : zI 1 1 r21 := zr_neL c22 hr21 (zi_c 0 (a := 0) (b := 0) (by decide)) (by decide)
      refine g_aload_n (pc := 25) C dX7_jump_25 rfl 2 rfl ?_
      refine g_aload_n (pc := 26) C dX7_jump_26 rfl 2 rfl ?_
      refine gr_0_16 (pc := 27) C wk_709 dX7_jump_27 (fun z25 => ?_)
      refine g_iconst (pc := 30) C 2 dX7_jump_30 (by decide) ?_
      refine g_iload_n (pc := 31) C dX7_jump_31 rfl 0 rfl ?_
      refine g_imul (pc := 32) C dX7_jump_32 (fun z26 ez26 => ?_)
      have vz26 : zEv z26 := zev_mul ez26
      refine g_iadd (pc := 33) C dX7_jump_33 (fun z27 ez27 => ?_)
      refine g_ldc (pc := 34) C dX7_jump_34 (C.wd wk_792) ?_
      refine g_iand (pc := 36) C dX7_jump_36 (fun z28 ez28 => ?_)
      have vz28 : zEv z28 := zev_and ez28
      have hz28 : zI 0 65534 z28 := zi_and1 (zi_c 65534 (a := 0) (b := 65534) (by decide)) ez28
      refine pr_0_16 (pc := 37) C wk_709 dX7_jump_37 ?_
      exact g_sub [2, 3, 1, 0] rfl (J40 z2 z3 h20 hz3)

set_option maxHeartbeats 2000000 in
set_option maxRecDepth 100000 in
theorem n_X7_oneA (l : Launch) (D : va_G) (ad : Nat → Nat) (cy : Nat → ClassId) (tl : Int32) (A : Nat → Prop) (p0 : Int32) (hp0 : zI 1024 1151 p0) : zMi l yX7_one wz_X7_one ({ frames := 7, cells := 0, slots := 0, locals := 156 }) [.ref (ad 0), .int p0] D (zTr cy) A (zMr D A ad cy tl) (fun r H => zI 0 1 r ∧ (zMr D A ad cy tl) H) := by
  refine zstart_i (cc := cX7_one) (maxL := 5) (ty := .boolean) (own := RX7) (by decide) rfl rfl (Nat.le_of_ble_eq_true rfl) (fun p e s m args below meth c Q C r => ?_)
  refine g_sub (lv' := [(0, .ref (ad 0)), (1, .int p0)]) [0, 1] rfl ?_
  refine g_iload_n (pc := 0) C dX7_one_0 rfl 1 rfl ?_
  refine g_bipush (pc := 1) C 6 dX7_one_1 (by decide) ?_
  refine g_ishr (pc := 3) C dX7_one_3 (fun z1 ez1 => ?_)
  have hz1 : zI 16 17 z1 := zi_shr 6 hp0 (by decide) ez1 (by decide)
  refine g_bipush (pc := 4) C 15 dX7_one_4 (by decide) ?_
  refine g_iand (pc := 6) C dX7_one_6 (fun z2 ez2 => ?_)
  have hz2 : zI 0 1 z2 := zi_and15 hz1 ez2 1 (by decide)
  refine g_istore_n (pc := 7) C ([(2, .int z2), (0, .ref (ad 0)), (1, .int p0)]) dX7_one_7 rfl (Nat.le_of_ble_eq_true rfl) rfl ?_
  refine g_aload_n (pc := 8) C dX7_one_8 rfl 1 rfl ?_
  refine g_iload_n (pc := 9) C dX7_one_9 rfl 2 rfl ?_
  refine g_bipush (pc := 10) C 63 dX7_one_10 (by decide) ?_
  refine g_iand (pc := 12) C dX7_one_12 (fun z3 ez3 => ?_)
  have hz3 : zI 0 63 z3 := zi_and1 (zi_c 63 (a := 0) (b := 63) (by decide)) ez3
  refine g_iconst (pc := 13) C 0 dX7_one_13 (by decide) ?_
  refine zcallVi (pc := 14) (st := []) C C.2.2.2.2.2 (n_X7_operand l D ad cy tl A z3 0) (cwV 2 C.2.2.2.2.1 gw_RX7_155 rfl rfl rfl cd_X7_operand ⟨Nat.le_of_ble_eq_true rfl, Nat.le_of_ble_eq_true rfl⟩) (hr_0 C) rfl rfl (Nat.le_of_ble_eq_true rfl) ⟨Nat.le_of_ble_eq_true rfl, Nat.le_of_ble_eq_true rfl⟩ dX7_one_14 (fun r4 => ?_)
  refine g_and (M2 := (zMr D A ad cy tl)) (fun hr4 => ?_)
  refine g_istore_n (pc := 17) C ([(3, .int r4), (2, .int z2), (0, .ref (ad 0)), (1, .int p0)]) dX7_one_17 rfl (Nat.le_of_ble_eq_true rfl) rfl ?_
  refine g_iload_n (pc := 18) C dX7_one_18 rfl 1 rfl ?_
  refine g_lookupI (pc := 19) C 0 1 (zi_w hz2 (a' := 0) (b' := 0 + (1 : Nat)) (by decide)) [60, 72] dX7_one_19 (by decide) (by decide) (List.forall_mem_cons.mpr ⟨?_, (List.forall_mem_cons.mpr ⟨?_, fun _ h => absurd h List.not_mem_nil⟩)⟩)
  · refine g_aload_n (pc := 60) C dX7_one_60 rfl 2 rfl ?_
    refine g_iload_n (pc := 61) C dX7_one_61 rfl 0 rfl ?_
    refine zcallVv (pc := 62) (st := []) C C.2.2.2.2.2 (n_X7_enter l D ad cy tl A r4) (cwV 1 C.2.2.2.2.1 gw_RX7_177 rfl rfl rfl cd_X7_enter ⟨Nat.le_of_ble_eq_true rfl, Nat.le_of_ble_eq_true rfl⟩) (hr_0 C) rfl rfl (Nat.le_of_ble_eq_true rfl) ⟨Nat.le_of_ble_eq_true rfl, Nat.le_of_ble_eq_true rfl⟩ dX7_one_62 ?_
    refine g_aload_n (pc := 65) C dX7_one_65 rfl 2 rfl ?_
    refine g_iconst (pc := 66) C 1 dX7_one_66 (by decide) ?_
    refine pr_0_23 (pc := 67) C wk_716 (zi_c 1 (a := 0) (b := 1) (by decide)) dX7_one_67 ?_
    refine g_iconst (pc := 70) C 1 dX7_one_70 (by decide) ?_
    exact g_ireturn r dX7_one_71 rfl (fun _ h => ⟨(zi_c 1 (a := 0) (b := 1) (by decide)), h⟩)
  · refine g_aload_n (pc := 72) C dX7_one_72 rfl 2 rfl ?_
    refine g_iload_n (pc := 73) C dX7_one_73 rfl 0 rfl ?_
    refine g_ldc (pc := 74) C dX7_one_74 (C.wd wk_792) ?_
    refine g_iand (pc := 76) C dX7_one_76 (fun z5 ez5 => ?_)
    have vz5 : zEv z5 := zev_and ez5
    have hz5 : zI 0 65534 z5 := zi_and1 (zi_c 65534 (a := 0) (b := 65534) (by decide)) ez5
    refine pr_0_16 (pc := 77) C wk_709 dX7_one_77 ?_
    refine g_iconst (pc := 80) C 1 dX7_one_80 (by decide) ?_
    exact g_ireturn r dX7_one_81 rfl (fun _ h => ⟨(zi_c 1 (a := 0) (b := 1) (by decide)), h⟩)

set_option maxHeartbeats 2000000 in
set_option maxRecDepth 100000 in
theorem n_X7_oneB (l : Launch) (D : va_G) (ad : Nat → Nat) (cy : Nat → ClassId) (tl : Int32) (A : Nat → Prop) (p0 : Int32) (hp0 : zI 1216 2047 p0) : zMi l yX7_one wz_X7_one ({ frames := 7, cells := 0, slots := 0, locals := 156 }) [.ref (ad 0), .int p0] D (zTr cy) A (zMr D A ad cy tl) (fun r H => zI 0 1 r ∧ (zMr D A ad cy tl) H) := by
  refine zstart_i (cc := cX7_one) (maxL := 5) (ty := .boolean) (own := RX7) (by decide) rfl rfl (Nat.le_of_ble_eq_true rfl) (fun p e s m args below meth c Q C r => ?_)
  refine g_sub (lv' := [(0, .ref (ad 0)), (1, .int p0)]) [0, 1] rfl ?_
  refine g_iload_n (pc := 0) C dX7_one_0 rfl 1 rfl ?_
  refine g_bipush (pc := 1) C 6 dX7_one_1 (by decide) ?_
  refine g_ishr (pc := 3) C dX7_one_3 (fun z1 ez1 => ?_)
  have hz1 : zI 19 31 z1 := zi_shr 6 hp0 (by decide) ez1 (by decide)
  refine g_bipush (pc := 4) C 15 dX7_one_4 (by decide) ?_
  refine g_iand (pc := 6) C dX7_one_6 (fun z2 ez2 => ?_)
  have hz2 : zI 3 15 z2 := zi_and15 hz1 ez2 1 (by decide)
  refine g_istore_n (pc := 7) C ([(2, .int z2), (0, .ref (ad 0)), (1, .int p0)]) dX7_one_7 rfl (Nat.le_of_ble_eq_true rfl) rfl ?_
  refine g_aload_n (pc := 8) C dX7_one_8 rfl 1 rfl ?_
  refine g_iload_n (pc := 9) C dX7_one_9 rfl 2 rfl ?_
  refine g_bipush (pc := 10) C 63 dX7_one_10 (by decide) ?_
  refine g_iand (pc := 12) C dX7_one_12 (fun z3 ez3 => ?_)
  have hz3 : zI 0 63 z3 := zi_and1 (zi_c 63 (a := 0) (b := 63) (by decide)) ez3
  refine g_iconst (pc := 13) C 0 dX7_one_13 (by decide) ?_
  refine zcallVi (pc := 14) (st := []) C C.2.2.2.2.2 (n_X7_operand l D ad cy tl A z3 0) (cwV 2 C.2.2.2.2.1 gw_RX7_155 rfl rfl rfl cd_X7_operand ⟨Nat.le_of_ble_eq_true rfl, Nat.le_of_ble_eq_true rfl⟩) (hr_0 C) rfl rfl (Nat.le_of_ble_eq_true rfl) ⟨Nat.le_of_ble_eq_true rfl, Nat.le_of_ble_eq_true rfl⟩ dX7_one_14 (fun r4 => ?_)
  refine g_and (M2 := (zMr D A ad cy tl)) (fun hr4 => ?_)
  refine g_istore_n (pc := 17) C ([(3, .int r4), (2, .int z2), (0, .ref (ad 0)), (1, .int p0)]) dX7_one_17 rfl (Nat.le_of_ble_eq_true rfl) rfl ?_
  refine g_iload_n (pc := 18) C dX7_one_18 rfl 1 rfl ?_
  refine g_lookupI (pc := 19) C 3 12 (zi_w hz2 (a' := 3) (b' := 3 + (12 : Nat)) (by decide)) [140, 120] dX7_one_19 (by decide) (by decide) (List.forall_mem_cons.mpr ⟨?_, (List.forall_mem_cons.mpr ⟨?_, fun _ h => absurd h List.not_mem_nil⟩)⟩)
  · refine g_iload_n (pc := 140) C dX7_one_140 rfl 1 rfl ?_
    refine g_bipush (pc := 141) C 13 dX7_one_141 (by decide) ?_
    refine g_icmp_le (pc := 143) C 148 dX7_one_143 (by decide) (fun c5 => ?_) (fun c5 => ?_)
    · have h6 : zI 3 13 z2 := zr_le1 (zc_le c5) hz2 (zi_c 13 (a := 13) (b := 13) (by decide)) (by decide)
      refine g_aload_n (pc := 148) C dX7_one_148 rfl 2 rfl ?_
      refine g_iload_n (pc := 149) C dX7_one_149 rfl 1 rfl ?_
      refine g_iload_n (pc := 150) C dX7_one_150 rfl 0 rfl ?_
      refine zcallVv (pc := 151) (st := []) C C.2.2.2.2.2 (n_X7_changes l D ad cy tl A z2 r4) (cwV 2 C.2.2.2.2.1 gw_RX7_199 rfl rfl rfl cd_X7_changes ⟨Nat.le_of_ble_eq_true rfl, Nat.le_of_ble_eq_true rfl⟩) (hr_0 C) rfl rfl (Nat.le_of_ble_eq_true rfl) ⟨Nat.le_of_ble_eq_true rfl, Nat.le_of_ble_eq_true rfl⟩ dX7_one_151 ?_
      refine g_iconst (pc := 154) C 1 dX7_one_154 (by decide) ?_
      exact g_ireturn r dX7_one_155 rfl (fun _ h => ⟨(zi_c 1 (a := 0) (b := 1) (by decide)), h⟩)
    · have h7 : zI 14 15 z2 := zr_lt2 (zc_nle c5) (zi_c 13 (a := 13) (b := 13) (by decide)) hz2 (by decide)
      refine g_iconst (pc := 146) C 0 dX7_one_146 (by decide) ?_
      exact g_ireturn r dX7_one_147 rfl (fun _ h => ⟨(zi_c 0 (a := 0) (b := 1) (by decide)), h⟩)
  · refine g_aload_n (pc := 120) C dX7_one_120 rfl 2 rfl ?_
    refine g_bipush (pc := 121) C 11 dX7_one_121 (by decide) ?_
    refine g_aload_n (pc := 123) C dX7_one_123 rfl 2 rfl ?_
    refine gr_0_16 (pc := 124) C wk_709 dX7_one_124 (fun z8 => ?_)
    refine zcallVv (pc := 127) (st := []) C C.2.2.2.2.2 (n_X7_register_ l D ad cy tl A 11 z8) (cwV 2 C.2.2.2.2.1 gw_RX7_149 rfl rfl rfl cd_X7_register_ ⟨Nat.le_of_ble_eq_true rfl, Nat.le_of_ble_eq_true rfl⟩) (hr_0 C) rfl rfl (Nat.le_of_ble_eq_true rfl) ⟨Nat.le_of_ble_eq_true rfl, Nat.le_of_ble_eq_true rfl⟩ dX7_one_127 ?_
    refine g_aload_n (pc := 130) C dX7_one_130 rfl 2 rfl ?_
    refine g_iload_n (pc := 131) C dX7_one_131 rfl 0 rfl ?_
    refine g_ldc (pc := 132) C dX7_one_132 (C.wd wk_792) ?_
    refine g_iand (pc := 134) C dX7_one_134 (fun z9 ez9 => ?_)
    have vz9 : zEv z9 := zev_and ez9
    have hz9 : zI 0 65534 z9 := zi_and1 (zi_c 65534 (a := 0) (b := 65534) (by decide)) ez9
    refine pr_0_16 (pc := 135) C wk_709 dX7_one_135 ?_
    refine g_iconst (pc := 138) C 1 dX7_one_138 (by decide) ?_
    exact g_ireturn r dX7_one_139 rfl (fun _ h => ⟨(zi_c 1 (a := 0) (b := 1) (by decide)), h⟩)

set_option maxHeartbeats 2000000 in
set_option maxRecDepth 100000 in
theorem n_X7_doesA (l : Launch) (D : va_G) (ad : Nat → Nat) (cy : Nat → ClassId) (tl : Int32) (A : Nat → Prop) (p0 : Int32) (hp0 : zI 0 1151 p0) : zMi l yX7_does wz_X7_does ({ frames := 8, cells := 0, slots := 0, locals := 180 }) [.ref (ad 0), .int p0] D (zTr cy) A (zMr D A ad cy tl) (fun r H => zI 0 1 r ∧ (zMr D A ad cy tl) H) := by
  refine zstart_i (cc := cX7_does) (maxL := 2) (ty := .boolean) (own := RX7) (by decide) rfl rfl (Nat.le_of_ble_eq_true rfl) (fun p e s m args below meth c Q C r => ?_)
  have J67 : ∀ (_ : zI 0 511 p0), zG p l e ({ frames := 8, cells := 0, slots := 0, locals := 180 }) s m args below meth c 2 0 0 A Q (zMr D A ad cy tl) 67 [(0, .ref (ad 0)), (1, .int p0)] [] := by
    intro hc_a1_67
    refine g_iconst (pc := 67) C 0 dX7_does_67 (by decide) ?_
    exact g_ireturn r dX7_does_68 rfl (fun _ h => ⟨(zi_c 0 (a := 0) (b := 1) (by decide)), h⟩)
  have J103 : ∀ (b0_103 : Int32) (_ : zI 512 1151 p0) (_ : zI 0 1 b0_103), zG p l e ({ frames := 8, cells := 0, slots := 0, locals := 180 }) s m args below meth c 2 0 0 A Q (zMr D A ad cy tl) 103 [(0, .ref (ad 0)), (1, .int p0)] [.int b0_103] := by
    intro b0_103 hc_a1_103 hb0_103
    exact g_ireturn r dX7_does_103 (zn_bool hb0_103) (fun _ h => ⟨hb0_103, h⟩)
  refine g_sub (lv' := [(0, .ref (ad 0)), (1, .int p0)]) [0, 1] rfl ?_
  refine g_iload_n (pc := 0) C dX7_does_0 rfl 1 rfl ?_
  refine g_sipush (pc := 1) C 16384 dX7_does_1 (by decide) ?_
  refine g_icmp_lt (pc := 4) C 13 dX7_does_4 (by decide) (fun c1 => ?_) (fun c1 => ?_)
  · refine g_iload_n (pc := 13) C dX7_does_13 rfl 1 rfl ?_
    refine g_sipush (pc := 14) C 8192 dX7_does_14 (by decide) ?_
    refine g_icmp_lt (pc := 17) C 26 dX7_does_17 (by decide) (fun c2 => ?_) (fun c2 => ?_)
    · refine g_iload_n (pc := 26) C dX7_does_26 rfl 1 rfl ?_
      refine g_sipush (pc := 27) C 4096 dX7_does_27 (by decide) ?_
      refine g_icmp_lt (pc := 30) C 40 dX7_does_30 (by decide) (fun c3 => ?_) (fun c3 => ?_)
      · refine g_iload_n (pc := 40) C dX7_does_40 rfl 1 rfl ?_
        refine g_sipush (pc := 41) C 3072 dX7_does_41 (by decide) ?_
        refine g_icmp_ge (pc := 44) C 67 dX7_does_44 (by decide) (fun c4 => ?_) (fun c4 => ?_)
        · have h5 : zI 3072 1151 p0 := zr_le2 (zc_le c4) (zi_c 3072 (a := 3072) (b := 3072) (by decide)) hp0 (by decide)
          exact zi_no h5 (by decide)
        · refine g_iload_n (pc := 47) C dX7_does_47 rfl 1 rfl ?_
          refine g_sipush (pc := 48) C 512 dX7_does_48 (by decide) ?_
          refine g_icmp_lt (pc := 51) C 67 dX7_does_51 (by decide) (fun c6 => ?_) (fun c6 => ?_)
          · have h7 : zI 0 511 p0 := zr_lt1 (zc_lt c6) hp0 (zi_c 512 (a := 512) (b := 512) (by decide)) (by decide)
            exact g_sub [0, 1] rfl (J67 h7)
          · have h8 : zI 512 1151 p0 := zr_le2 (zc_nlt c6) (zi_c 512 (a := 512) (b := 512) (by decide)) hp0 (by decide)
            refine g_iload_n (pc := 54) C dX7_does_54 rfl 1 rfl ?_
            refine g_sipush (pc := 55) C 1920 dX7_does_55 (by decide) ?_
            refine g_sipush (pc := 58) C 2047 dX7_does_58 (by decide) ?_
            refine zcallSi (pc := 61) (st := []) C C.2.2.2.2.2 (n_X7_in l D ad cy tl A p0 1920 2047 1920 2047 (by decide) (by decide)) (va_cwS 3 C.2.2.2.2.1 gw_RX7_47 rfl rfl rfl cs_X7_in ⟨Nat.le_of_ble_eq_true rfl, Nat.le_of_ble_eq_true rfl⟩) rfl rfl (Nat.le_of_ble_eq_true rfl) ⟨Nat.le_of_ble_eq_true rfl, Nat.le_of_ble_eq_true rfl⟩ dX7_does_61 (fun r9 => ?_)
            refine g_and (M2 := (zMr D A ad cy tl)) (fun hr9 => ?_)
            have kr9 := zin_01 hr9
            refine g_if_eq (pc := 64) C 69 dX7_does_64 (by decide) (fun c10 => ?_) (fun c10 => ?_)
            · have h11 : zI 0 0 r9 := zr_eq c10 kr9 (zi_c 0 (a := 0) (b := 0) (by decide)) (by decide)
              refine g_iload_n (pc := 69) C dX7_does_69 rfl 1 rfl ?_
              refine g_sipush (pc := 70) C 2048 dX7_does_70 (by decide) ?_
              refine g_icmp_lt (pc := 73) C 83 dX7_does_73 (by decide) (fun c12 => ?_) (fun c12 => ?_)
              · refine g_iload_n (pc := 83) C dX7_does_83 rfl 1 rfl ?_
                refine g_sipush (pc := 84) C 1024 dX7_does_84 (by decide) ?_
                refine g_icmp_lt (pc := 87) C 98 dX7_does_87 (by decide) (fun c13 => ?_) (fun c13 => ?_)
                · have h14 : zI 512 1023 p0 := zr_lt1 (zc_lt c13) h8 (zi_c 1024 (a := 1024) (b := 1024) (by decide)) (by decide)
                  refine g_aload_n (pc := 98) C dX7_does_98 rfl 0 rfl ?_
                  refine g_iload_n (pc := 99) C dX7_does_99 rfl 1 rfl ?_
                  refine zcallVi (pc := 100) (st := []) C C.2.2.2.2.2 (n_X7_told l D ad cy tl A p0) (cwV 1 C.2.2.2.2.1 gw_RX7_230 rfl rfl rfl cd_X7_told ⟨Nat.le_of_ble_eq_true rfl, Nat.le_of_ble_eq_true rfl⟩) (hr_0 C) rfl rfl (Nat.le_of_ble_eq_true rfl) ⟨Nat.le_of_ble_eq_true rfl, Nat.le_of_ble_eq_true rfl⟩ dX7_does_100 (fun r15 => ?_)
                  refine g_and (M2 := (zMr D A ad cy tl)) (fun hr15 => ?_)
                  exact g_sub [0, 1] rfl (J103 r15 (zi_w h14 (a' := 512) (b' := 1151) (by decide)) hr15)
                · have h16 : zI 1024 1151 p0 := zr_le2 (zc_nlt c13) (zi_c 1024 (a := 1024) (b := 1024) (by decide)) h8 (by decide)
                  refine g_aload_n (pc := 90) C dX7_does_90 rfl 0 rfl ?_
                  refine g_iload_n (pc := 91) C dX7_does_91 rfl 1 rfl ?_
                  refine zcallVi (pc := 92) (st := []) C C.2.2.2.2.2 (n_X7_oneA l D ad cy tl A p0 h16) (cwV 1 C.2.2.2.2.1 gw_RX7_227 rfl rfl rfl cd_X7_one ⟨Nat.le_of_ble_eq_true rfl, Nat.le_of_ble_eq_true rfl⟩) (hr_0 C) rfl rfl (Nat.le_of_ble_eq_true rfl) ⟨Nat.le_of_ble_eq_true rfl, Nat.le_of_ble_eq_true rfl⟩ dX7_does_92 (fun r17 => ?_)
                  refine g_and (M2 := (zMr D A ad cy tl)) (fun hr17 => ?_)
                  refine g_goto (pc := 95) C 103 dX7_does_95 (by decide) ?_
                  exact g_sub [0, 1] rfl (J103 r17 (zi_w h16 (a' := 512) (b' := 1151) (by decide)) hr17)
              · have h18 : zI 2048 1151 p0 := zr_le2 (zc_nlt c12) (zi_c 2048 (a := 2048) (b := 2048) (by decide)) h8 (by decide)
                exact zi_no h18 (by decide)
            · exact zi_dis (zin_1 hr9 c10) h8 (by decide)
      · have h19 : zI 4096 1151 p0 := zr_le2 (zc_nlt c3) (zi_c 4096 (a := 4096) (b := 4096) (by decide)) hp0 (by decide)
        exact zi_no h19 (by decide)
    · have h20 : zI 8192 1151 p0 := zr_le2 (zc_nlt c2) (zi_c 8192 (a := 8192) (b := 8192) (by decide)) hp0 (by decide)
      exact zi_no h20 (by decide)
  · have h21 : zI 16384 1151 p0 := zr_le2 (zc_nlt c1) (zi_c 16384 (a := 16384) (b := 16384) (by decide)) hp0 (by decide)
    exact zi_no h21 (by decide)

set_option maxHeartbeats 2000000 in
set_option maxRecDepth 100000 in
theorem n_X7_doesB (l : Launch) (D : va_G) (ad : Nat → Nat) (cy : Nat → ClassId) (tl : Int32) (A : Nat → Prop) (p0 : Int32) (hp0 : zI 1216 65535 p0) : zMi l yX7_does wz_X7_does ({ frames := 9, cells := 0, slots := 0, locals := 213 }) [.ref (ad 0), .int p0] D (zTr cy) A (zMr D A ad cy tl) (fun r H => zI 0 1 r ∧ (zMr D A ad cy tl) H) := by
  refine zstart_i (cc := cX7_does) (maxL := 2) (ty := .boolean) (own := RX7) (by decide) rfl rfl (Nat.le_of_ble_eq_true rfl) (fun p e s m args below meth c Q C r => ?_)
  have J67 : ∀ (_ : zI 1920 4095 p0), zG p l e ({ frames := 9, cells := 0, slots := 0, locals := 213 }) s m args below meth c 2 0 0 A Q (zMr D A ad cy tl) 67 [(0, .ref (ad 0)), (1, .int p0)] [] := by
    intro hc_a1_67
    refine g_iconst (pc := 67) C 0 dX7_does_67 (by decide) ?_
    exact g_ireturn r dX7_does_68 rfl (fun _ h => ⟨(zi_c 0 (a := 0) (b := 1) (by decide)), h⟩)
  have J103 : ∀ (b0_103 : Int32) (_ : zI 1216 2047 p0) (_ : zI 0 1 b0_103), zG p l e ({ frames := 9, cells := 0, slots := 0, locals := 213 }) s m args below meth c 2 0 0 A Q (zMr D A ad cy tl) 103 [(0, .ref (ad 0)), (1, .int p0)] [.int b0_103] := by
    intro b0_103 hc_a1_103 hb0_103
    exact g_ireturn r dX7_does_103 (zn_bool hb0_103) (fun _ h => ⟨hb0_103, h⟩)
  refine g_sub (lv' := [(0, .ref (ad 0)), (1, .int p0)]) [0, 1] rfl ?_
  refine g_iload_n (pc := 0) C dX7_does_0 rfl 1 rfl ?_
  refine g_sipush (pc := 1) C 16384 dX7_does_1 (by decide) ?_
  refine g_icmp_lt (pc := 4) C 13 dX7_does_4 (by decide) (fun c1 => ?_) (fun c1 => ?_)
  · have h2 : zI 1216 16383 p0 := zr_lt1 (zc_lt c1) hp0 (zi_c 16384 (a := 16384) (b := 16384) (by decide)) (by decide)
    refine g_iload_n (pc := 13) C dX7_does_13 rfl 1 rfl ?_
    refine g_sipush (pc := 14) C 8192 dX7_does_14 (by decide) ?_
    refine g_icmp_lt (pc := 17) C 26 dX7_does_17 (by decide) (fun c3 => ?_) (fun c3 => ?_)
    · have h4 : zI 1216 8191 p0 := zr_lt1 (zc_lt c3) h2 (zi_c 8192 (a := 8192) (b := 8192) (by decide)) (by decide)
      refine g_iload_n (pc := 26) C dX7_does_26 rfl 1 rfl ?_
      refine g_sipush (pc := 27) C 4096 dX7_does_27 (by decide) ?_
      refine g_icmp_lt (pc := 30) C 40 dX7_does_30 (by decide) (fun c5 => ?_) (fun c5 => ?_)
      · have h6 : zI 1216 4095 p0 := zr_lt1 (zc_lt c5) h4 (zi_c 4096 (a := 4096) (b := 4096) (by decide)) (by decide)
        refine g_iload_n (pc := 40) C dX7_does_40 rfl 1 rfl ?_
        refine g_sipush (pc := 41) C 3072 dX7_does_41 (by decide) ?_
        refine g_icmp_ge (pc := 44) C 67 dX7_does_44 (by decide) (fun c7 => ?_) (fun c7 => ?_)
        · have h8 : zI 3072 4095 p0 := zr_le2 (zc_le c7) (zi_c 3072 (a := 3072) (b := 3072) (by decide)) h6 (by decide)
          exact g_sub [0, 1] rfl (J67 (zi_w h8 (a' := 1920) (b' := 4095) (by decide)))
        · have h9 : zI 1216 3071 p0 := zr_lt1 (zc_nle c7) h6 (zi_c 3072 (a := 3072) (b := 3072) (by decide)) (by decide)
          refine g_iload_n (pc := 47) C dX7_does_47 rfl 1 rfl ?_
          refine g_sipush (pc := 48) C 512 dX7_does_48 (by decide) ?_
          refine g_icmp_lt (pc := 51) C 67 dX7_does_51 (by decide) (fun c10 => ?_) (fun c10 => ?_)
          · have h11 : zI 1216 511 p0 := zr_lt1 (zc_lt c10) h9 (zi_c 512 (a := 512) (b := 512) (by decide)) (by decide)
            exact zi_no h11 (by decide)
          · refine g_iload_n (pc := 54) C dX7_does_54 rfl 1 rfl ?_
            refine g_sipush (pc := 55) C 1920 dX7_does_55 (by decide) ?_
            refine g_sipush (pc := 58) C 2047 dX7_does_58 (by decide) ?_
            refine zcallSi (pc := 61) (st := []) C C.2.2.2.2.2 (n_X7_in l D ad cy tl A p0 1920 2047 1920 2047 (by decide) (by decide)) (va_cwS 3 C.2.2.2.2.1 gw_RX7_47 rfl rfl rfl cs_X7_in ⟨Nat.le_of_ble_eq_true rfl, Nat.le_of_ble_eq_true rfl⟩) rfl rfl (Nat.le_of_ble_eq_true rfl) ⟨Nat.le_of_ble_eq_true rfl, Nat.le_of_ble_eq_true rfl⟩ dX7_does_61 (fun r12 => ?_)
            refine g_and (M2 := (zMr D A ad cy tl)) (fun hr12 => ?_)
            have kr12 := zin_01 hr12
            refine g_if_eq (pc := 64) C 69 dX7_does_64 (by decide) (fun c13 => ?_) (fun c13 => ?_)
            · have h14 : zI 0 0 r12 := zr_eq c13 kr12 (zi_c 0 (a := 0) (b := 0) (by decide)) (by decide)
              refine g_iload_n (pc := 69) C dX7_does_69 rfl 1 rfl ?_
              refine g_sipush (pc := 70) C 2048 dX7_does_70 (by decide) ?_
              refine g_icmp_lt (pc := 73) C 83 dX7_does_73 (by decide) (fun c15 => ?_) (fun c15 => ?_)
              · have h16 : zI 1216 2047 p0 := zr_lt1 (zc_lt c15) h9 (zi_c 2048 (a := 2048) (b := 2048) (by decide)) (by decide)
                refine g_iload_n (pc := 83) C dX7_does_83 rfl 1 rfl ?_
                refine g_sipush (pc := 84) C 1024 dX7_does_84 (by decide) ?_
                refine g_icmp_lt (pc := 87) C 98 dX7_does_87 (by decide) (fun c17 => ?_) (fun c17 => ?_)
                · have h18 : zI 1216 1023 p0 := zr_lt1 (zc_lt c17) h16 (zi_c 1024 (a := 1024) (b := 1024) (by decide)) (by decide)
                  exact zi_no h18 (by decide)
                · refine g_aload_n (pc := 90) C dX7_does_90 rfl 0 rfl ?_
                  refine g_iload_n (pc := 91) C dX7_does_91 rfl 1 rfl ?_
                  refine zcallVi (pc := 92) (st := []) C C.2.2.2.2.2 (n_X7_oneB l D ad cy tl A p0 h16) (cwV 1 C.2.2.2.2.1 gw_RX7_227 rfl rfl rfl cd_X7_one ⟨Nat.le_of_ble_eq_true rfl, Nat.le_of_ble_eq_true rfl⟩) (hr_0 C) rfl rfl (Nat.le_of_ble_eq_true rfl) ⟨Nat.le_of_ble_eq_true rfl, Nat.le_of_ble_eq_true rfl⟩ dX7_does_92 (fun r19 => ?_)
                  refine g_and (M2 := (zMr D A ad cy tl)) (fun hr19 => ?_)
                  refine g_goto (pc := 95) C 103 dX7_does_95 (by decide) ?_
                  exact g_sub [0, 1] rfl (J103 r19 h16 hr19)
              · have h20 : zI 2048 3071 p0 := zr_le2 (zc_nlt c15) (zi_c 2048 (a := 2048) (b := 2048) (by decide)) h9 (by decide)
                refine g_aload_n (pc := 76) C dX7_does_76 rfl 0 rfl ?_
                refine g_iload_n (pc := 77) C dX7_does_77 rfl 1 rfl ?_
                refine zcallVv (pc := 78) (st := []) C C.2.2.2.2.2 (n_X7_shift l D ad cy tl A p0) (cwV 1 C.2.2.2.2.1 gw_RX7_224 rfl rfl rfl cd_X7_shift ⟨Nat.le_of_ble_eq_true rfl, Nat.le_of_ble_eq_true rfl⟩) (hr_0 C) rfl rfl (Nat.le_of_ble_eq_true rfl) ⟨Nat.le_of_ble_eq_true rfl, Nat.le_of_ble_eq_true rfl⟩ dX7_does_78 ?_
                refine g_iconst (pc := 81) C 1 dX7_does_81 (by decide) ?_
                exact g_ireturn r dX7_does_82 rfl (fun _ h => ⟨(zi_c 1 (a := 0) (b := 1) (by decide)), h⟩)
            · have h21 : zI 1920 2047 p0 := zin_1 hr12 c13
              have h22 : zI 1 1 r12 := zr_neL c13 kr12 (zi_c 0 (a := 0) (b := 0) (by decide)) (by decide)
              exact g_sub [0, 1] rfl (J67 (zi_w h21 (a' := 1920) (b' := 4095) (by decide)))
      · have h23 : zI 4096 8191 p0 := zr_le2 (zc_nlt c5) (zi_c 4096 (a := 4096) (b := 4096) (by decide)) h4 (by decide)
        refine g_aload_n (pc := 33) C dX7_does_33 rfl 0 rfl ?_
        refine g_iload_n (pc := 34) C dX7_does_34 rfl 1 rfl ?_
        refine zcallVv (pc := 35) (st := []) C C.2.2.2.2.2 (n_X7_jump l D ad cy tl A p0) (cwV 1 C.2.2.2.2.1 gw_RX7_221 rfl rfl rfl cd_X7_jump ⟨Nat.le_of_ble_eq_true rfl, Nat.le_of_ble_eq_true rfl⟩) (hr_0 C) rfl rfl (Nat.le_of_ble_eq_true rfl) ⟨Nat.le_of_ble_eq_true rfl, Nat.le_of_ble_eq_true rfl⟩ dX7_does_35 ?_
        refine g_iconst (pc := 38) C 1 dX7_does_38 (by decide) ?_
        exact g_ireturn r dX7_does_39 rfl (fun _ h => ⟨(zi_c 1 (a := 0) (b := 1) (by decide)), h⟩)
    · have h24 : zI 8192 16383 p0 := zr_le2 (zc_nlt c3) (zi_c 8192 (a := 8192) (b := 8192) (by decide)) h2 (by decide)
      refine g_aload_n (pc := 20) C dX7_does_20 rfl 0 rfl ?_
      refine g_iload_n (pc := 21) C dX7_does_21 rfl 1 rfl ?_
      refine zcallVi (pc := 22) (st := []) C C.2.2.2.2.2 (n_X7_withRegister l D ad cy tl A p0) (cwV 1 C.2.2.2.2.1 gw_RX7_218 rfl rfl rfl cd_X7_withRegister ⟨Nat.le_of_ble_eq_true rfl, Nat.le_of_ble_eq_true rfl⟩) (hr_0 C) rfl rfl (Nat.le_of_ble_eq_true rfl) ⟨Nat.le_of_ble_eq_true rfl, Nat.le_of_ble_eq_true rfl⟩ dX7_does_22 (fun r25 => ?_)
      refine g_and (M2 := (zMr D A ad cy tl)) (fun hr25 => ?_)
      exact g_ireturn r dX7_does_25 (zn_bool hr25) (fun _ h => ⟨hr25, h⟩)
  · have h26 : zI 16384 65535 p0 := zr_le2 (zc_nlt c1) (zi_c 16384 (a := 16384) (b := 16384) (by decide)) hp0 (by decide)
    refine g_aload_n (pc := 7) C dX7_does_7 rfl 0 rfl ?_
    refine g_iload_n (pc := 8) C dX7_does_8 rfl 1 rfl ?_
    refine zcallVi (pc := 9) (st := []) C C.2.2.2.2.2 (n_X7_two l D ad cy tl A p0) (cwV 1 C.2.2.2.2.1 gw_RX7_215 rfl rfl rfl cd_X7_two ⟨Nat.le_of_ble_eq_true rfl, Nat.le_of_ble_eq_true rfl⟩) (hr_0 C) rfl rfl (Nat.le_of_ble_eq_true rfl) ⟨Nat.le_of_ble_eq_true rfl, Nat.le_of_ble_eq_true rfl⟩ dX7_does_9 (fun r27 => ?_)
    refine g_and (M2 := (zMr D A ad cy tl)) (fun hr27 => ?_)
    exact g_ireturn r dX7_does_12 (zn_bool hr27) (fun _ h => ⟨hr27, h⟩)

set_option maxHeartbeats 2000000 in
set_option maxRecDepth 100000 in
theorem n_X7_oneC (l : Launch) (D : va_G) (ad : Nat → Nat) (cy : Nat → ClassId) (tl : Int32) (A : Nat → Prop) (p0 : Int32) (hp0 : zI 1024 2047 p0) : zMi l yX7_one wz_X7_one ({ frames := 10, cells := 0, slots := 0, locals := 234 }) [.ref (ad 0), .int p0] D (zTr cy) A (zMr D A ad cy tl) (fun r H => zI 0 1 r ∧ (zMr D A ad cy tl) H) := by
  refine zstart_i (cc := cX7_one) (maxL := 5) (ty := .boolean) (own := RX7) (by decide) rfl rfl (Nat.le_of_ble_eq_true rfl) (fun p e s m args below meth c Q C r => ?_)
  have J119 : ∀ (a2_119 : Int32) (a3_119 : Int32) (a4_119 : Int32) (b0_119 : Int32) (_ : zI 0 15 a2_119) (_ : zI 0 65535 a3_119) (_ : zI 0 65535 a4_119) (_ : zI 0 1 b0_119), zG p l e ({ frames := 10, cells := 0, slots := 0, locals := 234 }) s m args below meth c 5 0 0 A Q (zMr D A ad cy tl) 119 [(0, .ref (ad 0)), (1, .int p0), (2, .int a2_119), (3, .int a3_119), (4, .int a4_119)] [.int b0_119] := by
    intro a2_119 a3_119 a4_119 b0_119 ha2_119 ha3_119 ha4_119 hb0_119
    exact g_ireturn r dX7_one_119 (zn_bool hb0_119) (fun _ h => ⟨hb0_119, h⟩)
  have J118 : ∀ (a2_118 : Int32) (a3_118 : Int32) (a4_118 : Int32) (_ : zI 0 15 a2_118) (_ : zI 0 65535 a3_118) (_ : zI 0 65535 a4_118), zG p l e ({ frames := 10, cells := 0, slots := 0, locals := 234 }) s m args below meth c 5 0 0 A Q (zMr D A ad cy tl) 118 [(0, .ref (ad 0)), (1, .int p0), (2, .int a2_118), (3, .int a3_118), (4, .int a4_118)] [] := by
    intro a2_118 a3_118 a4_118 ha2_118 ha3_118 ha4_118
    refine g_iconst (pc := 118) C 0 dX7_one_118 (by decide) ?_
    exact g_sub [0, 1, 2, 3, 4] rfl (J119 a2_118 a3_118 a4_118 0 ha2_118 ha3_118 ha4_118 (zi_c 0 (a := 0) (b := 1) (by decide)))
  refine g_sub (lv' := [(0, .ref (ad 0)), (1, .int p0)]) [0, 1] rfl ?_
  refine g_iload_n (pc := 0) C dX7_one_0 rfl 1 rfl ?_
  refine g_bipush (pc := 1) C 6 dX7_one_1 (by decide) ?_
  refine g_ishr (pc := 3) C dX7_one_3 (fun z1 ez1 => ?_)
  have hz1 : zI 16 31 z1 := zi_shr 6 hp0 (by decide) ez1 (by decide)
  refine g_bipush (pc := 4) C 15 dX7_one_4 (by decide) ?_
  refine g_iand (pc := 6) C dX7_one_6 (fun z2 ez2 => ?_)
  have hz2 : zI 0 15 z2 := zi_and15 hz1 ez2 1 (by decide)
  refine g_istore_n (pc := 7) C ([(2, .int z2), (0, .ref (ad 0)), (1, .int p0)]) dX7_one_7 rfl (Nat.le_of_ble_eq_true rfl) rfl ?_
  refine g_aload_n (pc := 8) C dX7_one_8 rfl 1 rfl ?_
  refine g_iload_n (pc := 9) C dX7_one_9 rfl 2 rfl ?_
  refine g_bipush (pc := 10) C 63 dX7_one_10 (by decide) ?_
  refine g_iand (pc := 12) C dX7_one_12 (fun z3 ez3 => ?_)
  have hz3 : zI 0 63 z3 := zi_and1 (zi_c 63 (a := 0) (b := 63) (by decide)) ez3
  refine g_iconst (pc := 13) C 0 dX7_one_13 (by decide) ?_
  refine zcallVi (pc := 14) (st := []) C C.2.2.2.2.2 (n_X7_operand l D ad cy tl A z3 0) (cwV 2 C.2.2.2.2.1 gw_RX7_155 rfl rfl rfl cd_X7_operand ⟨Nat.le_of_ble_eq_true rfl, Nat.le_of_ble_eq_true rfl⟩) (hr_0 C) rfl rfl (Nat.le_of_ble_eq_true rfl) ⟨Nat.le_of_ble_eq_true rfl, Nat.le_of_ble_eq_true rfl⟩ dX7_one_14 (fun r4 => ?_)
  refine g_and (M2 := (zMr D A ad cy tl)) (fun hr4 => ?_)
  refine g_istore_n (pc := 17) C ([(3, .int r4), (2, .int z2), (0, .ref (ad 0)), (1, .int p0)]) dX7_one_17 rfl (Nat.le_of_ble_eq_true rfl) rfl ?_
  refine g_iload_n (pc := 18) C dX7_one_18 rfl 1 rfl ?_
  refine g_lookupI (pc := 19) C 0 15 (zi_w hz2 (a' := 0) (b' := 0 + (15 : Nat)) (by decide)) [60, 72, 82, 140, 120] dX7_one_19 (by decide) (by decide) (List.forall_mem_cons.mpr ⟨?_, (List.forall_mem_cons.mpr ⟨?_, (List.forall_mem_cons.mpr ⟨?_, (List.forall_mem_cons.mpr ⟨?_, (List.forall_mem_cons.mpr ⟨?_, fun _ h => absurd h List.not_mem_nil⟩)⟩)⟩)⟩)⟩)
  · refine g_aload_n (pc := 60) C dX7_one_60 rfl 2 rfl ?_
    refine g_iload_n (pc := 61) C dX7_one_61 rfl 0 rfl ?_
    refine zcallVv (pc := 62) (st := []) C C.2.2.2.2.2 (n_X7_enter l D ad cy tl A r4) (cwV 1 C.2.2.2.2.1 gw_RX7_177 rfl rfl rfl cd_X7_enter ⟨Nat.le_of_ble_eq_true rfl, Nat.le_of_ble_eq_true rfl⟩) (hr_0 C) rfl rfl (Nat.le_of_ble_eq_true rfl) ⟨Nat.le_of_ble_eq_true rfl, Nat.le_of_ble_eq_true rfl⟩ dX7_one_62 ?_
    refine g_aload_n (pc := 65) C dX7_one_65 rfl 2 rfl ?_
    refine g_iconst (pc := 66) C 1 dX7_one_66 (by decide) ?_
    refine pr_0_23 (pc := 67) C wk_716 (zi_c 1 (a := 0) (b := 1) (by decide)) dX7_one_67 ?_
    refine g_iconst (pc := 70) C 1 dX7_one_70 (by decide) ?_
    exact g_ireturn r dX7_one_71 rfl (fun _ h => ⟨(zi_c 1 (a := 0) (b := 1) (by decide)), h⟩)
  · refine g_aload_n (pc := 72) C dX7_one_72 rfl 2 rfl ?_
    refine g_iload_n (pc := 73) C dX7_one_73 rfl 0 rfl ?_
    refine g_ldc (pc := 74) C dX7_one_74 (C.wd wk_792) ?_
    refine g_iand (pc := 76) C dX7_one_76 (fun z5 ez5 => ?_)
    have vz5 : zEv z5 := zev_and ez5
    have hz5 : zI 0 65534 z5 := zi_and1 (zi_c 65534 (a := 0) (b := 65534) (by decide)) ez5
    refine pr_0_16 (pc := 77) C wk_709 dX7_one_77 ?_
    refine g_iconst (pc := 80) C 1 dX7_one_80 (by decide) ?_
    exact g_ireturn r dX7_one_81 rfl (fun _ h => ⟨(zi_c 1 (a := 0) (b := 1) (by decide)), h⟩)
  · refine g_aload_n (pc := 82) C dX7_one_82 rfl 2 rfl ?_
    refine g_iload_n (pc := 83) C dX7_one_83 rfl 0 rfl ?_
    refine zcallVi (pc := 84) (st := []) C C.2.2.2.2.2 (n_X7_readWord l D ad cy tl A r4) (cwV 1 C.2.2.2.2.1 gw_RX7_122 rfl rfl rfl cd_X7_readWord ⟨Nat.le_of_ble_eq_true rfl, Nat.le_of_ble_eq_true rfl⟩) (hr_0 C) rfl rfl (Nat.le_of_ble_eq_true rfl) ⟨Nat.le_of_ble_eq_true rfl, Nat.le_of_ble_eq_true rfl⟩ dX7_one_84 (fun r6 => ?_)
    refine g_and (M2 := (zMr D A ad cy tl)) (fun hr6 => ?_)
    refine g_istore (pc := 87) C ([(4, .int r6), (3, .int r4), (2, .int z2), (0, .ref (ad 0)), (1, .int p0)]) dX7_one_87 (Nat.le_of_ble_eq_true rfl) rfl ?_
    refine g_iload (pc := 89) C dX7_one_89 0 rfl ?_
    refine g_sipush (pc := 91) C 1152 dX7_one_91 (by decide) ?_
    refine g_icmp_lt (pc := 94) C 105 dX7_one_94 (by decide) (fun c7 => ?_) (fun c7 => ?_)
    · have h8 : zI 0 1151 r6 := zr_lt1 (zc_lt c7) hr6 (zi_c 1152 (a := 1152) (b := 1152) (by decide)) (by decide)
      refine g_aload_n (pc := 105) C dX7_one_105 rfl 3 rfl ?_
      refine g_iload (pc := 106) C dX7_one_106 0 rfl ?_
      refine zcallVi (pc := 108) (st := []) C C.2.2.2.2.2 (n_X7_doesA l D ad cy tl A r6 h8) (cwV 1 C.2.2.2.2.1 gw_RX7_196 rfl rfl rfl cd_X7_does ⟨Nat.le_of_ble_eq_true rfl, Nat.le_of_ble_eq_true rfl⟩) (hr_0 C) rfl rfl (Nat.le_of_ble_eq_true rfl) ⟨Nat.le_of_ble_eq_true rfl, Nat.le_of_ble_eq_true rfl⟩ dX7_one_108 (fun r9 => ?_)
      refine g_and (M2 := (zMr D A ad cy tl)) (fun hr9 => ?_)
      refine g_if_eq (pc := 111) C 118 dX7_one_111 (by decide) (fun c10 => ?_) (fun c10 => ?_)
      · have h11 : zI 0 0 r9 := zr_eq c10 hr9 (zi_c 0 (a := 0) (b := 0) (by decide)) (by decide)
        exact g_sub [3, 4, 2, 1, 0] rfl (J118 z2 r4 r6 hz2 hr4 (zi_w h8 (a' := 0) (b' := 65535) (by decide)))
      · have h12 : zI 1 1 r9 := zr_neL c10 hr9 (zi_c 0 (a := 0) (b := 0) (by decide)) (by decide)
        refine g_iconst (pc := 114) C 1 dX7_one_114 (by decide) ?_
        refine g_goto (pc := 115) C 119 dX7_one_115 (by decide) ?_
        exact g_sub [3, 4, 2, 1, 0] rfl (J119 z2 r4 r6 1 hz2 hr4 (zi_w h8 (a' := 0) (b' := 65535) (by decide)) (zi_c 1 (a := 0) (b := 1) (by decide)))
    · have h13 : zI 1152 65535 r6 := zr_le2 (zc_nlt c7) (zi_c 1152 (a := 1152) (b := 1152) (by decide)) hr6 (by decide)
      refine g_iload (pc := 97) C dX7_one_97 0 rfl ?_
      refine g_sipush (pc := 99) C 1215 dX7_one_99 (by decide) ?_
      refine g_icmp_le (pc := 102) C 118 dX7_one_102 (by decide) (fun c14 => ?_) (fun c14 => ?_)
      · have h15 : zI 1152 1215 r6 := zr_le1 (zc_le c14) h13 (zi_c 1215 (a := 1215) (b := 1215) (by decide)) (by decide)
        exact g_sub [3, 4, 2, 1, 0] rfl (J118 z2 r4 r6 hz2 hr4 (zi_w h15 (a' := 0) (b' := 65535) (by decide)))
      · have h16 : zI 1216 65535 r6 := zr_lt2 (zc_nle c14) (zi_c 1215 (a := 1215) (b := 1215) (by decide)) h13 (by decide)
        refine g_aload_n (pc := 105) C dX7_one_105 rfl 3 rfl ?_
        refine g_iload (pc := 106) C dX7_one_106 0 rfl ?_
        refine zcallVi (pc := 108) (st := []) C C.2.2.2.2.2 (n_X7_doesB l D ad cy tl A r6 h16) (cwV 1 C.2.2.2.2.1 gw_RX7_196 rfl rfl rfl cd_X7_does ⟨Nat.le_of_ble_eq_true rfl, Nat.le_of_ble_eq_true rfl⟩) (hr_0 C) rfl rfl (Nat.le_of_ble_eq_true rfl) ⟨Nat.le_of_ble_eq_true rfl, Nat.le_of_ble_eq_true rfl⟩ dX7_one_108 (fun r17 => ?_)
        refine g_and (M2 := (zMr D A ad cy tl)) (fun hr17 => ?_)
        refine g_if_eq (pc := 111) C 118 dX7_one_111 (by decide) (fun c18 => ?_) (fun c18 => ?_)
        · have h19 : zI 0 0 r17 := zr_eq c18 hr17 (zi_c 0 (a := 0) (b := 0) (by decide)) (by decide)
          exact g_sub [3, 4, 2, 1, 0] rfl (J118 z2 r4 r6 hz2 hr4 (zi_w h16 (a' := 0) (b' := 65535) (by decide)))
        · have h20 : zI 1 1 r17 := zr_neL c18 hr17 (zi_c 0 (a := 0) (b := 0) (by decide)) (by decide)
          refine g_iconst (pc := 114) C 1 dX7_one_114 (by decide) ?_
          refine g_goto (pc := 115) C 119 dX7_one_115 (by decide) ?_
          exact g_sub [3, 4, 2, 1, 0] rfl (J119 z2 r4 r6 1 hz2 hr4 (zi_w h16 (a' := 0) (b' := 65535) (by decide)) (zi_c 1 (a := 0) (b := 1) (by decide)))
  · refine g_iload_n (pc := 140) C dX7_one_140 rfl 1 rfl ?_
    refine g_bipush (pc := 141) C 13 dX7_one_141 (by decide) ?_
    refine g_icmp_le (pc := 143) C 148 dX7_one_143 (by decide) (fun c21 => ?_) (fun c21 => ?_)
    · have h22 : zI 0 13 z2 := zr_le1 (zc_le c21) hz2 (zi_c 13 (a := 13) (b := 13) (by decide)) (by decide)
      refine g_aload_n (pc := 148) C dX7_one_148 rfl 2 rfl ?_
      refine g_iload_n (pc := 149) C dX7_one_149 rfl 1 rfl ?_
      refine g_iload_n (pc := 150) C dX7_one_150 rfl 0 rfl ?_
      refine zcallVv (pc := 151) (st := []) C C.2.2.2.2.2 (n_X7_changes l D ad cy tl A z2 r4) (cwV 2 C.2.2.2.2.1 gw_RX7_199 rfl rfl rfl cd_X7_changes ⟨Nat.le_of_ble_eq_true rfl, Nat.le_of_ble_eq_true rfl⟩) (hr_0 C) rfl rfl (Nat.le_of_ble_eq_true rfl) ⟨Nat.le_of_ble_eq_true rfl, Nat.le_of_ble_eq_true rfl⟩ dX7_one_151 ?_
      refine g_iconst (pc := 154) C 1 dX7_one_154 (by decide) ?_
      exact g_ireturn r dX7_one_155 rfl (fun _ h => ⟨(zi_c 1 (a := 0) (b := 1) (by decide)), h⟩)
    · have h23 : zI 14 15 z2 := zr_lt2 (zc_nle c21) (zi_c 13 (a := 13) (b := 13) (by decide)) hz2 (by decide)
      refine g_iconst (pc := 146) C 0 dX7_one_146 (by decide) ?_
      exact g_ireturn r dX7_one_147 rfl (fun _ h => ⟨(zi_c 0 (a := 0) (b := 1) (by decide)), h⟩)
  · refine g_aload_n (pc := 120) C dX7_one_120 rfl 2 rfl ?_
    refine g_bipush (pc := 121) C 11 dX7_one_121 (by decide) ?_
    refine g_aload_n (pc := 123) C dX7_one_123 rfl 2 rfl ?_
    refine gr_0_16 (pc := 124) C wk_709 dX7_one_124 (fun z24 => ?_)
    refine zcallVv (pc := 127) (st := []) C C.2.2.2.2.2 (n_X7_register_ l D ad cy tl A 11 z24) (cwV 2 C.2.2.2.2.1 gw_RX7_149 rfl rfl rfl cd_X7_register_ ⟨Nat.le_of_ble_eq_true rfl, Nat.le_of_ble_eq_true rfl⟩) (hr_0 C) rfl rfl (Nat.le_of_ble_eq_true rfl) ⟨Nat.le_of_ble_eq_true rfl, Nat.le_of_ble_eq_true rfl⟩ dX7_one_127 ?_
    refine g_aload_n (pc := 130) C dX7_one_130 rfl 2 rfl ?_
    refine g_iload_n (pc := 131) C dX7_one_131 rfl 0 rfl ?_
    refine g_ldc (pc := 132) C dX7_one_132 (C.wd wk_792) ?_
    refine g_iand (pc := 134) C dX7_one_134 (fun z25 ez25 => ?_)
    have vz25 : zEv z25 := zev_and ez25
    have hz25 : zI 0 65534 z25 := zi_and1 (zi_c 65534 (a := 0) (b := 65534) (by decide)) ez25
    refine pr_0_16 (pc := 135) C wk_709 dX7_one_135 ?_
    refine g_iconst (pc := 138) C 1 dX7_one_138 (by decide) ?_
    exact g_ireturn r dX7_one_139 rfl (fun _ h => ⟨(zi_c 1 (a := 0) (b := 1) (by decide)), h⟩)

set_option maxHeartbeats 2000000 in
set_option maxRecDepth 100000 in
theorem n_X7_doesC (l : Launch) (D : va_G) (ad : Nat → Nat) (cy : Nat → ClassId) (tl : Int32) (A : Nat → Prop) (p0 : Int32) (hp0 : zI 0 65535 p0) : zMi l yX7_does wz_X7_does ({ frames := 11, cells := 0, slots := 0, locals := 258 }) [.ref (ad 0), .int p0] D (zTr cy) A (zMr D A ad cy tl) (fun r H => zI 0 1 r ∧ (zMr D A ad cy tl) H) := by
  refine zstart_i (cc := cX7_does) (maxL := 2) (ty := .boolean) (own := RX7) (by decide) rfl rfl (Nat.le_of_ble_eq_true rfl) (fun p e s m args below meth c Q C r => ?_)
  have J67 : ∀ (_ : zI 0 4095 p0), zG p l e ({ frames := 11, cells := 0, slots := 0, locals := 258 }) s m args below meth c 2 0 0 A Q (zMr D A ad cy tl) 67 [(0, .ref (ad 0)), (1, .int p0)] [] := by
    intro hc_a1_67
    refine g_iconst (pc := 67) C 0 dX7_does_67 (by decide) ?_
    exact g_ireturn r dX7_does_68 rfl (fun _ h => ⟨(zi_c 0 (a := 0) (b := 1) (by decide)), h⟩)
  have J103 : ∀ (b0_103 : Int32) (_ : zI 512 2047 p0) (_ : zI 0 1 b0_103), zG p l e ({ frames := 11, cells := 0, slots := 0, locals := 258 }) s m args below meth c 2 0 0 A Q (zMr D A ad cy tl) 103 [(0, .ref (ad 0)), (1, .int p0)] [.int b0_103] := by
    intro b0_103 hc_a1_103 hb0_103
    exact g_ireturn r dX7_does_103 (zn_bool hb0_103) (fun _ h => ⟨hb0_103, h⟩)
  refine g_sub (lv' := [(0, .ref (ad 0)), (1, .int p0)]) [0, 1] rfl ?_
  refine g_iload_n (pc := 0) C dX7_does_0 rfl 1 rfl ?_
  refine g_sipush (pc := 1) C 16384 dX7_does_1 (by decide) ?_
  refine g_icmp_lt (pc := 4) C 13 dX7_does_4 (by decide) (fun c1 => ?_) (fun c1 => ?_)
  · have h2 : zI 0 16383 p0 := zr_lt1 (zc_lt c1) hp0 (zi_c 16384 (a := 16384) (b := 16384) (by decide)) (by decide)
    refine g_iload_n (pc := 13) C dX7_does_13 rfl 1 rfl ?_
    refine g_sipush (pc := 14) C 8192 dX7_does_14 (by decide) ?_
    refine g_icmp_lt (pc := 17) C 26 dX7_does_17 (by decide) (fun c3 => ?_) (fun c3 => ?_)
    · have h4 : zI 0 8191 p0 := zr_lt1 (zc_lt c3) h2 (zi_c 8192 (a := 8192) (b := 8192) (by decide)) (by decide)
      refine g_iload_n (pc := 26) C dX7_does_26 rfl 1 rfl ?_
      refine g_sipush (pc := 27) C 4096 dX7_does_27 (by decide) ?_
      refine g_icmp_lt (pc := 30) C 40 dX7_does_30 (by decide) (fun c5 => ?_) (fun c5 => ?_)
      · have h6 : zI 0 4095 p0 := zr_lt1 (zc_lt c5) h4 (zi_c 4096 (a := 4096) (b := 4096) (by decide)) (by decide)
        refine g_iload_n (pc := 40) C dX7_does_40 rfl 1 rfl ?_
        refine g_sipush (pc := 41) C 3072 dX7_does_41 (by decide) ?_
        refine g_icmp_ge (pc := 44) C 67 dX7_does_44 (by decide) (fun c7 => ?_) (fun c7 => ?_)
        · have h8 : zI 3072 4095 p0 := zr_le2 (zc_le c7) (zi_c 3072 (a := 3072) (b := 3072) (by decide)) h6 (by decide)
          exact g_sub [0, 1] rfl (J67 (zi_w h8 (a' := 0) (b' := 4095) (by decide)))
        · have h9 : zI 0 3071 p0 := zr_lt1 (zc_nle c7) h6 (zi_c 3072 (a := 3072) (b := 3072) (by decide)) (by decide)
          refine g_iload_n (pc := 47) C dX7_does_47 rfl 1 rfl ?_
          refine g_sipush (pc := 48) C 512 dX7_does_48 (by decide) ?_
          refine g_icmp_lt (pc := 51) C 67 dX7_does_51 (by decide) (fun c10 => ?_) (fun c10 => ?_)
          · have h11 : zI 0 511 p0 := zr_lt1 (zc_lt c10) h9 (zi_c 512 (a := 512) (b := 512) (by decide)) (by decide)
            exact g_sub [0, 1] rfl (J67 (zi_w h11 (a' := 0) (b' := 4095) (by decide)))
          · have h12 : zI 512 3071 p0 := zr_le2 (zc_nlt c10) (zi_c 512 (a := 512) (b := 512) (by decide)) h9 (by decide)
            refine g_iload_n (pc := 54) C dX7_does_54 rfl 1 rfl ?_
            refine g_sipush (pc := 55) C 1920 dX7_does_55 (by decide) ?_
            refine g_sipush (pc := 58) C 2047 dX7_does_58 (by decide) ?_
            refine zcallSi (pc := 61) (st := []) C C.2.2.2.2.2 (n_X7_in l D ad cy tl A p0 1920 2047 1920 2047 (by decide) (by decide)) (va_cwS 3 C.2.2.2.2.1 gw_RX7_47 rfl rfl rfl cs_X7_in ⟨Nat.le_of_ble_eq_true rfl, Nat.le_of_ble_eq_true rfl⟩) rfl rfl (Nat.le_of_ble_eq_true rfl) ⟨Nat.le_of_ble_eq_true rfl, Nat.le_of_ble_eq_true rfl⟩ dX7_does_61 (fun r13 => ?_)
            refine g_and (M2 := (zMr D A ad cy tl)) (fun hr13 => ?_)
            have kr13 := zin_01 hr13
            refine g_if_eq (pc := 64) C 69 dX7_does_64 (by decide) (fun c14 => ?_) (fun c14 => ?_)
            · have h15 : zI 0 0 r13 := zr_eq c14 kr13 (zi_c 0 (a := 0) (b := 0) (by decide)) (by decide)
              refine g_iload_n (pc := 69) C dX7_does_69 rfl 1 rfl ?_
              refine g_sipush (pc := 70) C 2048 dX7_does_70 (by decide) ?_
              refine g_icmp_lt (pc := 73) C 83 dX7_does_73 (by decide) (fun c16 => ?_) (fun c16 => ?_)
              · have h17 : zI 512 2047 p0 := zr_lt1 (zc_lt c16) h12 (zi_c 2048 (a := 2048) (b := 2048) (by decide)) (by decide)
                refine g_iload_n (pc := 83) C dX7_does_83 rfl 1 rfl ?_
                refine g_sipush (pc := 84) C 1024 dX7_does_84 (by decide) ?_
                refine g_icmp_lt (pc := 87) C 98 dX7_does_87 (by decide) (fun c18 => ?_) (fun c18 => ?_)
                · have h19 : zI 512 1023 p0 := zr_lt1 (zc_lt c18) h17 (zi_c 1024 (a := 1024) (b := 1024) (by decide)) (by decide)
                  refine g_aload_n (pc := 98) C dX7_does_98 rfl 0 rfl ?_
                  refine g_iload_n (pc := 99) C dX7_does_99 rfl 1 rfl ?_
                  refine zcallVi (pc := 100) (st := []) C C.2.2.2.2.2 (n_X7_told l D ad cy tl A p0) (cwV 1 C.2.2.2.2.1 gw_RX7_230 rfl rfl rfl cd_X7_told ⟨Nat.le_of_ble_eq_true rfl, Nat.le_of_ble_eq_true rfl⟩) (hr_0 C) rfl rfl (Nat.le_of_ble_eq_true rfl) ⟨Nat.le_of_ble_eq_true rfl, Nat.le_of_ble_eq_true rfl⟩ dX7_does_100 (fun r20 => ?_)
                  refine g_and (M2 := (zMr D A ad cy tl)) (fun hr20 => ?_)
                  exact g_sub [0, 1] rfl (J103 r20 (zi_w h19 (a' := 512) (b' := 2047) (by decide)) hr20)
                · have h21 : zI 1024 2047 p0 := zr_le2 (zc_nlt c18) (zi_c 1024 (a := 1024) (b := 1024) (by decide)) h17 (by decide)
                  refine g_aload_n (pc := 90) C dX7_does_90 rfl 0 rfl ?_
                  refine g_iload_n (pc := 91) C dX7_does_91 rfl 1 rfl ?_
                  refine zcallVi (pc := 92) (st := []) C C.2.2.2.2.2 (n_X7_oneC l D ad cy tl A p0 h21) (cwV 1 C.2.2.2.2.1 gw_RX7_227 rfl rfl rfl cd_X7_one ⟨Nat.le_of_ble_eq_true rfl, Nat.le_of_ble_eq_true rfl⟩) (hr_0 C) rfl rfl (Nat.le_of_ble_eq_true rfl) ⟨Nat.le_of_ble_eq_true rfl, Nat.le_of_ble_eq_true rfl⟩ dX7_does_92 (fun r22 => ?_)
                  refine g_and (M2 := (zMr D A ad cy tl)) (fun hr22 => ?_)
                  refine g_goto (pc := 95) C 103 dX7_does_95 (by decide) ?_
                  exact g_sub [0, 1] rfl (J103 r22 (zi_w h21 (a' := 512) (b' := 2047) (by decide)) hr22)
              · have h23 : zI 2048 3071 p0 := zr_le2 (zc_nlt c16) (zi_c 2048 (a := 2048) (b := 2048) (by decide)) h12 (by decide)
                refine g_aload_n (pc := 76) C dX7_does_76 rfl 0 rfl ?_
                refine g_iload_n (pc := 77) C dX7_does_77 rfl 1 rfl ?_
                refine zcallVv (pc := 78) (st := []) C C.2.2.2.2.2 (n_X7_shift l D ad cy tl A p0) (cwV 1 C.2.2.2.2.1 gw_RX7_224 rfl rfl rfl cd_X7_shift ⟨Nat.le_of_ble_eq_true rfl, Nat.le_of_ble_eq_true rfl⟩) (hr_0 C) rfl rfl (Nat.le_of_ble_eq_true rfl) ⟨Nat.le_of_ble_eq_true rfl, Nat.le_of_ble_eq_true rfl⟩ dX7_does_78 ?_
                refine g_iconst (pc := 81) C 1 dX7_does_81 (by decide) ?_
                exact g_ireturn r dX7_does_82 rfl (fun _ h => ⟨(zi_c 1 (a := 0) (b := 1) (by decide)), h⟩)
            · have h24 : zI 1920 2047 p0 := zin_1 hr13 c14
              have h25 : zI 1 1 r13 := zr_neL c14 kr13 (zi_c 0 (a := 0) (b := 0) (by decide)) (by decide)
              exact g_sub [0, 1] rfl (J67 (zi_w h24 (a' := 0) (b' := 4095) (by decide)))
      · have h26 : zI 4096 8191 p0 := zr_le2 (zc_nlt c5) (zi_c 4096 (a := 4096) (b := 4096) (by decide)) h4 (by decide)
        refine g_aload_n (pc := 33) C dX7_does_33 rfl 0 rfl ?_
        refine g_iload_n (pc := 34) C dX7_does_34 rfl 1 rfl ?_
        refine zcallVv (pc := 35) (st := []) C C.2.2.2.2.2 (n_X7_jump l D ad cy tl A p0) (cwV 1 C.2.2.2.2.1 gw_RX7_221 rfl rfl rfl cd_X7_jump ⟨Nat.le_of_ble_eq_true rfl, Nat.le_of_ble_eq_true rfl⟩) (hr_0 C) rfl rfl (Nat.le_of_ble_eq_true rfl) ⟨Nat.le_of_ble_eq_true rfl, Nat.le_of_ble_eq_true rfl⟩ dX7_does_35 ?_
        refine g_iconst (pc := 38) C 1 dX7_does_38 (by decide) ?_
        exact g_ireturn r dX7_does_39 rfl (fun _ h => ⟨(zi_c 1 (a := 0) (b := 1) (by decide)), h⟩)
    · have h27 : zI 8192 16383 p0 := zr_le2 (zc_nlt c3) (zi_c 8192 (a := 8192) (b := 8192) (by decide)) h2 (by decide)
      refine g_aload_n (pc := 20) C dX7_does_20 rfl 0 rfl ?_
      refine g_iload_n (pc := 21) C dX7_does_21 rfl 1 rfl ?_
      refine zcallVi (pc := 22) (st := []) C C.2.2.2.2.2 (n_X7_withRegister l D ad cy tl A p0) (cwV 1 C.2.2.2.2.1 gw_RX7_218 rfl rfl rfl cd_X7_withRegister ⟨Nat.le_of_ble_eq_true rfl, Nat.le_of_ble_eq_true rfl⟩) (hr_0 C) rfl rfl (Nat.le_of_ble_eq_true rfl) ⟨Nat.le_of_ble_eq_true rfl, Nat.le_of_ble_eq_true rfl⟩ dX7_does_22 (fun r28 => ?_)
      refine g_and (M2 := (zMr D A ad cy tl)) (fun hr28 => ?_)
      exact g_ireturn r dX7_does_25 (zn_bool hr28) (fun _ h => ⟨hr28, h⟩)
  · have h29 : zI 16384 65535 p0 := zr_le2 (zc_nlt c1) (zi_c 16384 (a := 16384) (b := 16384) (by decide)) hp0 (by decide)
    refine g_aload_n (pc := 7) C dX7_does_7 rfl 0 rfl ?_
    refine g_iload_n (pc := 8) C dX7_does_8 rfl 1 rfl ?_
    refine zcallVi (pc := 9) (st := []) C C.2.2.2.2.2 (n_X7_two l D ad cy tl A p0) (cwV 1 C.2.2.2.2.1 gw_RX7_215 rfl rfl rfl cd_X7_two ⟨Nat.le_of_ble_eq_true rfl, Nat.le_of_ble_eq_true rfl⟩) (hr_0 C) rfl rfl (Nat.le_of_ble_eq_true rfl) ⟨Nat.le_of_ble_eq_true rfl, Nat.le_of_ble_eq_true rfl⟩ dX7_does_9 (fun r30 => ?_)
    refine g_and (M2 := (zMr D A ad cy tl)) (fun hr30 => ?_)
    exact g_ireturn r dX7_does_12 (zn_bool hr30) (fun _ h => ⟨hr30, h⟩)

set_option maxHeartbeats 2000000 in
set_option maxRecDepth 100000 in
theorem n_X7_isAsked (l : Launch) (D : va_G) (ad : Nat → Nat) (cy : Nat → ClassId) (tl : Int32) (A : Nat → Prop) (p0 : Int32) (hp0 : zI 1 15 p0) : zMi l yX7_isAsked wz_X7_isAsked ({ frames := 0, cells := 0, slots := 0, locals := 0 }) [.ref (ad 0), .int p0] D (zTr cy) A (zMr D A ad cy tl) (fun r H => zI 0 1 r ∧ (zMr D A ad cy tl) H) := by
  refine zstart_i (cc := cX7_isAsked) (maxL := 2) (ty := .boolean) (own := RX7) (by decide) rfl rfl (Nat.le_of_ble_eq_true rfl) (fun p e s m args below meth c Q C r => ?_)
  have J47 : ∀ (b0_47 : Int32) (_ : zI 0 1 b0_47), zG p l e ({ frames := 0, cells := 0, slots := 0, locals := 0 }) s m args below meth c 2 0 0 A Q (zMr D A ad cy tl) 47 [(0, .ref (ad 0)), (1, .int p0)] [.int b0_47] := by
    intro b0_47 hb0_47
    exact g_ireturn r dX7_isAsked_47 (zn_bool hb0_47) (fun _ h => ⟨hb0_47, h⟩)
  have J37 : ∀ (_ : zI 1 1 p0), zG p l e ({ frames := 0, cells := 0, slots := 0, locals := 0 }) s m args below meth c 2 0 0 A Q (zMr D A ad cy tl) 37 [(0, .ref (ad 0)), (1, .int p0)] [] := by
    intro hc_a1_37
    refine g_iconst (pc := 37) C 0 dX7_isAsked_37 (by decide) ?_
    refine g_goto (pc := 38) C 47 dX7_isAsked_38 (by decide) ?_
    exact g_sub [0, 1] rfl (J47 0 (zi_c 0 (a := 0) (b := 1) (by decide)))
  refine g_sub (lv' := [(0, .ref (ad 0)), (1, .int p0)]) [0, 1] rfl ?_
  refine g_iload_n (pc := 0) C dX7_isAsked_0 rfl 1 rfl ?_
  refine g_iconst (pc := 1) C 1 dX7_isAsked_1 (by decide) ?_
  refine g_icmp_ne (pc := 2) C 41 dX7_isAsked_2 (by decide) (fun c1 => ?_) (fun c1 => ?_)
  · have h2 : zI 2 15 p0 := zr_neL c1 hp0 (zi_c 1 (a := 1) (b := 1) (by decide)) (by decide)
    refine g_aload_n (pc := 41) C dX7_isAsked_41 rfl 0 rfl ?_
    refine gr_0_22 (pc := 42) C wk_715 dX7_isAsked_42 ?_
    refine g_iload_n (pc := 45) C dX7_isAsked_45 rfl 1 rfl ?_
    refine lr_8 (pc := 46) C (zi_in h2 (by decide)) dX7_isAsked_46 (fun z3 hz3 => ?_)
    exact g_sub [0, 1] rfl (J47 z3 hz3)
  · have h4 : zI 1 1 p0 := zr_eq c1 hp0 (zi_c 1 (a := 1) (b := 1) (by decide)) (by decide)
    refine g_aload_n (pc := 5) C dX7_isAsked_5 rfl 0 rfl ?_
    refine gr_0_9 (pc := 6) C wk_702 dX7_isAsked_6 (fun z5 => ?_)
    refine g_if_eq (pc := 9) C 37 dX7_isAsked_9 (by decide) (fun c6 => ?_) (fun c6 => ?_)
    · have h7 : zI 0 0 z5 := zr_eq c6 (zi_full z5) (zi_c 0 (a := 0) (b := 0) (by decide)) (by decide)
      exact g_sub [0, 1] rfl (J37 h4)
    · refine g_aload_n (pc := 12) C dX7_isAsked_12 rfl 0 rfl ?_
      refine gr_0_10 (pc := 13) C wk_703 dX7_isAsked_13 ?_
      refine g_iconst (pc := 16) C 1 dX7_isAsked_16 (by decide) ?_
      refine lr_5 (pc := 17) C (zi_in (zi_c 1 (a := 1) (b := 1) (by decide)) (by decide)) dX7_isAsked_17 (fun z8 hz8 => ?_)
      refine g_bipush (pc := 18) C 32 dX7_isAsked_18 (by decide) ?_
      refine g_iand (pc := 20) C dX7_isAsked_20 (fun z9 ez9 => ?_)
      have hz9 : zI 0 32 z9 := zi_and1 (zi_c 32 (a := 0) (b := 32) (by decide)) ez9
      refine g_if_eq (pc := 21) C 37 dX7_isAsked_21 (by decide) (fun c10 => ?_) (fun c10 => ?_)
      · have h11 : zI 0 0 z9 := zr_eq c10 hz9 (zi_c 0 (a := 0) (b := 0) (by decide)) (by decide)
        exact g_sub [0, 1] rfl (J37 h4)
      · have h12 : zI 1 32 z9 := zr_neL c10 hz9 (zi_c 0 (a := 0) (b := 0) (by decide)) (by decide)
        refine g_aload_n (pc := 24) C dX7_isAsked_24 rfl 0 rfl ?_
        refine gr_0_14 (pc := 25) C wk_707 dX7_isAsked_25 ?_
        refine g_iconst (pc := 28) C 2 dX7_isAsked_28 (by decide) ?_
        refine lr_6 (pc := 29) C (zi_in (zi_c 2 (a := 2) (b := 2) (by decide)) (by decide)) dX7_isAsked_29 (fun z13 => ?_)
        refine g_if_eq (pc := 30) C 37 dX7_isAsked_30 (by decide) (fun c14 => ?_) (fun c14 => ?_)
        · have h15 : zI 0 0 z13 := zr_eq c14 (zi_full z13) (zi_c 0 (a := 0) (b := 0) (by decide)) (by decide)
          exact g_sub [0, 1] rfl (J37 h4)
        · refine g_iconst (pc := 33) C 1 dX7_isAsked_33 (by decide) ?_
          refine g_goto (pc := 34) C 47 dX7_isAsked_34 (by decide) ?_
          exact g_sub [0, 1] rfl (J47 1 (zi_c 1 (a := 0) (b := 1) (by decide)))

set_option maxHeartbeats 2000000 in
set_option maxRecDepth 100000 in
theorem n_X7_interrupted (l : Launch) (D : va_G) (ad : Nat → Nat) (cy : Nat → ClassId) (tl : Int32) (A : Nat → Prop) : zMv l yX7_interrupted wz_X7_interrupted ({ frames := 7, cells := 0, slots := 0, locals := 155 }) [.ref (ad 0)] D (zTr cy) A (zMr D A ad cy tl) (zMr D A ad cy tl) := by
  refine zstart_v (cc := cX7_interrupted) (maxL := 2) (own := RX7) (by decide) rfl rfl (Nat.le_of_ble_eq_true rfl) (fun p e s m args below meth c Q C r => ?_)
  have J40 : ∀ (a1_40 : Int32) (_ : zI 1 16 a1_40), zG p l e ({ frames := 7, cells := 0, slots := 0, locals := 155 }) s m args below meth c 2 0 0 A Q (zMr D A ad cy tl) 40 [(0, .ref (ad 0)), (1, .int a1_40)] [] := by
    intro a1_40 ha1_40
    exact g_return r dX7_interrupted_40 (fun _ h => h)
  have J22 : ∀ (a1_22 : Int32) (_ : zI 1 16 a1_22), zG p l e ({ frames := 7, cells := 0, slots := 0, locals := 155 }) s m args below meth c 2 0 0 A Q (zMr D A ad cy tl) 22 [(0, .ref (ad 0)), (1, .int a1_22)] [] := by
    intro a1_22 ha1_22
    refine g_aload_n (pc := 22) C dX7_interrupted_22 rfl 0 rfl ?_
    refine gr_0_23 (pc := 23) C wk_716 dX7_interrupted_23 (fun z1 => ?_)
    refine g_if_ne (pc := 26) C 40 dX7_interrupted_26 (by decide) (fun c2 => ?_) (fun c2 => ?_)
    · exact g_sub [0, 1] rfl (J40 a1_22 ha1_22)
    · have h3 : zI 0 0 z1 := zr_eq c2 (zi_full z1) (zi_c 0 (a := 0) (b := 0) (by decide)) (by decide)
      refine g_iload_n (pc := 29) C dX7_interrupted_29 rfl 1 rfl ?_
      refine g_aload_n (pc := 30) C dX7_interrupted_30 rfl 0 rfl ?_
      refine gr_0_18 (pc := 31) C wk_711 dX7_interrupted_31 (fun z4 => ?_)
      refine g_bipush (pc := 34) C 15 dX7_interrupted_34 (by decide) ?_
      refine g_iand (pc := 36) C dX7_interrupted_36 (fun z5 ez5 => ?_)
      have hz5 : zI 0 15 z5 := zi_and1 (zi_c 15 (a := 0) (b := 15) (by decide)) ez5
      refine g_icmp_le (pc := 37) C 41 dX7_interrupted_37 (by decide) (fun c6 => ?_) (fun c6 => ?_)
      · have h7 : zI 1 15 a1_22 := zr_le1 (zc_le c6) ha1_22 hz5 (by decide)
        have h8 : zI 1 15 z5 := zr_le2 (zc_le c6) ha1_22 hz5 (by decide)
        refine g_aload_n (pc := 41) C dX7_interrupted_41 rfl 0 rfl ?_
        refine g_iconst (pc := 42) C 4 dX7_interrupted_42 (by decide) ?_
        refine g_iload_n (pc := 43) C dX7_interrupted_43 rfl 1 rfl ?_
        refine g_imul (pc := 44) C dX7_interrupted_44 (fun z9 ez9 => ?_)
        have hz9 : zI 4 60 z9 := zi_mul (zi_c 4 (a := 4) (b := 4) (by decide)) h7 ez9 (by decide)
        refine zcallVv (pc := 45) (st := []) C C.2.2.2.2.2 (n_X7_enter l D ad cy tl A z9) (cwV 1 C.2.2.2.2.1 gw_RX7_177 rfl rfl rfl cd_X7_enter ⟨Nat.le_of_ble_eq_true rfl, Nat.le_of_ble_eq_true rfl⟩) (hr_0 C) rfl rfl (Nat.le_of_ble_eq_true rfl) ⟨Nat.le_of_ble_eq_true rfl, Nat.le_of_ble_eq_true rfl⟩ dX7_interrupted_45 ?_
        refine g_aload_n (pc := 48) C dX7_interrupted_48 rfl 0 rfl ?_
        refine g_aload_n (pc := 49) C dX7_interrupted_49 rfl 0 rfl ?_
        refine gr_0_18 (pc := 50) C wk_711 dX7_interrupted_50 (fun z10 => ?_)
        refine g_bipush (pc := 53) C (-16) dX7_interrupted_53 (by decide) ?_
        refine g_iand (pc := 55) C dX7_interrupted_55 (fun z11 ez11 => ?_)
        refine g_iload_n (pc := 56) C dX7_interrupted_56 rfl 1 rfl ?_
        refine g_iconst (pc := 57) C 1 dX7_interrupted_57 (by decide) ?_
        refine g_isub (pc := 58) C dX7_interrupted_58 (fun z12 ez12 => ?_)
        have hz12 : zI 0 14 z12 := zi_sub h7 (zi_c 1 (a := 1) (b := 1) (by decide)) ez12 (by decide)
        refine g_ior (pc := 59) C dX7_interrupted_59 (fun z13 ez13 => ?_)
        refine pr_0_18 (pc := 60) C wk_711 dX7_interrupted_60 ?_
        refine g_aload_n (pc := 63) C dX7_interrupted_63 rfl 0 rfl ?_
        refine gr_0_22 (pc := 64) C wk_715 dX7_interrupted_64 ?_
        refine g_iload_n (pc := 67) C dX7_interrupted_67 rfl 1 rfl ?_
        refine g_iconst (pc := 68) C 0 dX7_interrupted_68 (by decide) ?_
        refine sr_8 (pc := 69) C (zi_in h7 (by decide)) dX7_interrupted_69 ?_
        refine g_aload_n (pc := 70) C dX7_interrupted_70 rfl 0 rfl ?_
        refine g_dup (pc := 71) C dX7_interrupted_71 rfl ?_
        refine gr_0_21 (pc := 72) C wk_714 dX7_interrupted_72 (fun z14 => ?_)
        refine g_iconst (pc := 75) C 1 dX7_interrupted_75 (by decide) ?_
        refine g_iadd (pc := 76) C dX7_interrupted_76 (fun z15 ez15 => ?_)
        refine pr_0_21 (pc := 77) C wk_714 dX7_interrupted_77 ?_
        refine g_aload_n (pc := 80) C dX7_interrupted_80 rfl 0 rfl ?_
        refine g_iconst (pc := 81) C 1 dX7_interrupted_81 (by decide) ?_
        refine pr_0_23 (pc := 82) C wk_716 (zi_c 1 (a := 0) (b := 1) (by decide)) dX7_interrupted_82 ?_
        refine g_aload_n (pc := 85) C dX7_interrupted_85 rfl 0 rfl ?_
        refine g_iconst (pc := 86) C 0 dX7_interrupted_86 (by decide) ?_
        refine pr_0_19 (pc := 87) C wk_712 dX7_interrupted_87 ?_
        exact g_return r dX7_interrupted_90 (fun _ h => h)
      · exact g_sub [0, 1] rfl (J40 a1_22 ha1_22)
  have J2 : ∀ (n : Nat) (a1_2 : Int32) (_ : zI 1 16 a1_2) (_ : (16 - (a1_2 : Int32).toInt).toNat = n), zG p l e ({ frames := 7, cells := 0, slots := 0, locals := 155 }) s m args below meth c 2 0 0 A Q (zMr D A ad cy tl) 2 [(0, .ref (ad 0)), (1, .int a1_2)] [] := by
    intro n
    induction n using Nat.strongRecOn with
    | ind n ih =>
      intro a1_2 ha1_2 hn
      refine g_iload_n (pc := 2) C dX7_interrupted_2 rfl 1 rfl ?_
      refine g_bipush (pc := 3) C 16 dX7_interrupted_3 (by decide) ?_
      refine g_icmp_ge (pc := 5) C 22 dX7_interrupted_5 (by decide) (fun c16 => ?_) (fun c16 => ?_)
      · have h17 : zI 16 16 a1_2 := zr_le2 (zc_le c16) (zi_c 16 (a := 16) (b := 16) (by decide)) ha1_2 (by decide)
        exact g_sub [0, 1] rfl (J22 a1_2 (zi_w h17 (a' := 1) (b' := 16) (by decide)))
      · have h18 : zI 1 15 a1_2 := zr_lt1 (zc_nle c16) ha1_2 (zi_c 16 (a := 16) (b := 16) (by decide)) (by decide)
        refine g_aload_n (pc := 8) C dX7_interrupted_8 rfl 0 rfl ?_
        refine g_iload_n (pc := 9) C dX7_interrupted_9 rfl 1 rfl ?_
        refine zcallVi (pc := 10) (st := []) C C.2.2.2.2.2 (n_X7_isAsked l D ad cy tl A a1_2 h18) (cwV 1 C.2.2.2.2.1 gw_RX7_233 rfl rfl rfl cd_X7_isAsked ⟨Nat.le_of_ble_eq_true rfl, Nat.le_of_ble_eq_true rfl⟩) (hr_0 C) rfl rfl (Nat.le_of_ble_eq_true rfl) ⟨Nat.le_of_ble_eq_true rfl, Nat.le_of_ble_eq_true rfl⟩ dX7_interrupted_10 (fun r19 => ?_)
        refine g_and (M2 := (zMr D A ad cy tl)) (fun hr19 => ?_)
        refine g_if_ne (pc := 13) C 22 dX7_interrupted_13 (by decide) (fun c20 => ?_) (fun c20 => ?_)
        · have h21 : zI 1 1 r19 := zr_neL c20 hr19 (zi_c 0 (a := 0) (b := 0) (by decide)) (by decide)
          exact g_sub [0, 1] rfl (J22 a1_2 (zi_w h18 (a' := 1) (b' := 16) (by decide)))
        · have h22 : zI 0 0 r19 := zr_eq c20 hr19 (zi_c 0 (a := 0) (b := 0) (by decide)) (by decide)
          obtain ⟨z23, ez23⟩ : ∃ z : Int32, z = a1_2 + 1 := ⟨_, rfl⟩
          have hz23 : zI 2 16 z23 := zi_add h18 (zi_c 1 (a := 1) (b := 1) (by decide)) ez23 (by decide)
          refine g_iinc (pc := 16) C z23 ([(1, .int z23), (0, .ref (ad 0))]) dX7_interrupted_16 1 rfl (by rw [ez23]; rfl) (Nat.le_of_ble_eq_true rfl) rfl ?_
          refine g_goto (pc := 19) C 2 dX7_interrupted_19 (by decide) ?_
          exact g_sub [1, 0] rfl (ih (16 - (z23 : Int32).toInt).toNat (by rw [← hn]; exact zdec ez23 h18 (by decide) (zi_w hz23 (a' := 1) (b' := 16) (by decide))) z23 (zi_w hz23 (a' := 1) (b' := 16) (by decide)) rfl)
  refine g_sub (lv' := [(0, .ref (ad 0))]) [0] rfl ?_
  refine g_iconst (pc := 0) C 1 dX7_interrupted_0 (by decide) ?_
  refine g_istore_n (pc := 1) C ([(1, .int 1), (0, .ref (ad 0))]) dX7_interrupted_1 rfl (Nat.le_of_ble_eq_true rfl) rfl ?_
  exact g_sub [1, 0] rfl (J2 (16 - (1 : Int32).toInt).toNat 1 (zi_c 1 (a := 1) (b := 16) (by decide)) rfl)

set_option maxHeartbeats 2000000 in
set_option maxRecDepth 100000 in
theorem n_X7_run (l : Launch) (D : va_G) (ad : Nat → Nat) (cy : Nat → ClassId) (tl : Int32) (A : Nat → Prop) (p0 : Int32) : zMi l yX7_run wz_X7_run ({ frames := 12, cells := 0, slots := 0, locals := 279 }) [.ref (ad 0), .int p0] D (zTr cy) A (zMr D A ad cy tl) (fun _ => (zMr D A ad cy tl)) := by
  refine zstart_i (cc := cX7_run) (maxL := 4) (ty := .int) (own := RX7) (by decide) rfl rfl (Nat.le_of_ble_eq_true rfl) (fun p e s m args below meth c Q C r => ?_)
  have J107 : ∀ (a2_107 : Int32) (_ : zI 0 2147483647 a2_107), zG p l e ({ frames := 12, cells := 0, slots := 0, locals := 279 }) s m args below meth c 4 0 0 A Q (zMr D A ad cy tl) 107 [(0, .ref (ad 0)), (1, .int p0), (2, .int a2_107)] [] := by
    intro a2_107 ha2_107
    refine g_iload_n (pc := 107) C dX7_run_107 rfl 2 rfl ?_
    exact g_ireturn r dX7_run_108 rfl (fun _ h => h)
  have J31 : ∀ (n : Nat) (a2_31 : Int32) (_ : zI 0 2147483647 a2_31) (_ : (2147483647 - (a2_31 : Int32).toInt).toNat = n), zG p l e ({ frames := 12, cells := 0, slots := 0, locals := 279 }) s m args below meth c 4 0 0 A Q (zMr D A ad cy tl) 31 [(0, .ref (ad 0)), (1, .int p0), (2, .int a2_31)] [] := by
    intro n
    induction n using Nat.strongRecOn with
    | ind n ih =>
      intro a2_31 ha2_31 hn
      refine g_iload_n (pc := 31) C dX7_run_31 rfl 2 rfl ?_
      refine g_iload_n (pc := 32) C dX7_run_32 rfl 1 rfl ?_
      refine g_icmp_ge (pc := 33) C 107 dX7_run_33 (by decide) (fun c1 => ?_) (fun c1 => ?_)
      · exact g_sub [0, 1, 2] rfl (J107 a2_31 ha2_31)
      · have h2 : zI 0 2147483646 a2_31 := zr_lt1 (zc_nle c1) ha2_31 (zi_full p0) (by decide)
        have h3 : zI 1 2147483647 p0 := zr_lt2 (zc_nle c1) ha2_31 (zi_full p0) (by decide)
        refine g_aload_n (pc := 36) C dX7_run_36 rfl 0 rfl ?_
        refine gr_0_19 (pc := 37) C wk_712 dX7_run_37 (fun z4 => ?_)
        refine g_iconst (pc := 40) C 2 dX7_run_40 (by decide) ?_
        refine g_icmp_eq (pc := 41) C 107 dX7_run_41 (by decide) (fun c5 => ?_) (fun c5 => ?_)
        · have h6 : zI 2 2 z4 := zr_eq c5 (zi_full z4) (zi_c 2 (a := 2) (b := 2) (by decide)) (by decide)
          exact g_sub [0, 1, 2] rfl (J107 a2_31 (zi_w h2 (a' := 0) (b' := 2147483647) (by decide)))
        · refine g_aload_n (pc := 44) C dX7_run_44 rfl 0 rfl ?_
          refine zcallVv (pc := 45) (st := []) C C.2.2.2.2.2 (n_X7_interrupted l D ad cy tl A ) (cwV 0 C.2.2.2.2.1 gw_RX7_239 rfl rfl rfl cd_X7_interrupted ⟨Nat.le_of_ble_eq_true rfl, Nat.le_of_ble_eq_true rfl⟩) (hr_0 C) rfl rfl (Nat.le_of_ble_eq_true rfl) ⟨Nat.le_of_ble_eq_true rfl, Nat.le_of_ble_eq_true rfl⟩ dX7_run_45 ?_
          refine g_aload_n (pc := 48) C dX7_run_48 rfl 0 rfl ?_
          refine gr_0_19 (pc := 49) C wk_712 dX7_run_49 (fun z7 => ?_)
          refine g_iconst (pc := 52) C 1 dX7_run_52 (by decide) ?_
          refine g_icmp_ne (pc := 53) C 58 dX7_run_53 (by decide) (fun c8 => ?_) (fun c8 => ?_)
          · refine g_aload_n (pc := 58) C dX7_run_58 rfl 0 rfl ?_
            refine g_iconst (pc := 59) C 0 dX7_run_59 (by decide) ?_
            refine pr_0_23 (pc := 60) C wk_716 (zi_c 0 (a := 0) (b := 1) (by decide)) dX7_run_60 ?_
            refine g_aload_n (pc := 63) C dX7_run_63 rfl 0 rfl ?_
            refine gr_0_16 (pc := 64) C wk_709 dX7_run_64 (fun z9 => ?_)
            refine g_istore_n (pc := 67) C ([(3, .int z9), (0, .ref (ad 0)), (1, .int p0), (2, .int a2_31)]) dX7_run_67 rfl (Nat.le_of_ble_eq_true rfl) rfl ?_
            refine g_aload_n (pc := 68) C dX7_run_68 rfl 1 rfl ?_
            refine g_aload_n (pc := 69) C dX7_run_69 rfl 1 rfl ?_
            refine zcallVi (pc := 70) (st := [.ref (ad 0)]) C C.2.2.2.2.2 (n_X7_nextWord l D ad cy tl A ) (cwV 0 C.2.2.2.2.1 gw_RX7_142 rfl rfl rfl cd_X7_nextWord ⟨Nat.le_of_ble_eq_true rfl, Nat.le_of_ble_eq_true rfl⟩) (hr_0 C) rfl rfl (Nat.le_of_ble_eq_true rfl) ⟨Nat.le_of_ble_eq_true rfl, Nat.le_of_ble_eq_true rfl⟩ dX7_run_70 (fun r10 => ?_)
            refine g_and (M2 := (zMr D A ad cy tl)) (fun hr10 => ?_)
            refine zcallVi (pc := 73) (st := []) C C.2.2.2.2.2 (n_X7_doesC l D ad cy tl A r10 hr10) (cwV 1 C.2.2.2.2.1 gw_RX7_196 rfl rfl rfl cd_X7_does ⟨Nat.le_of_ble_eq_true rfl, Nat.le_of_ble_eq_true rfl⟩) (hr_0 C) rfl rfl (Nat.le_of_ble_eq_true rfl) ⟨Nat.le_of_ble_eq_true rfl, Nat.le_of_ble_eq_true rfl⟩ dX7_run_73 (fun r11 => ?_)
            refine g_and (M2 := (zMr D A ad cy tl)) (fun hr11 => ?_)
            refine g_if_ne (pc := 76) C 91 dX7_run_76 (by decide) (fun c12 => ?_) (fun c12 => ?_)
            · have h13 : zI 1 1 r11 := zr_neL c12 hr11 (zi_c 0 (a := 0) (b := 0) (by decide)) (by decide)
              obtain ⟨z14, ez14⟩ : ∃ z : Int32, z = a2_31 + 1 := ⟨_, rfl⟩
              have hz14 : zI 1 2147483647 z14 := zi_add h2 (zi_c 1 (a := 1) (b := 1) (by decide)) ez14 (by decide)
              refine g_iinc (pc := 91) C z14 ([(2, .int z14), (3, .int z9), (0, .ref (ad 0)), (1, .int p0)]) dX7_run_91 3 rfl (by rw [ez14]; rfl) (Nat.le_of_ble_eq_true rfl) rfl ?_
              refine g_aload_n (pc := 94) C dX7_run_94 rfl 2 rfl ?_
              refine g_dup (pc := 95) C dX7_run_95 rfl ?_
              refine gr_0_20 (pc := 96) C wk_713 dX7_run_96 (fun z15 => ?_)
              refine g_iconst (pc := 99) C 1 dX7_run_99 (by decide) ?_
              refine g_iadd (pc := 100) C dX7_run_100 (fun z16 ez16 => ?_)
              refine pr_0_20 (pc := 101) C wk_713 dX7_run_101 ?_
              refine g_goto (pc := 104) C 31 dX7_run_104 (by decide) ?_
              exact g_sub [2, 3, 0] rfl (ih (2147483647 - (z14 : Int32).toInt).toNat (by rw [← hn]; exact zdec ez14 h2 (by decide) (zi_w hz14 (a' := 0) (b' := 2147483647) (by decide))) z14 (zi_w hz14 (a' := 0) (b' := 2147483647) (by decide)) rfl)
            · have h17 : zI 0 0 r11 := zr_eq c12 hr11 (zi_c 0 (a := 0) (b := 0) (by decide)) (by decide)
              refine g_aload_n (pc := 79) C dX7_run_79 rfl 1 rfl ?_
              refine g_iload_n (pc := 80) C dX7_run_80 rfl 0 rfl ?_
              refine pr_0_16 (pc := 81) C wk_709 dX7_run_81 ?_
              refine g_aload_n (pc := 84) C dX7_run_84 rfl 1 rfl ?_
              refine g_iconst (pc := 85) C 2 dX7_run_85 (by decide) ?_
              refine pr_0_19 (pc := 86) C wk_712 dX7_run_86 ?_
              refine g_iload_n (pc := 89) C dX7_run_89 rfl 3 rfl ?_
              exact g_ireturn r dX7_run_90 rfl (fun _ h => h)
          · have h18 : zI 1 1 z7 := zr_eq c8 (zi_full z7) (zi_c 1 (a := 1) (b := 1) (by decide)) (by decide)
            refine g_iload_n (pc := 56) C dX7_run_56 rfl 2 rfl ?_
            exact g_ireturn r dX7_run_57 rfl (fun _ h => h)
  have J17 : ∀ (b0_17 : Int32) (_ : zI 0 1 b0_17), zG p l e ({ frames := 12, cells := 0, slots := 0, locals := 279 }) s m args below meth c 4 0 0 A Q (zMr D A ad cy tl) 17 [(0, .ref (ad 0)), (1, .int p0)] [.int b0_17, .ref (ad 0)] := by
    intro b0_17 hb0_17
    refine pr_0_0 (pc := 17) C wk_693 dX7_run_17 ?_
    refine g_aload_n (pc := 20) C dX7_run_20 rfl 0 rfl ?_
    refine gr_0_0 (pc := 21) C wk_693 dX7_run_21 (fun z19 => ?_)
    refine g_if_le (pc := 24) C 29 dX7_run_24 (by decide) (fun c20 => ?_) (fun c20 => ?_)
    · have h21 : zI (-2147483648) 0 z19 := zr_le1 (zc_le c20) (zi_full z19) (zi_c 0 (a := 0) (b := 0) (by decide)) (by decide)
      refine g_iconst (pc := 29) C 0 dX7_run_29 (by decide) ?_
      refine g_istore_n (pc := 30) C ([(2, .int 0), (0, .ref (ad 0)), (1, .int p0)]) dX7_run_30 rfl (Nat.le_of_ble_eq_true rfl) rfl ?_
      exact g_sub [1, 2, 0] rfl (J31 (2147483647 - (0 : Int32).toInt).toNat 0 (zi_c 0 (a := 0) (b := 2147483647) (by decide)) rfl)
    · have h22 : zI 1 2147483647 z19 := zr_lt2 (zc_nle c20) (zi_c 0 (a := 0) (b := 0) (by decide)) (zi_full z19) (by decide)
      refine g_iconst (pc := 27) C 0 dX7_run_27 (by decide) ?_
      exact g_ireturn r dX7_run_28 rfl (fun _ h => h)
  refine g_sub (lv' := [(0, .ref (ad 0)), (1, .int p0)]) [0, 1] rfl ?_
  refine g_aload_n (pc := 0) C dX7_run_0 rfl 0 rfl ?_
  refine g_iload_n (pc := 1) C dX7_run_1 rfl 1 rfl ?_
  refine g_iconst (pc := 2) C 0 dX7_run_2 (by decide) ?_
  refine g_sipush (pc := 3) C 2000 dX7_run_3 (by decide) ?_
  refine zcallSi (pc := 6) (st := [.ref (ad 0)]) C C.2.2.2.2.2 (n_X7_in l D ad cy tl A p0 0 2000 0 2000 (by decide) (by decide)) (va_cwS 3 C.2.2.2.2.1 gw_RX7_47 rfl rfl rfl cs_X7_in ⟨Nat.le_of_ble_eq_true rfl, Nat.le_of_ble_eq_true rfl⟩) rfl rfl (Nat.le_of_ble_eq_true rfl) ⟨Nat.le_of_ble_eq_true rfl, Nat.le_of_ble_eq_true rfl⟩ dX7_run_6 (fun r23 => ?_)
  refine g_and (M2 := (zMr D A ad cy tl)) (fun hr23 => ?_)
  have kr23 := zin_01 hr23
  refine g_if_eq (pc := 9) C 16 dX7_run_9 (by decide) (fun c24 => ?_) (fun c24 => ?_)
  · have h25 : zI 0 0 r23 := zr_eq c24 kr23 (zi_c 0 (a := 0) (b := 0) (by decide)) (by decide)
    refine g_iconst (pc := 16) C 1 dX7_run_16 (by decide) ?_
    exact g_sub [0, 1] rfl (J17 1 (zi_c 1 (a := 0) (b := 1) (by decide)))
  · have h26 : zI 0 2000 p0 := zin_1 hr23 c24
    have h27 : zI 1 1 r23 := zr_neL c24 kr23 (zi_c 0 (a := 0) (b := 0) (by decide)) (by decide)
    refine g_iconst (pc := 12) C 0 dX7_run_12 (by decide) ?_
    refine g_goto (pc := 13) C 17 dX7_run_13 (by decide) ?_
    exact g_sub [0, 1] rfl (J17 0 (zi_c 0 (a := 0) (b := 1) (by decide)))

