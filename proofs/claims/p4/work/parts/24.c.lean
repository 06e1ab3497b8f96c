set_option maxHeartbeats 2000000 in
set_option maxRecDepth 100000 in
theorem n_X4_jumps (l : Launch) (D : va_G) (ad : Nat → Nat) (cy : Nat → ClassId) (tl : Int32) (A : Nat → Prop) (p0 : Int32) : zMi l yX4_jumps wz_X4_jumps ({ frames := 0, cells := 0, slots := 0, locals := 0 }) [.ref (ad 19), .int p0] D (zTc cy) A (zMc D A ad cy tl) (fun r H => zI 0 1 r ∧ (zMc D A ad cy tl) H) := by
  refine zstart_i (cc := cX4_jumps) (maxL := 5) (ty := .boolean) (own := RX4) (by decide) rfl rfl (Nat.le_of_ble_eq_true rfl) (fun p e s m args below meth c Q C r => ?_)
  have J132 : ∀ (a2_132 : Int32) (a3_132 : Int32) (a4_132 : Int32) (b0_132 : Int32) (_ : zI 0 1 a2_132) (_ : zI 0 1 a3_132) (_ : zI 0 1 a4_132) (_ : zI 0 1 b0_132), zG p l e ({ frames := 0, cells := 0, slots := 0, locals := 0 }) s m args below meth c 5 0 0 A Q (zMc D A ad cy tl) 132 [(0, .ref (ad 19)), (1, .int p0), (2, .int a2_132), (3, .int a3_132), (4, .int a4_132)] [.int b0_132] := by
    intro a2_132 a3_132 a4_132 b0_132 ha2_132 ha3_132 ha4_132 hb0_132
    exact g_ireturn r dX4_jumps_132 (zn_bool hb0_132) (fun _ h => ⟨hb0_132, h⟩)
  have J131 : ∀ (a2_131 : Int32) (a3_131 : Int32) (a4_131 : Int32) (_ : zI 0 1 a2_131) (_ : zI 0 1 a3_131) (_ : zI 0 1 a4_131), zG p l e ({ frames := 0, cells := 0, slots := 0, locals := 0 }) s m args below meth c 5 0 0 A Q (zMc D A ad cy tl) 131 [(0, .ref (ad 19)), (1, .int p0), (2, .int a2_131), (3, .int a3_131), (4, .int a4_131)] [] := by
    intro a2_131 a3_131 a4_131 ha2_131 ha3_131 ha4_131
    refine g_iconst (pc := 131) C 0 dX4_jumps_131 (by decide) ?_
    exact g_sub [0, 1, 2, 3, 4] rfl (J132 a2_131 a3_131 a4_131 0 ha2_131 ha3_131 ha4_131 (zi_c 0 (a := 0) (b := 1) (by decide)))
  have J147 : ∀ (a2_147 : Int32) (a3_147 : Int32) (a4_147 : Int32) (b0_147 : Int32) (_ : zI 0 1 a2_147) (_ : zI 0 1 a3_147) (_ : zI 0 1 a4_147) (_ : zI 0 1 b0_147), zG p l e ({ frames := 0, cells := 0, slots := 0, locals := 0 }) s m args below meth c 5 0 0 A Q (zMc D A ad cy tl) 147 [(0, .ref (ad 19)), (1, .int p0), (2, .int a2_147), (3, .int a3_147), (4, .int a4_147)] [.int b0_147] := by
    intro a2_147 a3_147 a4_147 b0_147 ha2_147 ha3_147 ha4_147 hb0_147
    exact g_ireturn r dX4_jumps_147 (zn_bool hb0_147) (fun _ h => ⟨hb0_147, h⟩)
  have J142 : ∀ (a2_142 : Int32) (a3_142 : Int32) (a4_142 : Int32) (_ : zI 0 1 a2_142) (_ : zI 0 1 a3_142) (_ : zI 0 1 a4_142), zG p l e ({ frames := 0, cells := 0, slots := 0, locals := 0 }) s m args below meth c 5 0 0 A Q (zMc D A ad cy tl) 142 [(0, .ref (ad 19)), (1, .int p0), (2, .int a2_142), (3, .int a3_142), (4, .int a4_142)] [] := by
    intro a2_142 a3_142 a4_142 ha2_142 ha3_142 ha4_142
    refine g_iconst (pc := 142) C 1 dX4_jumps_142 (by decide) ?_
    refine g_goto (pc := 143) C 147 dX4_jumps_143 (by decide) ?_
    exact g_sub [0, 1, 2, 3, 4] rfl (J147 a2_142 a3_142 a4_142 1 ha2_142 ha3_142 ha4_142 (zi_c 1 (a := 0) (b := 1) (by decide)))
  have J165 : ∀ (a2_165 : Int32) (a3_165 : Int32) (a4_165 : Int32) (b0_165 : Int32) (_ : zI 0 1 a2_165) (_ : zI 0 1 a3_165) (_ : zI 0 1 a4_165) (_ : zI 0 1 b0_165), zG p l e ({ frames := 0, cells := 0, slots := 0, locals := 0 }) s m args below meth c 5 0 0 A Q (zMc D A ad cy tl) 165 [(0, .ref (ad 19)), (1, .int p0), (2, .int a2_165), (3, .int a3_165), (4, .int a4_165)] [.int b0_165] := by
    intro a2_165 a3_165 a4_165 b0_165 ha2_165 ha3_165 ha4_165 hb0_165
    exact g_ireturn r dX4_jumps_165 (zn_bool hb0_165) (fun _ h => ⟨hb0_165, h⟩)
  have J160 : ∀ (a2_160 : Int32) (a3_160 : Int32) (a4_160 : Int32) (_ : zI 0 1 a2_160) (_ : zI 0 1 a3_160) (_ : zI 0 1 a4_160), zG p l e ({ frames := 0, cells := 0, slots := 0, locals := 0 }) s m args below meth c 5 0 0 A Q (zMc D A ad cy tl) 160 [(0, .ref (ad 19)), (1, .int p0), (2, .int a2_160), (3, .int a3_160), (4, .int a4_160)] [] := by
    intro a2_160 a3_160 a4_160 ha2_160 ha3_160 ha4_160
    refine g_iconst (pc := 160) C 1 dX4_jumps_160 (by decide) ?_
    refine g_goto (pc := 161) C 165 dX4_jumps_161 (by decide) ?_
    exact g_sub [0, 1, 2, 3, 4] rfl (J165 a2_160 a3_160 a4_160 1 ha2_160 ha3_160 ha4_160 (zi_c 1 (a := 0) (b := 1) (by decide)))
  have J178 : ∀ (a2_178 : Int32) (a3_178 : Int32) (a4_178 : Int32) (b0_178 : Int32) (_ : zI 0 1 a2_178) (_ : zI 0 1 a3_178) (_ : zI 0 1 a4_178) (_ : zI 0 1 b0_178), zG p l e ({ frames := 0, cells := 0, slots := 0, locals := 0 }) s m args below meth c 5 0 0 A Q (zMc D A ad cy tl) 178 [(0, .ref (ad 19)), (1, .int p0), (2, .int a2_178), (3, .int a3_178), (4, .int a4_178)] [.int b0_178] := by
    intro a2_178 a3_178 a4_178 b0_178 ha2_178 ha3_178 ha4_178 hb0_178
    exact g_ireturn r dX4_jumps_178 (zn_bool hb0_178) (fun _ h => ⟨hb0_178, h⟩)
  have J195 : ∀ (a2_195 : Int32) (a3_195 : Int32) (a4_195 : Int32) (b0_195 : Int32) (_ : zI 0 1 a2_195) (_ : zI 0 1 a3_195) (_ : zI 0 1 a4_195) (_ : zI 0 1 b0_195), zG p l e ({ frames := 0, cells := 0, slots := 0, locals := 0 }) s m args below meth c 5 0 0 A Q (zMc D A ad cy tl) 195 [(0, .ref (ad 19)), (1, .int p0), (2, .int a2_195), (3, .int a3_195), (4, .int a4_195)] [.int b0_195] := by
    intro a2_195 a3_195 a4_195 b0_195 ha2_195 ha3_195 ha4_195 hb0_195
    exact g_ireturn r dX4_jumps_195 (zn_bool hb0_195) (fun _ h => ⟨hb0_195, h⟩)
  have J212 : ∀ (a2_212 : Int32) (a3_212 : Int32) (a4_212 : Int32) (b0_212 : Int32) (_ : zI 0 1 a2_212) (_ : zI 0 1 a3_212) (_ : zI 0 1 a4_212) (_ : zI 0 1 b0_212), zG p l e ({ frames := 0, cells := 0, slots := 0, locals := 0 }) s m args below meth c 5 0 0 A Q (zMc D A ad cy tl) 212 [(0, .ref (ad 19)), (1, .int p0), (2, .int a2_212), (3, .int a3_212), (4, .int a4_212)] [.int b0_212] := by
    intro a2_212 a3_212 a4_212 b0_212 ha2_212 ha3_212 ha4_212 hb0_212
    exact g_ireturn r dX4_jumps_212 (zn_bool hb0_212) (fun _ h => ⟨hb0_212, h⟩)
  have J229 : ∀ (a2_229 : Int32) (a3_229 : Int32) (a4_229 : Int32) (b0_229 : Int32) (_ : zI 0 1 a2_229) (_ : zI 0 1 a3_229) (_ : zI 0 1 a4_229) (_ : zI 0 1 b0_229), zG p l e ({ frames := 0, cells := 0, slots := 0, locals := 0 }) s m args below meth c 5 0 0 A Q (zMc D A ad cy tl) 229 [(0, .ref (ad 19)), (1, .int p0), (2, .int a2_229), (3, .int a3_229), (4, .int a4_229)] [.int b0_229] := by
    intro a2_229 a3_229 a4_229 b0_229 ha2_229 ha3_229 ha4_229 hb0_229
    exact g_ireturn r dX4_jumps_229 (zn_bool hb0_229) (fun _ h => ⟨hb0_229, h⟩)
  have J244 : ∀ (a2_244 : Int32) (a3_244 : Int32) (a4_244 : Int32) (b0_244 : Int32) (_ : zI 0 1 a2_244) (_ : zI 0 1 a3_244) (_ : zI 0 1 a4_244) (_ : zI 0 1 b0_244), zG p l e ({ frames := 0, cells := 0, slots := 0, locals := 0 }) s m args below meth c 5 0 0 A Q (zMc D A ad cy tl) 244 [(0, .ref (ad 19)), (1, .int p0), (2, .int a2_244), (3, .int a3_244), (4, .int a4_244)] [.int b0_244] := by
    intro a2_244 a3_244 a4_244 b0_244 ha2_244 ha3_244 ha4_244 hb0_244
    exact g_ireturn r dX4_jumps_244 (zn_bool hb0_244) (fun _ h => ⟨hb0_244, h⟩)
  have J243 : ∀ (a2_243 : Int32) (a3_243 : Int32) (a4_243 : Int32) (_ : zI 0 1 a2_243) (_ : zI 0 1 a3_243) (_ : zI 0 1 a4_243), zG p l e ({ frames := 0, cells := 0, slots := 0, locals := 0 }) s m args below meth c 5 0 0 A Q (zMc D A ad cy tl) 243 [(0, .ref (ad 19)), (1, .int p0), (2, .int a2_243), (3, .int a3_243), (4, .int a4_243)] [] := by
    intro a2_243 a3_243 a4_243 ha2_243 ha3_243 ha4_243
    refine g_iconst (pc := 243) C 0 dX4_jumps_243 (by decide) ?_
    exact g_sub [0, 1, 2, 3, 4] rfl (J244 a2_243 a3_243 a4_243 0 ha2_243 ha3_243 ha4_243 (zi_c 0 (a := 0) (b := 1) (by decide)))
  have J259 : ∀ (a2_259 : Int32) (a3_259 : Int32) (a4_259 : Int32) (b0_259 : Int32) (_ : zI 0 1 a2_259) (_ : zI 0 1 a3_259) (_ : zI 0 1 a4_259) (_ : zI 0 1 b0_259), zG p l e ({ frames := 0, cells := 0, slots := 0, locals := 0 }) s m args below meth c 5 0 0 A Q (zMc D A ad cy tl) 259 [(0, .ref (ad 19)), (1, .int p0), (2, .int a2_259), (3, .int a3_259), (4, .int a4_259)] [.int b0_259] := by
    intro a2_259 a3_259 a4_259 b0_259 ha2_259 ha3_259 ha4_259 hb0_259
    exact g_ireturn r dX4_jumps_259 (zn_bool hb0_259) (fun _ h => ⟨hb0_259, h⟩)
  have J258 : ∀ (a2_258 : Int32) (a3_258 : Int32) (a4_258 : Int32) (_ : zI 0 1 a2_258) (_ : zI 0 1 a3_258) (_ : zI 0 1 a4_258), zG p l e ({ frames := 0, cells := 0, slots := 0, locals := 0 }) s m args below meth c 5 0 0 A Q (zMc D A ad cy tl) 258 [(0, .ref (ad 19)), (1, .int p0), (2, .int a2_258), (3, .int a3_258), (4, .int a4_258)] [] := by
    intro a2_258 a3_258 a4_258 ha2_258 ha3_258 ha4_258
    refine g_iconst (pc := 258) C 0 dX4_jumps_258 (by decide) ?_
    exact g_sub [0, 1, 2, 3, 4] rfl (J259 a2_258 a3_258 a4_258 0 ha2_258 ha3_258 ha4_258 (zi_c 0 (a := 0) (b := 1) (by decide)))
  have J276 : ∀ (a2_276 : Int32) (a3_276 : Int32) (a4_276 : Int32) (b0_276 : Int32) (_ : zI 0 1 a2_276) (_ : zI 0 1 a3_276) (_ : zI 0 1 a4_276) (_ : zI 0 1 b0_276), zG p l e ({ frames := 0, cells := 0, slots := 0, locals := 0 }) s m args below meth c 5 0 0 A Q (zMc D A ad cy tl) 276 [(0, .ref (ad 19)), (1, .int p0), (2, .int a2_276), (3, .int a3_276), (4, .int a4_276)] [.int b0_276] := by
    intro a2_276 a3_276 a4_276 b0_276 ha2_276 ha3_276 ha4_276 hb0_276
    exact g_ireturn r dX4_jumps_276 (zn_bool hb0_276) (fun _ h => ⟨hb0_276, h⟩)
  have J49 : ∀ (a2_49 : Int32) (a3_49 : Int32) (b0_49 : Int32) (_ : zI 0 1 a2_49) (_ : zI 0 1 a3_49) (_ : zI 0 1 b0_49), zG p l e ({ frames := 0, cells := 0, slots := 0, locals := 0 }) s m args below meth c 5 0 0 A Q (zMc D A ad cy tl) 49 [(0, .ref (ad 19)), (1, .int p0), (2, .int a2_49), (3, .int a3_49)] [.int b0_49] := by
    intro a2_49 a3_49 b0_49 ha2_49 ha3_49 hb0_49
    refine g_istore (pc := 49) C ([(4, .int b0_49), (0, .ref (ad 19)), (1, .int p0), (2, .int a2_49), (3, .int a3_49)]) dX4_jumps_49 (Nat.le_of_ble_eq_true rfl) rfl ?_
    refine g_iload_n (pc := 51) C dX4_jumps_51 rfl 2 rfl ?_
    refine g_table (pc := 52) C [260, 116, 118, 133, 148, 151, 166, 168, 179, 196, 213, 230, 245] dX4_jumps_52 (by decide) (by decide) (by decide) (List.forall_mem_cons.mpr ⟨?_, (List.forall_mem_cons.mpr ⟨?_, (List.forall_mem_cons.mpr ⟨?_, (List.forall_mem_cons.mpr ⟨?_, (List.forall_mem_cons.mpr ⟨?_, (List.forall_mem_cons.mpr ⟨?_, (List.forall_mem_cons.mpr ⟨?_, (List.forall_mem_cons.mpr ⟨?_, (List.forall_mem_cons.mpr ⟨?_, (List.forall_mem_cons.mpr ⟨?_, (List.forall_mem_cons.mpr ⟨?_, (List.forall_mem_cons.mpr ⟨?_, (List.forall_mem_cons.mpr ⟨?_, fun _ h => absurd h List.not_mem_nil⟩)⟩)⟩)⟩)⟩)⟩)⟩)⟩)⟩)⟩)⟩)⟩)⟩)
    · refine g_aload_n (pc := 260) C dX4_jumps_260 rfl 1 rfl ?_
      refine gc_19_5 (pc := 261) C wk_226 dX4_jumps_261 (fun z1 => ?_)
      refine g_sipush (pc := 264) C 1024 dX4_jumps_264 (by decide) ?_
      refine g_iand (pc := 267) C dX4_jumps_267 (fun z2 ez2 => ?_)
      have hz2 : zI 0 1024 z2 := zi_and1 (zi_c 1024 (a := 0) (b := 1024) (by decide)) ez2
      refine g_if_eq (pc := 268) C 275 dX4_jumps_268 (by decide) (fun c3 => ?_) (fun c3 => ?_)
      · have h4 : zI 0 0 z2 := zr_eq c3 hz2 (zi_c 0 (a := 0) (b := 0) (by decide)) (by decide)
        refine g_iconst (pc := 275) C 0 dX4_jumps_275 (by decide) ?_
        exact g_sub [1, 2, 3, 4, 0] rfl (J276 a2_49 a3_49 b0_49 0 ha2_49 ha3_49 hb0_49 (zi_c 0 (a := 0) (b := 1) (by decide)))
      · have h5 : zI 1 1024 z2 := zr_neL c3 hz2 (zi_c 0 (a := 0) (b := 0) (by decide)) (by decide)
        refine g_iconst (pc := 271) C 1 dX4_jumps_271 (by decide) ?_
        refine g_goto (pc := 272) C 276 dX4_jumps_272 (by decide) ?_
        exact g_sub [1, 2, 3, 4, 0] rfl (J276 a2_49 a3_49 b0_49 1 ha2_49 ha3_49 hb0_49 (zi_c 1 (a := 0) (b := 1) (by decide)))
    · refine g_iconst (pc := 116) C 1 dX4_jumps_116 (by decide) ?_
      exact g_ireturn r dX4_jumps_117 rfl (fun _ h => ⟨(zi_c 1 (a := 0) (b := 1) (by decide)), h⟩)
    · refine g_iload_n (pc := 118) C dX4_jumps_118 rfl 4 rfl ?_
      refine g_if_ne (pc := 119) C 131 dX4_jumps_119 (by decide) (fun c6 => ?_) (fun c6 => ?_)
      · have h7 : zI 1 1 a3_49 := zr_neL c6 ha3_49 (zi_c 0 (a := 0) (b := 0) (by decide)) (by decide)
        exact g_sub [1, 2, 3, 4, 0] rfl (J131 a2_49 a3_49 b0_49 ha2_49 (zi_w h7 (a' := 0) (b' := 1) (by decide)) hb0_49)
      · have h8 : zI 0 0 a3_49 := zr_eq c6 ha3_49 (zi_c 0 (a := 0) (b := 0) (by decide)) (by decide)
        refine g_iload (pc := 122) C dX4_jumps_122 0 rfl ?_
        refine g_if_ne (pc := 124) C 131 dX4_jumps_124 (by decide) (fun c9 => ?_) (fun c9 => ?_)
        · have h10 : zI 1 1 b0_49 := zr_neL c9 hb0_49 (zi_c 0 (a := 0) (b := 0) (by decide)) (by decide)
          exact g_sub [1, 2, 3, 4, 0] rfl (J131 a2_49 a3_49 b0_49 ha2_49 (zi_w h8 (a' := 0) (b' := 1) (by decide)) (zi_w h10 (a' := 0) (b' := 1) (by decide)))
        · have h11 : zI 0 0 b0_49 := zr_eq c9 hb0_49 (zi_c 0 (a := 0) (b := 0) (by decide)) (by decide)
          refine g_iconst (pc := 127) C 1 dX4_jumps_127 (by decide) ?_
          refine g_goto (pc := 128) C 132 dX4_jumps_128 (by decide) ?_
          exact g_sub [1, 2, 3, 4, 0] rfl (J132 a2_49 a3_49 b0_49 1 ha2_49 (zi_w h8 (a' := 0) (b' := 1) (by decide)) (zi_w h11 (a' := 0) (b' := 1) (by decide)) (zi_c 1 (a := 0) (b := 1) (by decide)))
    · refine g_iload_n (pc := 133) C dX4_jumps_133 rfl 3 rfl ?_
      refine g_if_eq (pc := 134) C 142 dX4_jumps_134 (by decide) (fun c12 => ?_) (fun c12 => ?_)
      · have h13 : zI 0 0 a2_49 := zr_eq c12 ha2_49 (zi_c 0 (a := 0) (b := 0) (by decide)) (by decide)
        exact g_sub [1, 2, 3, 4, 0] rfl (J142 a2_49 a3_49 b0_49 (zi_w h13 (a' := 0) (b' := 1) (by decide)) ha3_49 hb0_49)
      · have h14 : zI 1 1 a2_49 := zr_neL c12 ha2_49 (zi_c 0 (a := 0) (b := 0) (by decide)) (by decide)
        refine g_iload (pc := 137) C dX4_jumps_137 0 rfl ?_
        refine g_if_eq (pc := 139) C 146 dX4_jumps_139 (by decide) (fun c15 => ?_) (fun c15 => ?_)
        · have h16 : zI 0 0 b0_49 := zr_eq c15 hb0_49 (zi_c 0 (a := 0) (b := 0) (by decide)) (by decide)
          refine g_iconst (pc := 146) C 0 dX4_jumps_146 (by decide) ?_
          exact g_sub [1, 2, 3, 4, 0] rfl (J147 a2_49 a3_49 b0_49 0 (zi_w h14 (a' := 0) (b' := 1) (by decide)) ha3_49 (zi_w h16 (a' := 0) (b' := 1) (by decide)) (zi_c 0 (a := 0) (b := 1) (by decide)))
        · have h17 : zI 1 1 b0_49 := zr_neL c15 hb0_49 (zi_c 0 (a := 0) (b := 0) (by decide)) (by decide)
          exact g_sub [1, 2, 3, 4, 0] rfl (J142 a2_49 a3_49 b0_49 (zi_w h14 (a' := 0) (b' := 1) (by decide)) ha3_49 (zi_w h17 (a' := 0) (b' := 1) (by decide)))
    · refine g_iload (pc := 148) C dX4_jumps_148 0 rfl ?_
      exact g_ireturn r dX4_jumps_150 (zn_bool hb0_49) (fun _ h => ⟨hb0_49, h⟩)
    · refine g_iload_n (pc := 151) C dX4_jumps_151 rfl 3 rfl ?_
      refine g_if_ne (pc := 152) C 160 dX4_jumps_152 (by decide) (fun c18 => ?_) (fun c18 => ?_)
      · have h19 : zI 1 1 a2_49 := zr_neL c18 ha2_49 (zi_c 0 (a := 0) (b := 0) (by decide)) (by decide)
        exact g_sub [1, 2, 3, 4, 0] rfl (J160 a2_49 a3_49 b0_49 (zi_w h19 (a' := 0) (b' := 1) (by decide)) ha3_49 hb0_49)
      · have h20 : zI 0 0 a2_49 := zr_eq c18 ha2_49 (zi_c 0 (a := 0) (b := 0) (by decide)) (by decide)
        refine g_iload (pc := 155) C dX4_jumps_155 0 rfl ?_
        refine g_if_eq (pc := 157) C 164 dX4_jumps_157 (by decide) (fun c21 => ?_) (fun c21 => ?_)
        · have h22 : zI 0 0 b0_49 := zr_eq c21 hb0_49 (zi_c 0 (a := 0) (b := 0) (by decide)) (by decide)
          refine g_iconst (pc := 164) C 0 dX4_jumps_164 (by decide) ?_
          exact g_sub [1, 2, 3, 4, 0] rfl (J165 a2_49 a3_49 b0_49 0 (zi_w h20 (a' := 0) (b' := 1) (by decide)) ha3_49 (zi_w h22 (a' := 0) (b' := 1) (by decide)) (zi_c 0 (a := 0) (b := 1) (by decide)))
        · have h23 : zI 1 1 b0_49 := zr_neL c21 hb0_49 (zi_c 0 (a := 0) (b := 0) (by decide)) (by decide)
          exact g_sub [1, 2, 3, 4, 0] rfl (J160 a2_49 a3_49 b0_49 (zi_w h20 (a' := 0) (b' := 1) (by decide)) ha3_49 (zi_w h23 (a' := 0) (b' := 1) (by decide)))
    · refine g_iload_n (pc := 166) C dX4_jumps_166 rfl 4 rfl ?_
      exact g_ireturn r dX4_jumps_167 (zn_bool ha3_49) (fun _ h => ⟨ha3_49, h⟩)
    · refine g_iload (pc := 168) C dX4_jumps_168 0 rfl ?_
      refine g_if_ne (pc := 170) C 177 dX4_jumps_170 (by decide) (fun c24 => ?_) (fun c24 => ?_)
      · have h25 : zI 1 1 b0_49 := zr_neL c24 hb0_49 (zi_c 0 (a := 0) (b := 0) (by decide)) (by decide)
        refine g_iconst (pc := 177) C 0 dX4_jumps_177 (by decide) ?_
        exact g_sub [1, 2, 3, 4, 0] rfl (J178 a2_49 a3_49 b0_49 0 ha2_49 ha3_49 (zi_w h25 (a' := 0) (b' := 1) (by decide)) (zi_c 0 (a := 0) (b := 1) (by decide)))
      · have h26 : zI 0 0 b0_49 := zr_eq c24 hb0_49 (zi_c 0 (a := 0) (b := 0) (by decide)) (by decide)
        refine g_iconst (pc := 173) C 1 dX4_jumps_173 (by decide) ?_
        refine g_goto (pc := 174) C 178 dX4_jumps_174 (by decide) ?_
        exact g_sub [1, 2, 3, 4, 0] rfl (J178 a2_49 a3_49 b0_49 1 ha2_49 ha3_49 (zi_w h26 (a' := 0) (b' := 1) (by decide)) (zi_c 1 (a := 0) (b := 1) (by decide)))
    · refine g_aload_n (pc := 179) C dX4_jumps_179 rfl 1 rfl ?_
      refine gc_19_5 (pc := 180) C wk_226 dX4_jumps_180 (fun z27 => ?_)
      refine g_sipush (pc := 183) C 4096 dX4_jumps_183 (by decide) ?_
      refine g_iand (pc := 186) C dX4_jumps_186 (fun z28 ez28 => ?_)
      have hz28 : zI 0 4096 z28 := zi_and1 (zi_c 4096 (a := 0) (b := 4096) (by decide)) ez28
      refine g_if_ne (pc := 187) C 194 dX4_jumps_187 (by decide) (fun c29 => ?_) (fun c29 => ?_)
      · have h30 : zI 1 4096 z28 := zr_neL c29 hz28 (zi_c 0 (a := 0) (b := 0) (by decide)) (by decide)
        refine g_iconst (pc := 194) C 0 dX4_jumps_194 (by decide) ?_
        exact g_sub [1, 2, 3, 4, 0] rfl (J195 a2_49 a3_49 b0_49 0 ha2_49 ha3_49 hb0_49 (zi_c 0 (a := 0) (b := 1) (by decide)))
      · have h31 : zI 0 0 z28 := zr_eq c29 hz28 (zi_c 0 (a := 0) (b := 0) (by decide)) (by decide)
        refine g_iconst (pc := 190) C 1 dX4_jumps_190 (by decide) ?_
        refine g_goto (pc := 191) C 195 dX4_jumps_191 (by decide) ?_
        exact g_sub [1, 2, 3, 4, 0] rfl (J195 a2_49 a3_49 b0_49 1 ha2_49 ha3_49 hb0_49 (zi_c 1 (a := 0) (b := 1) (by decide)))
    · refine g_aload_n (pc := 196) C dX4_jumps_196 rfl 1 rfl ?_
      refine gc_19_5 (pc := 197) C wk_226 dX4_jumps_197 (fun z32 => ?_)
      refine g_sipush (pc := 200) C 4096 dX4_jumps_200 (by decide) ?_
      refine g_iand (pc := 203) C dX4_jumps_203 (fun z33 ez33 => ?_)
      have hz33 : zI 0 4096 z33 := zi_and1 (zi_c 4096 (a := 0) (b := 4096) (by decide)) ez33
      refine g_if_eq (pc := 204) C 211 dX4_jumps_204 (by decide) (fun c34 => ?_) (fun c34 => ?_)
      · have h35 : zI 0 0 z33 := zr_eq c34 hz33 (zi_c 0 (a := 0) (b := 0) (by decide)) (by decide)
        refine g_iconst (pc := 211) C 0 dX4_jumps_211 (by decide) ?_
        exact g_sub [1, 2, 3, 4, 0] rfl (J212 a2_49 a3_49 b0_49 0 ha2_49 ha3_49 hb0_49 (zi_c 0 (a := 0) (b := 1) (by decide)))
      · have h36 : zI 1 4096 z33 := zr_neL c34 hz33 (zi_c 0 (a := 0) (b := 0) (by decide)) (by decide)
        refine g_iconst (pc := 207) C 1 dX4_jumps_207 (by decide) ?_
        refine g_goto (pc := 208) C 212 dX4_jumps_208 (by decide) ?_
        exact g_sub [1, 2, 3, 4, 0] rfl (J212 a2_49 a3_49 b0_49 1 ha2_49 ha3_49 hb0_49 (zi_c 1 (a := 0) (b := 1) (by decide)))
    · refine g_aload_n (pc := 213) C dX4_jumps_213 rfl 1 rfl ?_
      refine gc_19_5 (pc := 214) C wk_226 dX4_jumps_214 (fun z37 => ?_)
      refine g_sipush (pc := 217) C 2048 dX4_jumps_217 (by decide) ?_
      refine g_iand (pc := 220) C dX4_jumps_220 (fun z38 ez38 => ?_)
      have hz38 : zI 0 2048 z38 := zi_and1 (zi_c 2048 (a := 0) (b := 2048) (by decide)) ez38
      refine g_if_ne (pc := 221) C 228 dX4_jumps_221 (by decide) (fun c39 => ?_) (fun c39 => ?_)
      · have h40 : zI 1 2048 z38 := zr_neL c39 hz38 (zi_c 0 (a := 0) (b := 0) (by decide)) (by decide)
        refine g_iconst (pc := 228) C 0 dX4_jumps_228 (by decide) ?_
        exact g_sub [1, 2, 3, 4, 0] rfl (J229 a2_49 a3_49 b0_49 0 ha2_49 ha3_49 hb0_49 (zi_c 0 (a := 0) (b := 1) (by decide)))
      · have h41 : zI 0 0 z38 := zr_eq c39 hz38 (zi_c 0 (a := 0) (b := 0) (by decide)) (by decide)
        refine g_iconst (pc := 224) C 1 dX4_jumps_224 (by decide) ?_
        refine g_goto (pc := 225) C 229 dX4_jumps_225 (by decide) ?_
        exact g_sub [1, 2, 3, 4, 0] rfl (J229 a2_49 a3_49 b0_49 1 ha2_49 ha3_49 hb0_49 (zi_c 1 (a := 0) (b := 1) (by decide)))
    · refine g_iload_n (pc := 230) C dX4_jumps_230 rfl 3 rfl ?_
      refine g_if_ne (pc := 231) C 243 dX4_jumps_231 (by decide) (fun c42 => ?_) (fun c42 => ?_)
      · have h43 : zI 1 1 a2_49 := zr_neL c42 ha2_49 (zi_c 0 (a := 0) (b := 0) (by decide)) (by decide)
        exact g_sub [1, 2, 3, 4, 0] rfl (J243 a2_49 a3_49 b0_49 (zi_w h43 (a' := 0) (b' := 1) (by decide)) ha3_49 hb0_49)
      · have h44 : zI 0 0 a2_49 := zr_eq c42 ha2_49 (zi_c 0 (a := 0) (b := 0) (by decide)) (by decide)
        refine g_iload (pc := 234) C dX4_jumps_234 0 rfl ?_
        refine g_if_ne (pc := 236) C 243 dX4_jumps_236 (by decide) (fun c45 => ?_) (fun c45 => ?_)
        · have h46 : zI 1 1 b0_49 := zr_neL c45 hb0_49 (zi_c 0 (a := 0) (b := 0) (by decide)) (by decide)
          exact g_sub [1, 2, 3, 4, 0] rfl (J243 a2_49 a3_49 b0_49 (zi_w h44 (a' := 0) (b' := 1) (by decide)) ha3_49 (zi_w h46 (a' := 0) (b' := 1) (by decide)))
        · have h47 : zI 0 0 b0_49 := zr_eq c45 hb0_49 (zi_c 0 (a := 0) (b := 0) (by decide)) (by decide)
          refine g_iconst (pc := 239) C 1 dX4_jumps_239 (by decide) ?_
          refine g_goto (pc := 240) C 244 dX4_jumps_240 (by decide) ?_
          exact g_sub [1, 2, 3, 4, 0] rfl (J244 a2_49 a3_49 b0_49 1 (zi_w h44 (a' := 0) (b' := 1) (by decide)) ha3_49 (zi_w h47 (a' := 0) (b' := 1) (by decide)) (zi_c 1 (a := 0) (b := 1) (by decide)))
    · refine g_iload_n (pc := 245) C dX4_jumps_245 rfl 3 rfl ?_
      refine g_if_eq (pc := 246) C 258 dX4_jumps_246 (by decide) (fun c48 => ?_) (fun c48 => ?_)
      · have h49 : zI 0 0 a2_49 := zr_eq c48 ha2_49 (zi_c 0 (a := 0) (b := 0) (by decide)) (by decide)
        exact g_sub [1, 2, 3, 4, 0] rfl (J258 a2_49 a3_49 b0_49 (zi_w h49 (a' := 0) (b' := 1) (by decide)) ha3_49 hb0_49)
      · have h50 : zI 1 1 a2_49 := zr_neL c48 ha2_49 (zi_c 0 (a := 0) (b := 0) (by decide)) (by decide)
        refine g_iload (pc := 249) C dX4_jumps_249 0 rfl ?_
        refine g_if_ne (pc := 251) C 258 dX4_jumps_251 (by decide) (fun c51 => ?_) (fun c51 => ?_)
        · have h52 : zI 1 1 b0_49 := zr_neL c51 hb0_49 (zi_c 0 (a := 0) (b := 0) (by decide)) (by decide)
          exact g_sub [1, 2, 3, 4, 0] rfl (J258 a2_49 a3_49 b0_49 (zi_w h50 (a' := 0) (b' := 1) (by decide)) ha3_49 (zi_w h52 (a' := 0) (b' := 1) (by decide)))
        · have h53 : zI 0 0 b0_49 := zr_eq c51 hb0_49 (zi_c 0 (a := 0) (b := 0) (by decide)) (by decide)
          refine g_iconst (pc := 254) C 1 dX4_jumps_254 (by decide) ?_
          refine g_goto (pc := 255) C 259 dX4_jumps_255 (by decide) ?_
          exact g_sub [1, 2, 3, 4, 0] rfl (J259 a2_49 a3_49 b0_49 1 (zi_w h50 (a' := 0) (b' := 1) (by decide)) ha3_49 (zi_w h53 (a' := 0) (b' := 1) (by decide)) (zi_c 1 (a := 0) (b := 1) (by decide)))
  have J32 : ∀ (a2_32 : Int32) (b0_32 : Int32) (_ : zI 0 1 a2_32) (_ : zI 0 1 b0_32), zG p l e ({ frames := 0, cells := 0, slots := 0, locals := 0 }) s m args below meth c 5 0 0 A Q (zMc D A ad cy tl) 32 [(0, .ref (ad 19)), (1, .int p0), (2, .int a2_32)] [.int b0_32] := by
    intro a2_32 b0_32 ha2_32 hb0_32
    refine g_istore_n (pc := 32) C ([(3, .int b0_32), (0, .ref (ad 19)), (1, .int p0), (2, .int a2_32)]) dX4_jumps_32 rfl (Nat.le_of_ble_eq_true rfl) rfl ?_
    refine g_aload_n (pc := 33) C dX4_jumps_33 rfl 1 rfl ?_
    refine gc_19_5 (pc := 34) C wk_226 dX4_jumps_34 (fun z54 => ?_)
    refine g_sipush (pc := 37) C 8192 dX4_jumps_37 (by decide) ?_
    refine g_iand (pc := 40) C dX4_jumps_40 (fun z55 ez55 => ?_)
    have hz55 : zI 0 8192 z55 := zi_and1 (zi_c 8192 (a := 0) (b := 8192) (by decide)) ez55
    refine g_if_eq (pc := 41) C 48 dX4_jumps_41 (by decide) (fun c56 => ?_) (fun c56 => ?_)
    · have h57 : zI 0 0 z55 := zr_eq c56 hz55 (zi_c 0 (a := 0) (b := 0) (by decide)) (by decide)
      refine g_iconst (pc := 48) C 0 dX4_jumps_48 (by decide) ?_
      exact g_sub [1, 2, 3, 0] rfl (J49 a2_32 b0_32 0 ha2_32 hb0_32 (zi_c 0 (a := 0) (b := 1) (by decide)))
    · have h58 : zI 1 8192 z55 := zr_neL c56 hz55 (zi_c 0 (a := 0) (b := 0) (by decide)) (by decide)
      refine g_iconst (pc := 44) C 1 dX4_jumps_44 (by decide) ?_
      refine g_goto (pc := 45) C 49 dX4_jumps_45 (by decide) ?_
      exact g_sub [1, 2, 3, 0] rfl (J49 a2_32 b0_32 1 ha2_32 hb0_32 (zi_c 1 (a := 0) (b := 1) (by decide)))
  have J15 : ∀ (b0_15 : Int32) (_ : zI 0 1 b0_15), zG p l e ({ frames := 0, cells := 0, slots := 0, locals := 0 }) s m args below meth c 5 0 0 A Q (zMc D A ad cy tl) 15 [(0, .ref (ad 19)), (1, .int p0)] [.int b0_15] := by
    intro b0_15 hb0_15
    refine g_istore_n (pc := 15) C ([(2, .int b0_15), (0, .ref (ad 19)), (1, .int p0)]) dX4_jumps_15 rfl (Nat.le_of_ble_eq_true rfl) rfl ?_
    refine g_aload_n (pc := 16) C dX4_jumps_16 rfl 1 rfl ?_
    refine gc_19_5 (pc := 17) C wk_226 dX4_jumps_17 (fun z59 => ?_)
    refine g_sipush (pc := 20) C 16384 dX4_jumps_20 (by decide) ?_
    refine g_iand (pc := 23) C dX4_jumps_23 (fun z60 ez60 => ?_)
    have hz60 : zI 0 16384 z60 := zi_and1 (zi_c 16384 (a := 0) (b := 16384) (by decide)) ez60
    refine g_if_eq (pc := 24) C 31 dX4_jumps_24 (by decide) (fun c61 => ?_) (fun c61 => ?_)
    · have h62 : zI 0 0 z60 := zr_eq c61 hz60 (zi_c 0 (a := 0) (b := 0) (by decide)) (by decide)
      refine g_iconst (pc := 31) C 0 dX4_jumps_31 (by decide) ?_
      exact g_sub [1, 2, 0] rfl (J32 b0_15 0 hb0_15 (zi_c 0 (a := 0) (b := 1) (by decide)))
    · have h63 : zI 1 16384 z60 := zr_neL c61 hz60 (zi_c 0 (a := 0) (b := 0) (by decide)) (by decide)
      refine g_iconst (pc := 27) C 1 dX4_jumps_27 (by decide) ?_
      refine g_goto (pc := 28) C 32 dX4_jumps_28 (by decide) ?_
      exact g_sub [1, 2, 0] rfl (J32 b0_15 1 hb0_15 (zi_c 1 (a := 0) (b := 1) (by decide)))
  refine g_sub (lv' := [(0, .ref (ad 19)), (1, .int p0)]) [0, 1] rfl ?_
  refine g_aload_n (pc := 0) C dX4_jumps_0 rfl 0 rfl ?_
  refine gc_19_5 (pc := 1) C wk_226 dX4_jumps_1 (fun z64 => ?_)
  refine g_ldc (pc := 4) C dX4_jumps_4 (C.wd wk_571) ?_
  refine g_iand (pc := 6) C dX4_jumps_6 (fun z65 ez65 => ?_)
  have hz65 : zI 0 32768 z65 := zi_and1 (zi_c 32768 (a := 0) (b := 32768) (by decide)) ez65
  refine g_if_eq (pc := 7) C 14 dX4_jumps_7 (by decide) (fun c66 => ?_) (fun c66 => ?_)
  · have h67 : zI 0 0 z65 := zr_eq c66 hz65 (zi_c 0 (a := 0) (b := 0) (by decide)) (by decide)
    refine g_iconst (pc := 14) C 0 dX4_jumps_14 (by decide) ?_
    exact g_sub [0, 1] rfl (J15 0 (zi_c 0 (a := 0) (b := 1) (by decide)))
  · have h68 : zI 1 32768 z65 := zr_neL c66 hz65 (zi_c 0 (a := 0) (b := 0) (by decide)) (by decide)
    refine g_iconst (pc := 10) C 1 dX4_jumps_10 (by decide) ?_
    refine g_goto (pc := 11) C 15 dX4_jumps_11 (by decide) ?_
    exact g_sub [0, 1] rfl (J15 1 (zi_c 1 (a := 0) (b := 1) (by decide)))

set_option maxHeartbeats 2000000 in
set_option maxRecDepth 100000 in
theorem n_X4_doJump (l : Launch) (D : va_G) (ad : Nat → Nat) (cy : Nat → ClassId) (tl : Int32) (A : Nat → Prop) (p0 : Int32) : zMv l yX4_doJump wz_X4_doJump ({ frames := 1, cells := 0, slots := 0, locals := 24 }) [.ref (ad 19), .int p0] D (zTc cy) A (zMc D A ad cy tl) (zMc D A ad cy tl) := by
  refine zstart_v (cc := cX4_doJump) (maxL := 2) (own := RX4) (by decide) rfl rfl (Nat.le_of_ble_eq_true rfl) (fun p e s m args below meth c Q C r => ?_)
  have J27 : zG p l e ({ frames := 1, cells := 0, slots := 0, locals := 24 }) s m args below meth c 2 0 0 A Q (zMc D A ad cy tl) 27 [(0, .ref (ad 19)), (1, .int p0)] [] := by
    exact g_return r dX4_doJump_27 (fun _ h => h)
  refine g_sub (lv' := [(0, .ref (ad 19)), (1, .int p0)]) [0, 1] rfl ?_
  refine g_aload_n (pc := 0) C dX4_doJump_0 rfl 0 rfl ?_
  refine g_iload_n (pc := 1) C dX4_doJump_1 rfl 1 rfl ?_
  refine g_bipush (pc := 2) C 8 dX4_doJump_2 (by decide) ?_
  refine g_ishr (pc := 4) C dX4_doJump_4 (fun z1 ez1 => ?_)
  refine zcallVi (pc := 5) (st := []) C C.2.2.2.2.2 (n_X4_jumps l D ad cy tl A z1) (cwV 1 C.2.2.2.2.1 gw_RX4_175 rfl rfl rfl cd_X4_jumps ⟨Nat.le_of_ble_eq_true rfl, Nat.le_of_ble_eq_true rfl⟩) (hc_19 C) rfl rfl (Nat.le_of_ble_eq_true rfl) ⟨Nat.le_of_ble_eq_true rfl, Nat.le_of_ble_eq_true rfl⟩ dX4_doJump_5 (fun r2 => ?_)
  refine g_and (M2 := (zMc D A ad cy tl)) (fun hr2 => ?_)
  refine g_if_eq (pc := 8) C 27 dX4_doJump_8 (by decide) (fun c3 => ?_) (fun c3 => ?_)
  · have h4 : zI 0 0 r2 := zr_eq c3 hr2 (zi_c 0 (a := 0) (b := 0) (by decide)) (by decide)
    exact g_sub [0, 1] rfl (J27 )
  · have h5 : zI 1 1 r2 := zr_neL c3 hr2 (zi_c 0 (a := 0) (b := 0) (by decide)) (by decide)
    refine g_aload_n (pc := 11) C dX4_doJump_11 rfl 0 rfl ?_
    refine g_aload_n (pc := 12) C dX4_doJump_12 rfl 0 rfl ?_
    refine gc_19_3 (pc := 13) C wk_222 dX4_doJump_13 (fun z6 => ?_)
    refine g_iconst (pc := 16) C 2 dX4_doJump_16 (by decide) ?_
    refine g_iload_n (pc := 17) C dX4_doJump_17 rfl 1 rfl ?_
    refine g_i2b (pc := 18) C dX4_doJump_18 (fun z7 ez7 => ?_)
    have hz7 : zI (-128) 127 z7 := zi_i2b ez7
    refine g_imul (pc := 19) C dX4_doJump_19 (fun z8 ez8 => ?_)
    refine g_iadd (pc := 20) C dX4_doJump_20 (fun z9 ez9 => ?_)
    refine g_ldc (pc := 21) C dX4_doJump_21 (C.wd wk_384) ?_
    refine g_iand (pc := 23) C dX4_doJump_23 (fun z10 ez10 => ?_)
    have hz10 : zI 0 65534 z10 := zi_and1 (zi_c 65534 (a := 0) (b := 65534) (by decide)) ez10
    refine pc_19_3 (pc := 24) C wk_222 dX4_doJump_24 ?_
    exact g_sub [0, 1] rfl (J27 )

set_option maxHeartbeats 2000000 in
set_option maxRecDepth 100000 in
theorem n_X4_baseBit (l : Launch) (D : va_G) (ad : Nat → Nat) (cy : Nat → ClassId) (tl : Int32) (A : Nat → Prop) : zMi l yX4_baseBit wz_X4_baseBit ({ frames := 4, cells := 0, slots := 0, locals := 88 }) [.ref (ad 19)] D (zTc cy) A (zMc D A ad cy tl) (fun _ => (zMc D A ad cy tl)) := by
  refine zstart_i (cc := cX4_baseBit) (maxL := 1) (ty := .int) (own := RX4) (by decide) rfl rfl (Nat.le_of_ble_eq_true rfl) (fun p e s m args below meth c Q C r => ?_)
  refine g_sub (lv' := [(0, .ref (ad 19))]) [0] rfl ?_
  refine g_aload_n (pc := 0) C dX4_baseBit_0 rfl 0 rfl ?_
  refine gc_19_0 (pc := 1) C wk_219 dX4_baseBit_1 ?_
  refine g_aload_n (pc := 4) C dX4_baseBit_4 rfl 0 rfl ?_
  refine g_bipush (pc := 5) C 12 dX4_baseBit_5 (by decide) ?_
  refine zcallVi (pc := 7) (st := [.ref (ad 12)]) C C.2.2.2.2.2 (n_X4_registerAddress l D ad cy tl A 12) (cwV 1 C.2.2.2.2.1 gw_RX4_128 rfl rfl rfl cd_X4_registerAddress ⟨Nat.le_of_ble_eq_true rfl, Nat.le_of_ble_eq_true rfl⟩) (hc_19 C) rfl rfl (Nat.le_of_ble_eq_true rfl) ⟨Nat.le_of_ble_eq_true rfl, Nat.le_of_ble_eq_true rfl⟩ dX4_baseBit_7 (fun r1 => ?_)
  refine zcallVi (pc := 10) (st := []) C C.2.2.2.2.2 (n_X2_wordAt l D ad cy tl A r1) (cwV 1 C.2.2.2.2.1 gw_RX4_25 rfl rfl rfl cd_X2_wordAt ⟨Nat.le_of_ble_eq_true rfl, Nat.le_of_ble_eq_true rfl⟩) (hc_12 C) rfl rfl (Nat.le_of_ble_eq_true rfl) ⟨Nat.le_of_ble_eq_true rfl, Nat.le_of_ble_eq_true rfl⟩ dX4_baseBit_10 (fun r2 => ?_)
  refine g_iconst (pc := 13) C 1 dX4_baseBit_13 (by decide) ?_
  refine g_ishr (pc := 14) C dX4_baseBit_14 (fun z3 ez3 => ?_)
  refine g_sipush (pc := 15) C 4095 dX4_baseBit_15 (by decide) ?_
  refine g_iand (pc := 18) C dX4_baseBit_18 (fun z4 ez4 => ?_)
  have hz4 : zI 0 4095 z4 := zi_and1 (zi_c 4095 (a := 0) (b := 4095) (by decide)) ez4
  exact g_ireturn r dX4_baseBit_19 rfl (fun _ h => h)

set_option maxHeartbeats 2000000 in
set_option maxRecDepth 100000 in
theorem n_X4_doSingleBit (l : Launch) (D : va_G) (ad : Nat → Nat) (cy : Nat → ClassId) (tl : Int32) (A : Nat → Prop) (p0 : Int32) : zMv l yX4_doSingleBit wz_X4_doSingleBit ({ frames := 5, cells := 0, slots := 0, locals := 108 }) [.ref (ad 19), .int p0] D (zTc cy) A (zMc D A ad cy tl) (zMc D A ad cy tl) := by
  refine zstart_v (cc := cX4_doSingleBit) (maxL := 3) (own := RX4) (by decide) rfl rfl (Nat.le_of_ble_eq_true rfl) (fun p e s m args below meth c Q C r => ?_)
  have J92 : ∀ (a2_92 : Int32) (_ : zI 0 4095 a2_92), zG p l e ({ frames := 5, cells := 0, slots := 0, locals := 108 }) s m args below meth c 3 0 0 A Q (zMc D A ad cy tl) 92 [(0, .ref (ad 19)), (1, .int p0), (2, .int a2_92)] [] := by
    intro a2_92 ha2_92
    exact g_return r dX4_doSingleBit_92 (fun _ h => h)
  have J89 : ∀ (a2_89 : Int32) (b0_89 : Int32) (_ : zI 0 4095 a2_89) (_ : zI 0 1 b0_89), zG p l e ({ frames := 5, cells := 0, slots := 0, locals := 108 }) s m args below meth c 3 0 0 A Q (zMc D A ad cy tl) 89 [(0, .ref (ad 19)), (1, .int p0), (2, .int a2_89)] [.int b0_89, .int 8192, .ref (ad 19)] := by
    intro a2_89 b0_89 ha2_89 hb0_89
    refine zcallVv (pc := 89) (st := []) C C.2.2.2.2.2 (n_X4_flag l D ad cy tl A 8192 b0_89) (cwV 2 C.2.2.2.2.1 gw_RX4_136 rfl rfl rfl cd_X4_flag ⟨Nat.le_of_ble_eq_true rfl, Nat.le_of_ble_eq_true rfl⟩) (hc_19 C) rfl rfl (Nat.le_of_ble_eq_true rfl) ⟨Nat.le_of_ble_eq_true rfl, Nat.le_of_ble_eq_true rfl⟩ dX4_doSingleBit_89 ?_
    exact g_sub [0, 1, 2] rfl (J92 a2_89 ha2_89)
  refine g_sub (lv' := [(0, .ref (ad 19)), (1, .int p0)]) [0, 1] rfl ?_
  refine g_aload_n (pc := 0) C dX4_doSingleBit_0 rfl 0 rfl ?_
  refine zcallVi (pc := 1) (st := []) C C.2.2.2.2.2 (n_X4_baseBit l D ad cy tl A ) (cwV 0 C.2.2.2.2.1 gw_RX4_178 rfl rfl rfl cd_X4_baseBit ⟨Nat.le_of_ble_eq_true rfl, Nat.le_of_ble_eq_true rfl⟩) (hc_19 C) rfl rfl (Nat.le_of_ble_eq_true rfl) ⟨Nat.le_of_ble_eq_true rfl, Nat.le_of_ble_eq_true rfl⟩ dX4_doSingleBit_1 (fun r1 => ?_)
  refine g_iload_n (pc := 4) C dX4_doSingleBit_4 rfl 1 rfl ?_
  refine g_i2b (pc := 5) C dX4_doSingleBit_5 (fun z2 ez2 => ?_)
  have hz2 : zI (-128) 127 z2 := zi_i2b ez2
  refine g_iadd (pc := 6) C dX4_doSingleBit_6 (fun z3 ez3 => ?_)
  refine g_sipush (pc := 7) C 4095 dX4_doSingleBit_7 (by decide) ?_
  refine g_iand (pc := 10) C dX4_doSingleBit_10 (fun z4 ez4 => ?_)
  have hz4 : zI 0 4095 z4 := zi_and1 (zi_c 4095 (a := 0) (b := 4095) (by decide)) ez4
  refine g_istore_n (pc := 11) C ([(2, .int z4), (0, .ref (ad 19)), (1, .int p0)]) dX4_doSingleBit_11 rfl (Nat.le_of_ble_eq_true rfl) rfl ?_
  refine g_iload_n (pc := 12) C dX4_doSingleBit_12 rfl 2 rfl ?_
  refine g_ldc (pc := 13) C dX4_doSingleBit_13 (C.wd wk_603) ?_
  refine g_iand (pc := 15) C dX4_doSingleBit_15 (fun z5 ez5 => ?_)
  have hz5 : zI 0 65280 z5 := zi_and1 (zi_c 65280 (a := 0) (b := 65280) (by decide)) ez5
  refine g_lookup (pc := 16) C [68, 44, 56] dX4_doSingleBit_16 (by decide) (by decide) (List.forall_mem_cons.mpr ⟨?_, (List.forall_mem_cons.mpr ⟨?_, (List.forall_mem_cons.mpr ⟨?_, fun _ h => absurd h List.not_mem_nil⟩)⟩)⟩)
  · refine g_aload_n (pc := 68) C dX4_doSingleBit_68 rfl 1 rfl ?_
    refine g_sipush (pc := 69) C 8192 dX4_doSingleBit_69 (by decide) ?_
    refine g_aload_n (pc := 72) C dX4_doSingleBit_72 rfl 1 rfl ?_
    refine gc_19_2 (pc := 73) C wk_221 dX4_doSingleBit_73 ?_
    refine g_iload_n (pc := 76) C dX4_doSingleBit_76 rfl 0 rfl ?_
    refine zcallVi (pc := 77) (st := [.int 8192, .ref (ad 19)]) C C.2.2.2.2.2 (n_X5_coming l D ad cy tl A z4) (cwV 1 C.2.2.2.2.1 gw_RX4_184 rfl rfl rfl cd_X5_coming ⟨Nat.le_of_ble_eq_true rfl, Nat.le_of_ble_eq_true rfl⟩) (hc_10 C) rfl rfl (Nat.le_of_ble_eq_true rfl) ⟨Nat.le_of_ble_eq_true rfl, Nat.le_of_ble_eq_true rfl⟩ dX4_doSingleBit_77 (fun r6 => ?_)
    refine g_iconst (pc := 80) C 1 dX4_doSingleBit_80 (by decide) ?_
    refine g_icmp_ne (pc := 81) C 88 dX4_doSingleBit_81 (by decide) (fun c7 => ?_) (fun c7 => ?_)
    · refine g_iconst (pc := 88) C 0 dX4_doSingleBit_88 (by decide) ?_
      exact g_sub [1, 2, 0] rfl (J89 z4 0 hz4 (zi_c 0 (a := 0) (b := 1) (by decide)))
    · have h8 : zI 1 1 r6 := zr_eq c7 (zi_full r6) (zi_c 1 (a := 1) (b := 1) (by decide)) (by decide)
      refine g_iconst (pc := 84) C 1 dX4_doSingleBit_84 (by decide) ?_
      refine g_goto (pc := 85) C 89 dX4_doSingleBit_85 (by decide) ?_
      exact g_sub [1, 2, 0] rfl (J89 z4 1 hz4 (zi_c 1 (a := 0) (b := 1) (by decide)))
  · refine g_aload_n (pc := 44) C dX4_doSingleBit_44 rfl 1 rfl ?_
    refine gc_19_2 (pc := 45) C wk_221 dX4_doSingleBit_45 ?_
    refine g_iload_n (pc := 48) C dX4_doSingleBit_48 rfl 0 rfl ?_
    refine g_iconst (pc := 49) C 1 dX4_doSingleBit_49 (by decide) ?_
    refine zcallVv (pc := 50) (st := []) C C.2.2.2.2.2 (n_X5_send l D ad cy tl A z4 1) (cwV 2 C.2.2.2.2.1 gw_RX4_181 rfl rfl rfl cd_X5_send ⟨Nat.le_of_ble_eq_true rfl, Nat.le_of_ble_eq_true rfl⟩) (hc_10 C) rfl rfl (Nat.le_of_ble_eq_true rfl) ⟨Nat.le_of_ble_eq_true rfl, Nat.le_of_ble_eq_true rfl⟩ dX4_doSingleBit_50 ?_
    refine g_goto (pc := 53) C 92 dX4_doSingleBit_53 (by decide) ?_
    exact g_sub [1, 2, 0] rfl (J92 z4 hz4)
  · refine g_aload_n (pc := 56) C dX4_doSingleBit_56 rfl 1 rfl ?_
    refine gc_19_2 (pc := 57) C wk_221 dX4_doSingleBit_57 ?_
    refine g_iload_n (pc := 60) C dX4_doSingleBit_60 rfl 0 rfl ?_
    refine g_iconst (pc := 61) C 0 dX4_doSingleBit_61 (by decide) ?_
    refine zcallVv (pc := 62) (st := []) C C.2.2.2.2.2 (n_X5_send l D ad cy tl A z4 0) (cwV 2 C.2.2.2.2.1 gw_RX4_181 rfl rfl rfl cd_X5_send ⟨Nat.le_of_ble_eq_true rfl, Nat.le_of_ble_eq_true rfl⟩) (hc_10 C) rfl rfl (Nat.le_of_ble_eq_true rfl) ⟨Nat.le_of_ble_eq_true rfl, Nat.le_of_ble_eq_true rfl⟩ dX4_doSingleBit_62 ?_
    refine g_goto (pc := 65) C 92 dX4_doSingleBit_65 (by decide) ?_
    exact g_sub [1, 2, 0] rfl (J92 z4 hz4)

set_option maxHeartbeats 2000000 in
set_option maxRecDepth 100000 in
theorem n_X4_sendBits (l : Launch) (D : va_G) (ad : Nat → Nat) (cy : Nat → ClassId) (tl : Int32) (A : Nat → Prop) (p0 : Int32) (p1 : Int32) (p2 : Int32) : zMv l yX4_sendBits wz_X4_sendBits ({ frames := 1, cells := 0, slots := 0, locals := 25 }) [.ref (ad 19), .int p0, .int p1, .int p2] D (zTc cy) A (zMc D A ad cy tl) (zMc D A ad cy tl) := by
  refine zstart_v (cc := cX4_sendBits) (maxL := 5) (own := RX4) (by decide) rfl rfl (Nat.le_of_ble_eq_true rfl) (fun p e s m args below meth c Q C r => ?_)
  have J3 : ∀ (n : Nat) (a4_3 : Int32) (_ : zI 0 2147483647 a4_3) (_ : (2147483647 - (a4_3 : Int32).toInt).toNat = n), zG p l e ({ frames := 1, cells := 0, slots := 0, locals := 25 }) s m args below meth c 5 0 0 A Q (zMc D A ad cy tl) 3 [(0, .ref (ad 19)), (1, .int p0), (2, .int p1), (3, .int p2), (4, .int a4_3)] [] := by
    intro n
    induction n using Nat.strongRecOn with
    | ind n ih =>
      intro a4_3 ha4_3 hn
      refine g_iload (pc := 3) C dX4_sendBits_3 4 rfl ?_
      refine g_iload_n (pc := 5) C dX4_sendBits_5 rfl 2 rfl ?_
      refine g_icmp_ge (pc := 6) C 34 dX4_sendBits_6 (by decide) (fun c1 => ?_) (fun c1 => ?_)
      · exact g_return r dX4_sendBits_34 (fun _ h => h)
      · have h2 : zI 0 2147483646 a4_3 := zr_lt1 (zc_nle c1) ha4_3 (zi_full p1) (by decide)
        have h3 : zI 1 2147483647 p1 := zr_lt2 (zc_nle c1) ha4_3 (zi_full p1) (by decide)
        refine g_aload_n (pc := 9) C dX4_sendBits_9 rfl 0 rfl ?_
        refine gc_19_2 (pc := 10) C wk_221 dX4_sendBits_10 ?_
        refine g_iload_n (pc := 13) C dX4_sendBits_13 rfl 1 rfl ?_
        refine g_iload (pc := 14) C dX4_sendBits_14 4 rfl ?_
        refine g_iadd (pc := 16) C dX4_sendBits_16 (fun z4 ez4 => ?_)
        refine g_sipush (pc := 17) C 4095 dX4_sendBits_17 (by decide) ?_
        refine g_iand (pc := 20) C dX4_sendBits_20 (fun z5 ez5 => ?_)
        have hz5 : zI 0 4095 z5 := zi_and1 (zi_c 4095 (a := 0) (b := 4095) (by decide)) ez5
        refine g_iload_n (pc := 21) C dX4_sendBits_21 rfl 3 rfl ?_
        refine g_iload (pc := 22) C dX4_sendBits_22 4 rfl ?_
        refine g_ishr (pc := 24) C dX4_sendBits_24 (fun z6 ez6 => ?_)
        refine zcallVv (pc := 25) (st := []) C C.2.2.2.2.2 (n_X5_send l D ad cy tl A z5 z6) (cwV 2 C.2.2.2.2.1 gw_RX4_181 rfl rfl rfl cd_X5_send ⟨Nat.le_of_ble_eq_true rfl, Nat.le_of_ble_eq_true rfl⟩) (hc_10 C) rfl rfl (Nat.le_of_ble_eq_true rfl) ⟨Nat.le_of_ble_eq_true rfl, Nat.le_of_ble_eq_true rfl⟩ dX4_sendBits_25 ?_
        obtain ⟨z7, ez7⟩ : ∃ z : Int32, z = a4_3 + 1 := ⟨_, rfl⟩
        have hz7 : zI 1 2147483647 z7 := zi_add h2 (zi_c 1 (a := 1) (b := 1) (by decide)) ez7 (by decide)
        refine g_iinc (pc := 28) C z7 ([(4, .int z7), (0, .ref (ad 19)), (1, .int p0), (2, .int p1), (3, .int p2)]) dX4_sendBits_28 4 rfl (by rw [ez7]; rfl) (Nat.le_of_ble_eq_true rfl) rfl ?_
        refine g_goto (pc := 31) C 3 dX4_sendBits_31 (by decide) ?_
        exact g_sub [1, 2, 3, 4, 0] rfl (ih (2147483647 - (z7 : Int32).toInt).toNat (by rw [← hn]; exact zdec ez7 h2 (by decide) (zi_w hz7 (a' := 0) (b' := 2147483647) (by decide))) z7 (zi_w hz7 (a' := 0) (b' := 2147483647) (by decide)) rfl)
  refine g_sub (lv' := [(0, .ref (ad 19)), (1, .int p0), (2, .int p1), (3, .int p2)]) [0, 1, 2, 3] rfl ?_
  refine g_iconst (pc := 0) C 0 dX4_sendBits_0 (by decide) ?_
  refine g_istore (pc := 1) C ([(4, .int 0), (0, .ref (ad 19)), (1, .int p0), (2, .int p1), (3, .int p2)]) dX4_sendBits_1 (Nat.le_of_ble_eq_true rfl) rfl ?_
  exact g_sub [1, 2, 3, 4, 0] rfl (J3 (2147483647 - (0 : Int32).toInt).toNat 0 (zi_c 0 (a := 0) (b := 2147483647) (by decide)) rfl)

set_option maxHeartbeats 2000000 in
set_option maxRecDepth 100000 in
theorem n_X4_comingBits (l : Launch) (D : va_G) (ad : Nat → Nat) (cy : Nat → ClassId) (tl : Int32) (A : Nat → Prop) (p0 : Int32) (p1 : Int32) : zMi l yX4_comingBits wz_X4_comingBits ({ frames := 2, cells := 0, slots := 0, locals := 43 }) [.ref (ad 19), .int p0, .int p1] D (zTc cy) A (zMc D A ad cy tl) (fun _ => (zMc D A ad cy tl)) := by
  refine zstart_i (cc := cX4_comingBits) (maxL := 5) (ty := .int) (own := RX4) (by decide) rfl rfl (Nat.le_of_ble_eq_true rfl) (fun p e s m args below meth c Q C r => ?_)
  have J5 : ∀ (n : Nat) (a3_5 : Int32) (a4_5 : Int32) (_ : zI 0 2147483647 a4_5) (_ : (2147483647 - (a4_5 : Int32).toInt).toNat = n), zG p l e ({ frames := 2, cells := 0, slots := 0, locals := 43 }) s m args below meth c 5 0 0 A Q (zMc D A ad cy tl) 5 [(0, .ref (ad 19)), (1, .int p0), (2, .int p1), (3, .int a3_5), (4, .int a4_5)] [] := by
    intro n
    induction n using Nat.strongRecOn with
    | ind n ih =>
      intro a3_5 a4_5 ha4_5 hn
      refine g_iload (pc := 5) C dX4_comingBits_5 4 rfl ?_
      refine g_iload_n (pc := 7) C dX4_comingBits_7 rfl 2 rfl ?_
      refine g_icmp_ge (pc := 8) C 38 dX4_comingBits_8 (by decide) (fun c1 => ?_) (fun c1 => ?_)
      · refine g_iload_n (pc := 38) C dX4_comingBits_38 rfl 3 rfl ?_
        exact g_ireturn r dX4_comingBits_39 rfl (fun _ h => h)
      · have h2 : zI 0 2147483646 a4_5 := zr_lt1 (zc_nle c1) ha4_5 (zi_full p1) (by decide)
        have h3 : zI 1 2147483647 p1 := zr_lt2 (zc_nle c1) ha4_5 (zi_full p1) (by decide)
        refine g_iload_n (pc := 11) C dX4_comingBits_11 rfl 3 rfl ?_
        refine g_aload_n (pc := 12) C dX4_comingBits_12 rfl 0 rfl ?_
        refine gc_19_2 (pc := 13) C wk_221 dX4_comingBits_13 ?_
        refine g_iload_n (pc := 16) C dX4_comingBits_16 rfl 1 rfl ?_
        refine g_iload (pc := 17) C dX4_comingBits_17 4 rfl ?_
        refine g_iadd (pc := 19) C dX4_comingBits_19 (fun z4 ez4 => ?_)
        refine g_sipush (pc := 20) C 4095 dX4_comingBits_20 (by decide) ?_
        refine g_iand (pc := 23) C dX4_comingBits_23 (fun z5 ez5 => ?_)
        have hz5 : zI 0 4095 z5 := zi_and1 (zi_c 4095 (a := 0) (b := 4095) (by decide)) ez5
        refine zcallVi (pc := 24) (st := [.int a3_5]) C C.2.2.2.2.2 (n_X5_coming l D ad cy tl A z5) (cwV 1 C.2.2.2.2.1 gw_RX4_184 rfl rfl rfl cd_X5_coming ⟨Nat.le_of_ble_eq_true rfl, Nat.le_of_ble_eq_true rfl⟩) (hc_10 C) rfl rfl (Nat.le_of_ble_eq_true rfl) ⟨Nat.le_of_ble_eq_true rfl, Nat.le_of_ble_eq_true rfl⟩ dX4_comingBits_24 (fun r6 => ?_)
        refine g_iload (pc := 27) C dX4_comingBits_27 4 rfl ?_
        refine g_ishl (pc := 29) C dX4_comingBits_29 (fun z7 ez7 => ?_)
        refine g_ior (pc := 30) C dX4_comingBits_30 (fun z8 ez8 => ?_)
        refine g_istore_n (pc := 31) C ([(3, .int z8), (0, .ref (ad 19)), (1, .int p0), (2, .int p1), (4, .int a4_5)]) dX4_comingBits_31 rfl (Nat.le_of_ble_eq_true rfl) rfl ?_
        obtain ⟨z9, ez9⟩ : ∃ z : Int32, z = a4_5 + 1 := ⟨_, rfl⟩
        have hz9 : zI 1 2147483647 z9 := zi_add h2 (zi_c 1 (a := 1) (b := 1) (by decide)) ez9 (by decide)
        refine g_iinc (pc := 32) C z9 ([(4, .int z9), (3, .int z8), (0, .ref (ad 19)), (1, .int p0), (2, .int p1)]) dX4_comingBits_32 4 rfl (by rw [ez9]; rfl) (Nat.le_of_ble_eq_true rfl) rfl ?_
        refine g_goto (pc := 35) C 5 dX4_comingBits_35 (by decide) ?_
        exact g_sub [2, 3, 4, 1, 0] rfl (ih (2147483647 - (z9 : Int32).toInt).toNat (by rw [← hn]; exact zdec ez9 h2 (by decide) (zi_w hz9 (a' := 0) (b' := 2147483647) (by decide))) z8 z9 (zi_w hz9 (a' := 0) (b' := 2147483647) (by decide)) rfl)
  refine g_sub (lv' := [(0, .ref (ad 19)), (1, .int p0), (2, .int p1)]) [0, 1, 2] rfl ?_
  refine g_iconst (pc := 0) C 0 dX4_comingBits_0 (by decide) ?_
  refine g_istore_n (pc := 1) C ([(3, .int 0), (0, .ref (ad 19)), (1, .int p0), (2, .int p1)]) dX4_comingBits_1 rfl (Nat.le_of_ble_eq_true rfl) rfl ?_
  refine g_iconst (pc := 2) C 0 dX4_comingBits_2 (by decide) ?_
  refine g_istore (pc := 3) C ([(4, .int 0), (3, .int 0), (0, .ref (ad 19)), (1, .int p0), (2, .int p1)]) dX4_comingBits_3 (Nat.le_of_ble_eq_true rfl) rfl ?_
  exact g_sub [2, 3, 4, 1, 0] rfl (J5 (2147483647 - (0 : Int32).toInt).toNat 0 0 (zi_c 0 (a := 0) (b := 2147483647) (by decide)) rfl)

set_option maxHeartbeats 2000000 in
set_option maxRecDepth 100000 in
theorem n_X4_putOperand (l : Launch) (D : va_G) (ad : Nat → Nat) (cy : Nat → ClassId) (tl : Int32) (A : Nat → Prop) (p0 : Int32) (p1 : Int32) (p2 : Int32) : zMv l yX4_putOperand wz_X4_putOperand ({ frames := 4, cells := 0, slots := 0, locals := 95 }) [.ref (ad 19), .int p0, .int p1, .int p2] D (zTc cy) A (zMc D A ad cy tl) (zMc D A ad cy tl) := by
  refine zstart_v (cc := cX4_putOperand) (maxL := 4) (own := RX4) (by decide) rfl rfl (Nat.le_of_ble_eq_true rfl) (fun p e s m args below meth c Q C r => ?_)
  have J25 : zG p l e ({ frames := 4, cells := 0, slots := 0, locals := 95 }) s m args below meth c 4 0 0 A Q (zMc D A ad cy tl) 25 [(0, .ref (ad 19)), (1, .int p0), (2, .int p1), (3, .int p2)] [] := by
    exact g_return r dX4_putOperand_25 (fun _ h => h)
  refine g_sub (lv' := [(0, .ref (ad 19)), (1, .int p0), (2, .int p1), (3, .int p2)]) [0, 1, 2, 3] rfl ?_
  refine g_iload_n (pc := 0) C dX4_putOperand_0 rfl 3 rfl ?_
  refine g_if_eq (pc := 1) C 16 dX4_putOperand_1 (by decide) (fun c1 => ?_) (fun c1 => ?_)
  · have h2 : zI 0 0 p2 := zr_eq c1 (zi_full p2) (zi_c 0 (a := 0) (b := 0) (by decide)) (by decide)
    refine g_aload_n (pc := 16) C dX4_putOperand_16 rfl 0 rfl ?_
    refine gc_19_0 (pc := 17) C wk_219 dX4_putOperand_17 ?_
    refine g_iload_n (pc := 20) C dX4_putOperand_20 rfl 1 rfl ?_
    refine g_iload_n (pc := 21) C dX4_putOperand_21 rfl 2 rfl ?_
    refine zcallVv (pc := 22) (st := []) C C.2.2.2.2.2 (n_X2_putWord l D ad cy tl A p0 p1) (cwV 2 C.2.2.2.2.1 gw_RX4_131 rfl rfl rfl cd_X2_putWord ⟨Nat.le_of_ble_eq_true rfl, Nat.le_of_ble_eq_true rfl⟩) (hc_12 C) rfl rfl (Nat.le_of_ble_eq_true rfl) ⟨Nat.le_of_ble_eq_true rfl, Nat.le_of_ble_eq_true rfl⟩ dX4_putOperand_22 ?_
    exact g_sub [0, 1, 2, 3] rfl (J25 )
  · refine g_aload_n (pc := 4) C dX4_putOperand_4 rfl 0 rfl ?_
    refine gc_19_0 (pc := 5) C wk_219 dX4_putOperand_5 ?_
    refine g_iload_n (pc := 8) C dX4_putOperand_8 rfl 1 rfl ?_
    refine g_iload_n (pc := 9) C dX4_putOperand_9 rfl 2 rfl ?_
    refine zcallVv (pc := 10) (st := []) C C.2.2.2.2.2 (n_X2_putByte l D ad cy tl A p0 p1) (cwV 2 C.2.2.2.2.1 gw_RX4_203 rfl rfl rfl cd_X2_putByte ⟨Nat.le_of_ble_eq_true rfl, Nat.le_of_ble_eq_true rfl⟩) (hc_12 C) rfl rfl (Nat.le_of_ble_eq_true rfl) ⟨Nat.le_of_ble_eq_true rfl, Nat.le_of_ble_eq_true rfl⟩ dX4_putOperand_10 ?_
    refine g_goto (pc := 13) C 25 dX4_putOperand_13 (by decide) ?_
    exact g_sub [0, 1, 2, 3] rfl (J25 )

set_option maxHeartbeats 2000000 in
set_option maxRecDepth 100000 in
theorem n_X4_doManyBits (l : Launch) (D : va_G) (ad : Nat → Nat) (cy : Nat → ClassId) (tl : Int32) (A : Nat → Prop) (p0 : Int32) : zMv l yX4_doManyBits wz_X4_doManyBits ({ frames := 5, cells := 0, slots := 0, locals := 120 }) [.ref (ad 19), .int p0] D (zTc cy) A (zMc D A ad cy tl) (zMc D A ad cy tl) := by
  refine zstart_v (cc := cX4_doManyBits) (maxL := 7) (own := RX4) (by decide) rfl rfl (Nat.le_of_ble_eq_true rfl) (fun p e s m args below meth c Q C r => ?_)
  have J130 : ∀ (a2_130 : Int32) (a3_130 : Int32) (a4_130 : Int32) (a5_130 : Int32) (a6_130 : Int32) (_ : zI 1 16 a2_130) (_ : zI 0 1 a3_130), zG p l e ({ frames := 5, cells := 0, slots := 0, locals := 120 }) s m args below meth c 7 0 0 A Q (zMc D A ad cy tl) 130 [(0, .ref (ad 19)), (1, .int p0), (2, .int a2_130), (3, .int a3_130), (4, .int a4_130), (5, .int a5_130), (6, .int a6_130)] [] := by
    intro a2_130 a3_130 a4_130 a5_130 a6_130 ha2_130 ha3_130
    exact g_return r dX4_doManyBits_130 (fun _ h => h)
  have J114 : ∀ (a2_114 : Int32) (a3_114 : Int32) (a4_114 : Int32) (a5_114 : Int32) (a6_114 : Int32) (_ : zI 1 16 a2_114) (_ : zI 0 1 a3_114), zG p l e ({ frames := 5, cells := 0, slots := 0, locals := 120 }) s m args below meth c 7 0 0 A Q (zMc D A ad cy tl) 114 [(0, .ref (ad 19)), (1, .int p0), (2, .int a2_114), (3, .int a3_114), (4, .int a4_114), (5, .int a5_114), (6, .int a6_114)] [] := by
    intro a2_114 a3_114 a4_114 a5_114 a6_114 ha2_114 ha3_114
    refine g_iload_n (pc := 114) C dX4_doManyBits_114 rfl 1 rfl ?_
    refine g_sipush (pc := 115) C 13312 dX4_doManyBits_115 (by decide) ?_
    refine g_icmp_lt (pc := 118) C 130 dX4_doManyBits_118 (by decide) (fun c1 => ?_) (fun c1 => ?_)
    · have h2 : zI (-2147483648) 13311 p0 := zr_lt1 (zc_lt c1) (zi_full p0) (zi_c 13312 (a := 13312) (b := 13312) (by decide)) (by decide)
      exact g_sub [0, 1, 2, 3, 4, 5, 6] rfl (J130 a2_114 a3_114 a4_114 a5_114 a6_114 ha2_114 ha3_114)
    · have h3 : zI 13312 2147483647 p0 := zr_le2 (zc_nlt c1) (zi_c 13312 (a := 13312) (b := 13312) (by decide)) (zi_full p0) (by decide)
      refine g_aload_n (pc := 121) C dX4_doManyBits_121 rfl 0 rfl ?_
      refine g_iload (pc := 122) C dX4_doManyBits_122 4 rfl ?_
      refine g_iload (pc := 124) C dX4_doManyBits_124 5 rfl ?_
      refine g_iload_n (pc := 126) C dX4_doManyBits_126 rfl 3 rfl ?_
      refine zcallVv (pc := 127) (st := []) C C.2.2.2.2.2 (n_X4_putOperand l D ad cy tl A a4_114 a5_114 a3_114) (cwV 3 C.2.2.2.2.1 gw_RX4_200 rfl rfl rfl cd_X4_putOperand ⟨Nat.le_of_ble_eq_true rfl, Nat.le_of_ble_eq_true rfl⟩) (hc_19 C) rfl rfl (Nat.le_of_ble_eq_true rfl) ⟨Nat.le_of_ble_eq_true rfl, Nat.le_of_ble_eq_true rfl⟩ dX4_doManyBits_127 ?_
      exact g_sub [0, 1, 2, 3, 4, 5, 6] rfl (J130 a2_114 a3_114 a4_114 a5_114 a6_114 ha2_114 ha3_114)
  have J96 : ∀ (a2_96 : Int32) (a3_96 : Int32) (a4_96 : Int32) (a5_96 : Int32) (a6_96 : Int32) (_ : zI 1 16 a2_96) (_ : zI 0 1 a3_96), zG p l e ({ frames := 5, cells := 0, slots := 0, locals := 120 }) s m args below meth c 7 0 0 A Q (zMc D A ad cy tl) 96 [(0, .ref (ad 19)), (1, .int p0), (2, .int a2_96), (3, .int a3_96), (4, .int a4_96), (5, .int a5_96), (6, .int a6_96)] [] := by
    intro a2_96 a3_96 a4_96 a5_96 a6_96 ha2_96 ha3_96
    refine g_aload_n (pc := 96) C dX4_doManyBits_96 rfl 0 rfl ?_
    refine g_iload (pc := 97) C dX4_doManyBits_97 5 rfl ?_
    refine g_iconst (pc := 99) C 0 dX4_doManyBits_99 (by decide) ?_
    refine g_iload_n (pc := 100) C dX4_doManyBits_100 rfl 3 rfl ?_
    refine zcallVv (pc := 101) (st := []) C C.2.2.2.2.2 (n_X4_compare l D ad cy tl A a5_96 0 a3_96) (cwV 3 C.2.2.2.2.1 gw_RX4_145 rfl rfl rfl cd_X4_compare ⟨Nat.le_of_ble_eq_true rfl, Nat.le_of_ble_eq_true rfl⟩) (hc_19 C) rfl rfl (Nat.le_of_ble_eq_true rfl) ⟨Nat.le_of_ble_eq_true rfl, Nat.le_of_ble_eq_true rfl⟩ dX4_doManyBits_101 ?_
    refine g_iload_n (pc := 104) C dX4_doManyBits_104 rfl 3 rfl ?_
    refine g_if_eq (pc := 105) C 114 dX4_doManyBits_105 (by decide) (fun c4 => ?_) (fun c4 => ?_)
    · have h5 : zI 0 0 a3_96 := zr_eq c4 ha3_96 (zi_c 0 (a := 0) (b := 0) (by decide)) (by decide)
      exact g_sub [0, 1, 2, 3, 4, 5, 6] rfl (J114 a2_96 a3_96 a4_96 a5_96 a6_96 ha2_96 (zi_w h5 (a' := 0) (b' := 1) (by decide)))
    · have h6 : zI 1 1 a3_96 := zr_neL c4 ha3_96 (zi_c 0 (a := 0) (b := 0) (by decide)) (by decide)
      refine g_aload_n (pc := 108) C dX4_doManyBits_108 rfl 0 rfl ?_
      refine g_iload (pc := 109) C dX4_doManyBits_109 5 rfl ?_
      refine zcallVv (pc := 111) (st := []) C C.2.2.2.2.2 (n_X4_parity l D ad cy tl A a5_96) (cwV 1 C.2.2.2.2.1 gw_RX4_197 rfl rfl rfl cd_X4_parity ⟨Nat.le_of_ble_eq_true rfl, Nat.le_of_ble_eq_true rfl⟩) (hc_19 C) rfl rfl (Nat.le_of_ble_eq_true rfl) ⟨Nat.le_of_ble_eq_true rfl, Nat.le_of_ble_eq_true rfl⟩ dX4_doManyBits_111 ?_
      exact g_sub [0, 1, 2, 3, 4, 5, 6] rfl (J114 a2_96 a3_96 a4_96 a5_96 a6_96 ha2_96 (zi_w h6 (a' := 0) (b' := 1) (by decide)))
  have J60 : ∀ (a2_60 : Int32) (a3_60 : Int32) (a4_60 : Int32) (b0_60 : Int32) (_ : zI 1 16 a2_60) (_ : zI 0 1 a3_60), zG p l e ({ frames := 5, cells := 0, slots := 0, locals := 120 }) s m args below meth c 7 0 0 A Q (zMc D A ad cy tl) 60 [(0, .ref (ad 19)), (1, .int p0), (2, .int a2_60), (3, .int a3_60), (4, .int a4_60)] [.int b0_60] := by
    intro a2_60 a3_60 a4_60 b0_60 ha2_60 ha3_60
    refine g_istore (pc := 60) C ([(5, .int b0_60), (0, .ref (ad 19)), (1, .int p0), (2, .int a2_60), (3, .int a3_60), (4, .int a4_60)]) dX4_doManyBits_60 (Nat.le_of_ble_eq_true rfl) rfl ?_
    refine g_aload_n (pc := 62) C dX4_doManyBits_62 rfl 1 rfl ?_
    refine zcallVi (pc := 63) (st := []) C C.2.2.2.2.2 (n_X4_baseBit l D ad cy tl A ) (cwV 0 C.2.2.2.2.1 gw_RX4_178 rfl rfl rfl cd_X4_baseBit ⟨Nat.le_of_ble_eq_true rfl, Nat.le_of_ble_eq_true rfl⟩) (hc_19 C) rfl rfl (Nat.le_of_ble_eq_true rfl) ⟨Nat.le_of_ble_eq_true rfl, Nat.le_of_ble_eq_true rfl⟩ dX4_doManyBits_63 (fun r7 => ?_)
    refine g_istore (pc := 66) C ([(6, .int r7), (5, .int b0_60), (0, .ref (ad 19)), (1, .int p0), (2, .int a2_60), (3, .int a3_60), (4, .int a4_60)]) dX4_doManyBits_66 (Nat.le_of_ble_eq_true rfl) rfl ?_
    refine g_iload_n (pc := 68) C dX4_doManyBits_68 rfl 3 rfl ?_
    refine g_sipush (pc := 69) C 13312 dX4_doManyBits_69 (by decide) ?_
    refine g_icmp_ge (pc := 72) C 87 dX4_doManyBits_72 (by decide) (fun c8 => ?_) (fun c8 => ?_)
    · have h9 : zI 13312 2147483647 p0 := zr_le2 (zc_le c8) (zi_c 13312 (a := 13312) (b := 13312) (by decide)) (zi_full p0) (by decide)
      refine g_aload_n (pc := 87) C dX4_doManyBits_87 rfl 2 rfl ?_
      refine g_iload (pc := 88) C dX4_doManyBits_88 0 rfl ?_
      refine g_iload_n (pc := 90) C dX4_doManyBits_90 rfl 4 rfl ?_
      refine zcallVi (pc := 91) (st := []) C C.2.2.2.2.2 (n_X4_comingBits l D ad cy tl A r7 a2_60) (cwV 2 C.2.2.2.2.1 gw_RX4_194 rfl rfl rfl cd_X4_comingBits ⟨Nat.le_of_ble_eq_true rfl, Nat.le_of_ble_eq_true rfl⟩) (hc_19 C) rfl rfl (Nat.le_of_ble_eq_true rfl) ⟨Nat.le_of_ble_eq_true rfl, Nat.le_of_ble_eq_true rfl⟩ dX4_doManyBits_91 (fun r10 => ?_)
      refine g_istore (pc := 94) C ([(5, .int r10), (6, .int r7), (0, .ref (ad 19)), (1, .int p0), (2, .int a2_60), (3, .int a3_60), (4, .int a4_60)]) dX4_doManyBits_94 (Nat.le_of_ble_eq_true rfl) rfl ?_
      exact g_sub [2, 3, 4, 5, 6, 0, 1] rfl (J96 a2_60 a3_60 a4_60 r10 r7 ha2_60 ha3_60)
    · have h11 : zI (-2147483648) 13311 p0 := zr_lt1 (zc_nle c8) (zi_full p0) (zi_c 13312 (a := 13312) (b := 13312) (by decide)) (by decide)
      refine g_aload_n (pc := 75) C dX4_doManyBits_75 rfl 2 rfl ?_
      refine g_iload (pc := 76) C dX4_doManyBits_76 0 rfl ?_
      refine g_iload_n (pc := 78) C dX4_doManyBits_78 rfl 4 rfl ?_
      refine g_iload (pc := 79) C dX4_doManyBits_79 1 rfl ?_
      refine zcallVv (pc := 81) (st := []) C C.2.2.2.2.2 (n_X4_sendBits l D ad cy tl A r7 a2_60 b0_60) (cwV 3 C.2.2.2.2.1 gw_RX4_190 rfl rfl rfl cd_X4_sendBits ⟨Nat.le_of_ble_eq_true rfl, Nat.le_of_ble_eq_true rfl⟩) (hc_19 C) rfl rfl (Nat.le_of_ble_eq_true rfl) ⟨Nat.le_of_ble_eq_true rfl, Nat.le_of_ble_eq_true rfl⟩ dX4_doManyBits_81 ?_
      refine g_goto (pc := 84) C 96 dX4_doManyBits_84 (by decide) ?_
      exact g_sub [2, 3, 4, 5, 6, 1, 0] rfl (J96 a2_60 a3_60 a4_60 b0_60 r7 ha2_60 ha3_60)
  have J26 : ∀ (a2_26 : Int32) (b0_26 : Int32) (_ : zI 1 16 a2_26) (_ : zI 0 1 b0_26), zG p l e ({ frames := 5, cells := 0, slots := 0, locals := 120 }) s m args below meth c 7 0 0 A Q (zMc D A ad cy tl) 26 [(0, .ref (ad 19)), (1, .int p0), (2, .int a2_26)] [.int b0_26] := by
    intro a2_26 b0_26 ha2_26 hb0_26
    refine g_istore_n (pc := 26) C ([(3, .int b0_26), (0, .ref (ad 19)), (1, .int p0), (2, .int a2_26)]) dX4_doManyBits_26 rfl (Nat.le_of_ble_eq_true rfl) rfl ?_
    refine g_aload_n (pc := 27) C dX4_doManyBits_27 rfl 1 rfl ?_
    refine g_iload_n (pc := 28) C dX4_doManyBits_28 rfl 2 rfl ?_
    refine g_iload_n (pc := 29) C dX4_doManyBits_29 rfl 0 rfl ?_
    refine zcallVi (pc := 30) (st := []) C C.2.2.2.2.2 (n_X4_operandAddress l D ad cy tl A p0 b0_26) (cwV 2 C.2.2.2.2.1 gw_RX4_89 rfl rfl rfl cd_X4_operandAddress ⟨Nat.le_of_ble_eq_true rfl, Nat.le_of_ble_eq_true rfl⟩) (hc_19 C) rfl rfl (Nat.le_of_ble_eq_true rfl) ⟨Nat.le_of_ble_eq_true rfl, Nat.le_of_ble_eq_true rfl⟩ dX4_doManyBits_30 (fun r12 => ?_)
    refine g_istore (pc := 33) C ([(4, .int r12), (3, .int b0_26), (0, .ref (ad 19)), (1, .int p0), (2, .int a2_26)]) dX4_doManyBits_33 (Nat.le_of_ble_eq_true rfl) rfl ?_
    refine g_iload_n (pc := 35) C dX4_doManyBits_35 rfl 1 rfl ?_
    refine g_if_eq (pc := 36) C 51 dX4_doManyBits_36 (by decide) (fun c13 => ?_) (fun c13 => ?_)
    · have h14 : zI 0 0 b0_26 := zr_eq c13 hb0_26 (zi_c 0 (a := 0) (b := 0) (by decide)) (by decide)
      refine g_aload_n (pc := 51) C dX4_doManyBits_51 rfl 2 rfl ?_
      refine gc_19_0 (pc := 52) C wk_219 dX4_doManyBits_52 ?_
      refine g_iload (pc := 55) C dX4_doManyBits_55 0 rfl ?_
      refine zcallVi (pc := 57) (st := []) C C.2.2.2.2.2 (n_X2_wordAt l D ad cy tl A r12) (cwV 1 C.2.2.2.2.1 gw_RX4_25 rfl rfl rfl cd_X2_wordAt ⟨Nat.le_of_ble_eq_true rfl, Nat.le_of_ble_eq_true rfl⟩) (hc_12 C) rfl rfl (Nat.le_of_ble_eq_true rfl) ⟨Nat.le_of_ble_eq_true rfl, Nat.le_of_ble_eq_true rfl⟩ dX4_doManyBits_57 (fun r15 => ?_)
      exact g_sub [2, 3, 4, 1, 0] rfl (J60 a2_26 b0_26 r12 r15 ha2_26 (zi_w h14 (a' := 0) (b' := 1) (by decide)))
    · have h16 : zI 1 1 b0_26 := zr_neL c13 hb0_26 (zi_c 0 (a := 0) (b := 0) (by decide)) (by decide)
      refine g_aload_n (pc := 39) C dX4_doManyBits_39 rfl 2 rfl ?_
      refine gc_19_0 (pc := 40) C wk_219 dX4_doManyBits_40 ?_
      refine g_iload (pc := 43) C dX4_doManyBits_43 0 rfl ?_
      refine zcallVi (pc := 45) (st := []) C C.2.2.2.2.2 (n_X2_byteAt l D ad cy tl A r12) (cwV 1 C.2.2.2.2.1 gw_RX4_187 rfl rfl rfl cd_X2_byteAt ⟨Nat.le_of_ble_eq_true rfl, Nat.le_of_ble_eq_true rfl⟩) (hc_12 C) rfl rfl (Nat.le_of_ble_eq_true rfl) ⟨Nat.le_of_ble_eq_true rfl, Nat.le_of_ble_eq_true rfl⟩ dX4_doManyBits_45 (fun r17 => ?_)
      refine g_goto (pc := 48) C 60 dX4_doManyBits_48 (by decide) ?_
      exact g_sub [2, 3, 4, 1, 0] rfl (J60 a2_26 b0_26 r12 r17 ha2_26 (zi_w h16 (a' := 0) (b' := 1) (by decide)))
  have J15 : ∀ (a2_15 : Int32) (_ : zI 1 16 a2_15), zG p l e ({ frames := 5, cells := 0, slots := 0, locals := 120 }) s m args below meth c 7 0 0 A Q (zMc D A ad cy tl) 15 [(0, .ref (ad 19)), (1, .int p0), (2, .int a2_15)] [] := by
    intro a2_15 ha2_15
    refine g_iload_n (pc := 15) C dX4_doManyBits_15 rfl 2 rfl ?_
    refine g_bipush (pc := 16) C 8 dX4_doManyBits_16 (by decide) ?_
    refine g_icmp_gt (pc := 18) C 25 dX4_doManyBits_18 (by decide) (fun c18 => ?_) (fun c18 => ?_)
    · have h19 : zI 9 16 a2_15 := zr_lt2 (zc_lt c18) (zi_c 8 (a := 8) (b := 8) (by decide)) ha2_15 (by decide)
      refine g_iconst (pc := 25) C 0 dX4_doManyBits_25 (by decide) ?_
      exact g_sub [0, 1, 2] rfl (J26 a2_15 0 (zi_w h19 (a' := 1) (b' := 16) (by decide)) (zi_c 0 (a := 0) (b := 1) (by decide)))
    · have h20 : zI 1 8 a2_15 := zr_le1 (zc_nlt c18) ha2_15 (zi_c 8 (a := 8) (b := 8) (by decide)) (by decide)
      refine g_iconst (pc := 21) C 1 dX4_doManyBits_21 (by decide) ?_
      refine g_goto (pc := 22) C 26 dX4_doManyBits_22 (by decide) ?_
      exact g_sub [0, 1, 2] rfl (J26 a2_15 1 (zi_w h20 (a' := 1) (b' := 16) (by decide)) (zi_c 1 (a := 0) (b := 1) (by decide)))
  refine g_sub (lv' := [(0, .ref (ad 19)), (1, .int p0)]) [0, 1] rfl ?_
  refine g_iload_n (pc := 0) C dX4_doManyBits_0 rfl 1 rfl ?_
  refine g_bipush (pc := 1) C 6 dX4_doManyBits_1 (by decide) ?_
  refine g_ishr (pc := 3) C dX4_doManyBits_3 (fun z21 ez21 => ?_)
  refine g_bipush (pc := 4) C 15 dX4_doManyBits_4 (by decide) ?_
  refine g_iand (pc := 6) C dX4_doManyBits_6 (fun z22 ez22 => ?_)
  have hz22 : zI 0 15 z22 := zi_and1 (zi_c 15 (a := 0) (b := 15) (by decide)) ez22
  refine g_istore_n (pc := 7) C ([(2, .int z22), (0, .ref (ad 19)), (1, .int p0)]) dX4_doManyBits_7 rfl (Nat.le_of_ble_eq_true rfl) rfl ?_
  refine g_iload_n (pc := 8) C dX4_doManyBits_8 rfl 0 rfl ?_
  refine g_if_ne (pc := 9) C 15 dX4_doManyBits_9 (by decide) (fun c23 => ?_) (fun c23 => ?_)
  · have h24 : zI 1 15 z22 := zr_neL c23 hz22 (zi_c 0 (a := 0) (b := 0) (by decide)) (by decide)
    exact g_sub [1, 2, 0] rfl (J15 z22 (zi_w h24 (a' := 1) (b' := 16) (by decide)))
  · have h25 : zI 0 0 z22 := zr_eq c23 hz22 (zi_c 0 (a := 0) (b := 0) (by decide)) (by decide)
    refine g_bipush (pc := 12) C 16 dX4_doManyBits_12 (by decide) ?_
    refine g_istore_n (pc := 14) C ([(2, .int 16), (0, .ref (ad 19)), (1, .int p0)]) dX4_doManyBits_14 rfl (Nat.le_of_ble_eq_true rfl) rfl ?_
    exact g_sub [1, 2, 0] rfl (J15 16 (zi_c 16 (a := 1) (b := 16) (by decide)))

set_option maxHeartbeats 2000000 in
set_option maxRecDepth 100000 in
theorem n_X4_doWithRegister (l : Launch) (D : va_G) (ad : Nat → Nat) (cy : Nat → ClassId) (tl : Int32) (A : Nat → Prop) (p0 : Int32) : zMv l yX4_doWithRegister wz_X4_doWithRegister ({ frames := 5, cells := 0, slots := 0, locals := 120 }) [.ref (ad 19), .int p0] D (zTc cy) A (zMc D A ad cy tl) (zMc D A ad cy tl) := by
  refine zstart_v (cc := cX4_doWithRegister) (maxL := 8) (own := RX4) (by decide) rfl rfl (Nat.le_of_ble_eq_true rfl) (fun p e s m args below meth c Q C r => ?_)
  have J204 : ∀ (a2_204 : Int32) (a3_204 : Int32) (a4_204 : Int32) (a5_204 : Int32) (a6_204 : Int32) (a7_204 : Int32) (_ : zI 0 64512 a3_204) (_ : zI 0 15 a4_204), zG p l e ({ frames := 5, cells := 0, slots := 0, locals := 120 }) s m args below meth c 8 0 0 A Q (zMc D A ad cy tl) 204 [(0, .ref (ad 19)), (1, .int p0), (2, .int a2_204), (3, .int a3_204), (4, .int a4_204), (5, .int a5_204), (6, .int a6_204), (7, .int a7_204)] [] := by
    intro a2_204 a3_204 a4_204 a5_204 a6_204 a7_204 ha3_204 ha4_204
    exact g_return r dX4_doWithRegister_204 (fun _ h => h)
  have J147 : ∀ (a2_147 : Int32) (a3_147 : Int32) (a4_147 : Int32) (a5_147 : Int32) (a6_147 : Int32) (a7_147 : Int32) (b0_147 : Int32) (_ : zI 0 64512 a3_147) (_ : zI 0 15 a4_147) (_ : zI 0 1 b0_147), zG p l e ({ frames := 5, cells := 0, slots := 0, locals := 120 }) s m args below meth c 8 0 0 A Q (zMc D A ad cy tl) 147 [(0, .ref (ad 19)), (1, .int p0), (2, .int a2_147), (3, .int a3_147), (4, .int a4_147), (5, .int a5_147), (6, .int a6_147), (7, .int a7_147)] [.int b0_147, .int 8192, .ref (ad 19)] := by
    intro a2_147 a3_147 a4_147 a5_147 a6_147 a7_147 b0_147 ha3_147 ha4_147 hb0_147
    refine zcallVv (pc := 147) (st := []) C C.2.2.2.2.2 (n_X4_flag l D ad cy tl A 8192 b0_147) (cwV 2 C.2.2.2.2.1 gw_RX4_136 rfl rfl rfl cd_X4_flag ⟨Nat.le_of_ble_eq_true rfl, Nat.le_of_ble_eq_true rfl⟩) (hc_19 C) rfl rfl (Nat.le_of_ble_eq_true rfl) ⟨Nat.le_of_ble_eq_true rfl, Nat.le_of_ble_eq_true rfl⟩ dX4_doWithRegister_147 ?_
    refine g_goto (pc := 150) C 204 dX4_doWithRegister_150 (by decide) ?_
    exact g_sub [0, 1, 2, 3, 4, 5, 6, 7] rfl (J204 a2_147 a3_147 a4_147 a5_147 a6_147 a7_147 ha3_147 ha4_147)
  have J170 : ∀ (a2_170 : Int32) (a3_170 : Int32) (a4_170 : Int32) (a5_170 : Int32) (a6_170 : Int32) (a7_170 : Int32) (b0_170 : Int32) (_ : zI 0 64512 a3_170) (_ : zI 0 15 a4_170) (_ : zI 0 1 b0_170), zG p l e ({ frames := 5, cells := 0, slots := 0, locals := 120 }) s m args below meth c 8 0 0 A Q (zMc D A ad cy tl) 170 [(0, .ref (ad 19)), (1, .int p0), (2, .int a2_170), (3, .int a3_170), (4, .int a4_170), (5, .int a5_170), (6, .int a6_170), (7, .int a7_170)] [.int b0_170, .int 8192, .ref (ad 19)] := by
    intro a2_170 a3_170 a4_170 a5_170 a6_170 a7_170 b0_170 ha3_170 ha4_170 hb0_170
    refine zcallVv (pc := 170) (st := []) C C.2.2.2.2.2 (n_X4_flag l D ad cy tl A 8192 b0_170) (cwV 2 C.2.2.2.2.1 gw_RX4_136 rfl rfl rfl cd_X4_flag ⟨Nat.le_of_ble_eq_true rfl, Nat.le_of_ble_eq_true rfl⟩) (hc_19 C) rfl rfl (Nat.le_of_ble_eq_true rfl) ⟨Nat.le_of_ble_eq_true rfl, Nat.le_of_ble_eq_true rfl⟩ dX4_doWithRegister_170 ?_
    refine g_goto (pc := 173) C 204 dX4_doWithRegister_173 (by decide) ?_
    exact g_sub [0, 1, 2, 3, 4, 5, 6, 7] rfl (J204 a2_170 a3_170 a4_170 a5_170 a6_170 a7_170 ha3_170 ha4_170)
  refine g_sub (lv' := [(0, .ref (ad 19)), (1, .int p0)]) [0, 1] rfl ?_
  refine g_aload_n (pc := 0) C dX4_doWithRegister_0 rfl 0 rfl ?_
  refine g_iload_n (pc := 1) C dX4_doWithRegister_1 rfl 1 rfl ?_
  refine g_iconst (pc := 2) C 0 dX4_doWithRegister_2 (by decide) ?_
  refine zcallVi (pc := 3) (st := []) C C.2.2.2.2.2 (n_X4_operandAddress l D ad cy tl A p0 0) (cwV 2 C.2.2.2.2.1 gw_RX4_89 rfl rfl rfl cd_X4_operandAddress ⟨Nat.le_of_ble_eq_true rfl, Nat.le_of_ble_eq_true rfl⟩) (hc_19 C) rfl rfl (Nat.le_of_ble_eq_true rfl) ⟨Nat.le_of_ble_eq_true rfl, Nat.le_of_ble_eq_true rfl⟩ dX4_doWithRegister_3 (fun r1 => ?_)
  refine g_istore_n (pc := 6) C ([(2, .int r1), (0, .ref (ad 19)), (1, .int p0)]) dX4_doWithRegister_6 rfl (Nat.le_of_ble_eq_true rfl) rfl ?_
  refine g_iload_n (pc := 7) C dX4_doWithRegister_7 rfl 2 rfl ?_
  refine g_ldc (pc := 8) C dX4_doWithRegister_8 (C.wd wk_627) ?_
  refine g_iand (pc := 10) C dX4_doWithRegister_10 (fun z2 ez2 => ?_)
  have hz2 : zI 0 64512 z2 := zi_and1 (zi_c 64512 (a := 0) (b := 64512) (by decide)) ez2
  refine g_istore_n (pc := 11) C ([(3, .int z2), (2, .int r1), (0, .ref (ad 19)), (1, .int p0)]) dX4_doWithRegister_11 rfl (Nat.le_of_ble_eq_true rfl) rfl ?_
  refine g_iload_n (pc := 12) C dX4_doWithRegister_12 rfl 3 rfl ?_
  refine g_bipush (pc := 13) C 6 dX4_doWithRegister_13 (by decide) ?_
  refine g_ishr (pc := 15) C dX4_doWithRegister_15 (fun z3 ez3 => ?_)
  refine g_bipush (pc := 16) C 15 dX4_doWithRegister_16 (by decide) ?_
  refine g_iand (pc := 18) C dX4_doWithRegister_18 (fun z4 ez4 => ?_)
  have hz4 : zI 0 15 z4 := zi_and1 (zi_c 15 (a := 0) (b := 15) (by decide)) ez4
  refine g_istore (pc := 19) C ([(4, .int z4), (3, .int z2), (2, .int r1), (0, .ref (ad 19)), (1, .int p0)]) dX4_doWithRegister_19 (Nat.le_of_ble_eq_true rfl) rfl ?_
  refine g_iload_n (pc := 21) C dX4_doWithRegister_21 rfl 1 rfl ?_
  refine g_sipush (pc := 22) C 11264 dX4_doWithRegister_22 (by decide) ?_
  refine g_icmp_ne (pc := 25) C 62 dX4_doWithRegister_25 (by decide) (fun c5 => ?_) (fun c5 => ?_)
  · refine g_aload_n (pc := 62) C dX4_doWithRegister_62 rfl 3 rfl ?_
    refine gc_19_0 (pc := 63) C wk_219 dX4_doWithRegister_63 ?_
    refine g_iload_n (pc := 66) C dX4_doWithRegister_66 rfl 2 rfl ?_
    refine zcallVi (pc := 67) (st := []) C C.2.2.2.2.2 (n_X2_wordAt l D ad cy tl A r1) (cwV 1 C.2.2.2.2.1 gw_RX4_25 rfl rfl rfl cd_X2_wordAt ⟨Nat.le_of_ble_eq_true rfl, Nat.le_of_ble_eq_true rfl⟩) (hc_12 C) rfl rfl (Nat.le_of_ble_eq_true rfl) ⟨Nat.le_of_ble_eq_true rfl, Nat.le_of_ble_eq_true rfl⟩ dX4_doWithRegister_67 (fun r6 => ?_)
    refine g_istore (pc := 70) C ([(5, .int r6), (4, .int z4), (3, .int z2), (2, .int r1), (0, .ref (ad 19)), (1, .int p0)]) dX4_doWithRegister_70 (Nat.le_of_ble_eq_true rfl) rfl ?_
    refine g_aload_n (pc := 72) C dX4_doWithRegister_72 rfl 4 rfl ?_
    refine g_iload (pc := 73) C dX4_doWithRegister_73 1 rfl ?_
    refine zcallVi (pc := 75) (st := []) C C.2.2.2.2.2 (n_X4_registerAddress l D ad cy tl A z4) (cwV 1 C.2.2.2.2.1 gw_RX4_128 rfl rfl rfl cd_X4_registerAddress ⟨Nat.le_of_ble_eq_true rfl, Nat.le_of_ble_eq_true rfl⟩) (hc_19 C) rfl rfl (Nat.le_of_ble_eq_true rfl) ⟨Nat.le_of_ble_eq_true rfl, Nat.le_of_ble_eq_true rfl⟩ dX4_doWithRegister_75 (fun r7 => ?_)
    refine g_istore (pc := 78) C ([(6, .int r7), (5, .int r6), (4, .int z4), (3, .int z2), (2, .int r1), (0, .ref (ad 19)), (1, .int p0)]) dX4_doWithRegister_78 (Nat.le_of_ble_eq_true rfl) rfl ?_
    refine g_aload_n (pc := 80) C dX4_doWithRegister_80 rfl 5 rfl ?_
    refine gc_19_0 (pc := 81) C wk_219 dX4_doWithRegister_81 ?_
    refine g_iload (pc := 84) C dX4_doWithRegister_84 0 rfl ?_
    refine zcallVi (pc := 86) (st := []) C C.2.2.2.2.2 (n_X2_wordAt l D ad cy tl A r7) (cwV 1 C.2.2.2.2.1 gw_RX4_25 rfl rfl rfl cd_X2_wordAt ⟨Nat.le_of_ble_eq_true rfl, Nat.le_of_ble_eq_true rfl⟩) (hc_12 C) rfl rfl (Nat.le_of_ble_eq_true rfl) ⟨Nat.le_of_ble_eq_true rfl, Nat.le_of_ble_eq_true rfl⟩ dX4_doWithRegister_86 (fun r8 => ?_)
    refine g_istore (pc := 89) C ([(7, .int r8), (6, .int r7), (5, .int r6), (4, .int z4), (3, .int z2), (2, .int r1), (0, .ref (ad 19)), (1, .int p0)]) dX4_doWithRegister_89 (Nat.le_of_ble_eq_true rfl) rfl ?_
    refine g_iload_n (pc := 91) C dX4_doWithRegister_91 rfl 4 rfl ?_
    refine g_lookup (pc := 92) C [204, 128, 153, 176] dX4_doWithRegister_92 (by decide) (by decide) (List.forall_mem_cons.mpr ⟨?_, (List.forall_mem_cons.mpr ⟨?_, (List.forall_mem_cons.mpr ⟨?_, (List.forall_mem_cons.mpr ⟨?_, fun _ h => absurd h List.not_mem_nil⟩)⟩)⟩)⟩)
    · exact g_sub [6, 7, 5, 4, 3, 2, 1, 0] rfl (J204 r1 z2 z4 r6 r7 r8 hz2 hz4)
    · refine g_aload_n (pc := 128) C dX4_doWithRegister_128 rfl 6 rfl ?_
      refine g_sipush (pc := 129) C 8192 dX4_doWithRegister_129 (by decide) ?_
      refine g_iload (pc := 132) C dX4_doWithRegister_132 2 rfl ?_
      refine g_iload (pc := 134) C dX4_doWithRegister_134 0 rfl ?_
      refine g_iconst (pc := 136) C (-1) dX4_doWithRegister_136 (by decide) ?_
      refine g_ixor (pc := 137) C dX4_doWithRegister_137 (fun z9 ez9 => ?_)
      refine g_iand (pc := 138) C dX4_doWithRegister_138 (fun z10 ez10 => ?_)
      refine g_if_ne (pc := 139) C 146 dX4_doWithRegister_139 (by decide) (fun c11 => ?_) (fun c11 => ?_)
      · refine g_iconst (pc := 146) C 0 dX4_doWithRegister_146 (by decide) ?_
        exact g_sub [6, 7, 5, 4, 3, 2, 1, 0] rfl (J147 r1 z2 z4 r6 r7 r8 0 hz2 hz4 (zi_c 0 (a := 0) (b := 1) (by decide)))
      · have h12 : zI 0 0 z10 := zr_eq c11 (zi_full z10) (zi_c 0 (a := 0) (b := 0) (by decide)) (by decide)
        refine g_iconst (pc := 142) C 1 dX4_doWithRegister_142 (by decide) ?_
        refine g_goto (pc := 143) C 147 dX4_doWithRegister_143 (by decide) ?_
        exact g_sub [6, 7, 5, 4, 3, 2, 1, 0] rfl (J147 r1 z2 z4 r6 r7 r8 1 hz2 hz4 (zi_c 1 (a := 0) (b := 1) (by decide)))
    · refine g_aload_n (pc := 153) C dX4_doWithRegister_153 rfl 6 rfl ?_
      refine g_sipush (pc := 154) C 8192 dX4_doWithRegister_154 (by decide) ?_
      refine g_iload (pc := 157) C dX4_doWithRegister_157 2 rfl ?_
      refine g_iload (pc := 159) C dX4_doWithRegister_159 0 rfl ?_
      refine g_iand (pc := 161) C dX4_doWithRegister_161 (fun z13 ez13 => ?_)
      refine g_if_ne (pc := 162) C 169 dX4_doWithRegister_162 (by decide) (fun c14 => ?_) (fun c14 => ?_)
      · refine g_iconst (pc := 169) C 0 dX4_doWithRegister_169 (by decide) ?_
        exact g_sub [6, 7, 5, 4, 3, 2, 1, 0] rfl (J170 r1 z2 z4 r6 r7 r8 0 hz2 hz4 (zi_c 0 (a := 0) (b := 1) (by decide)))
      · have h15 : zI 0 0 z13 := zr_eq c14 (zi_full z13) (zi_c 0 (a := 0) (b := 0) (by decide)) (by decide)
        refine g_iconst (pc := 165) C 1 dX4_doWithRegister_165 (by decide) ?_
        refine g_goto (pc := 166) C 170 dX4_doWithRegister_166 (by decide) ?_
        exact g_sub [6, 7, 5, 4, 3, 2, 1, 0] rfl (J170 r1 z2 z4 r6 r7 r8 1 hz2 hz4 (zi_c 1 (a := 0) (b := 1) (by decide)))
    · refine g_aload_n (pc := 176) C dX4_doWithRegister_176 rfl 6 rfl ?_
      refine g_iload (pc := 177) C dX4_doWithRegister_177 0 rfl ?_
      refine g_iload (pc := 179) C dX4_doWithRegister_179 2 rfl ?_
      refine g_ixor (pc := 181) C dX4_doWithRegister_181 (fun z16 ez16 => ?_)
      refine g_iconst (pc := 182) C 0 dX4_doWithRegister_182 (by decide) ?_
      refine g_iconst (pc := 183) C 0 dX4_doWithRegister_183 (by decide) ?_
      refine zcallVv (pc := 184) (st := []) C C.2.2.2.2.2 (n_X4_compare l D ad cy tl A z16 0 0) (cwV 3 C.2.2.2.2.1 gw_RX4_145 rfl rfl rfl cd_X4_compare ⟨Nat.le_of_ble_eq_true rfl, Nat.le_of_ble_eq_true rfl⟩) (hc_19 C) rfl rfl (Nat.le_of_ble_eq_true rfl) ⟨Nat.le_of_ble_eq_true rfl, Nat.le_of_ble_eq_true rfl⟩ dX4_doWithRegister_184 ?_
      refine g_aload_n (pc := 187) C dX4_doWithRegister_187 rfl 6 rfl ?_
      refine gc_19_0 (pc := 188) C wk_219 dX4_doWithRegister_188 ?_
      refine g_iload (pc := 191) C dX4_doWithRegister_191 1 rfl ?_
      refine g_iload (pc := 193) C dX4_doWithRegister_193 0 rfl ?_
      refine g_iload (pc := 195) C dX4_doWithRegister_195 2 rfl ?_
      refine g_ixor (pc := 197) C dX4_doWithRegister_197 (fun z17 ez17 => ?_)
      refine zcallVv (pc := 198) (st := []) C C.2.2.2.2.2 (n_X2_putWord l D ad cy tl A r7 z17) (cwV 2 C.2.2.2.2.1 gw_RX4_131 rfl rfl rfl cd_X2_putWord ⟨Nat.le_of_ble_eq_true rfl, Nat.le_of_ble_eq_true rfl⟩) (hc_12 C) rfl rfl (Nat.le_of_ble_eq_true rfl) ⟨Nat.le_of_ble_eq_true rfl, Nat.le_of_ble_eq_true rfl⟩ dX4_doWithRegister_198 ?_
      refine g_goto (pc := 201) C 204 dX4_doWithRegister_201 (by decide) ?_
      exact g_sub [6, 7, 5, 4, 3, 2, 1, 0] rfl (J204 r1 z2 z4 r6 r7 r8 hz2 hz4)
  · have h18 : zI 11264 11264 z2 := zr_eq c5 hz2 (zi_c 11264 (a := 11264) (b := 11264) (by decide)) (by decide)
    refine g_aload_n (pc := 28) C dX4_doWithRegister_28 rfl 3 rfl ?_
    refine g_bipush (pc := 29) C 64 dX4_doWithRegister_29 (by decide) ?_
    refine g_iconst (pc := 31) C 4 dX4_doWithRegister_31 (by decide) ?_
    refine g_iload (pc := 32) C dX4_doWithRegister_32 0 rfl ?_
    refine g_imul (pc := 34) C dX4_doWithRegister_34 (fun z19 ez19 => ?_)
    have hz19 : zI 0 60 z19 := zi_mul (zi_c 4 (a := 4) (b := 4) (by decide)) hz4 ez19 (by decide)
    refine g_iadd (pc := 35) C dX4_doWithRegister_35 (fun z20 ez20 => ?_)
    have hz20 : zI 64 124 z20 := zi_add (zi_c 64 (a := 64) (b := 64) (by decide)) hz19 ez20 (by decide)
    refine zcallVv (pc := 36) (st := []) C C.2.2.2.2.2 (n_X4_enter l D ad cy tl A z20) (cwV 1 C.2.2.2.2.1 gw_RX4_59 rfl rfl rfl cd_X4_enter ⟨Nat.le_of_ble_eq_true rfl, Nat.le_of_ble_eq_true rfl⟩) (hc_19 C) rfl rfl (Nat.le_of_ble_eq_true rfl) ⟨Nat.le_of_ble_eq_true rfl, Nat.le_of_ble_eq_true rfl⟩ dX4_doWithRegister_36 ?_
    refine g_aload_n (pc := 39) C dX4_doWithRegister_39 rfl 3 rfl ?_
    refine gc_19_0 (pc := 40) C wk_219 dX4_doWithRegister_40 ?_
    refine g_aload_n (pc := 43) C dX4_doWithRegister_43 rfl 3 rfl ?_
    refine g_bipush (pc := 44) C 11 dX4_doWithRegister_44 (by decide) ?_
    refine zcallVi (pc := 46) (st := [.ref (ad 12)]) C C.2.2.2.2.2 (n_X4_registerAddress l D ad cy tl A 11) (cwV 1 C.2.2.2.2.1 gw_RX4_128 rfl rfl rfl cd_X4_registerAddress ⟨Nat.le_of_ble_eq_true rfl, Nat.le_of_ble_eq_true rfl⟩) (hc_19 C) rfl rfl (Nat.le_of_ble_eq_true rfl) ⟨Nat.le_of_ble_eq_true rfl, Nat.le_of_ble_eq_true rfl⟩ dX4_doWithRegister_46 (fun r21 => ?_)
    refine g_iload_n (pc := 49) C dX4_doWithRegister_49 rfl 2 rfl ?_
    refine zcallVv (pc := 50) (st := []) C C.2.2.2.2.2 (n_X2_putWord l D ad cy tl A r21 r1) (cwV 2 C.2.2.2.2.1 gw_RX4_131 rfl rfl rfl cd_X2_putWord ⟨Nat.le_of_ble_eq_true rfl, Nat.le_of_ble_eq_true rfl⟩) (hc_12 C) rfl rfl (Nat.le_of_ble_eq_true rfl) ⟨Nat.le_of_ble_eq_true rfl, Nat.le_of_ble_eq_true rfl⟩ dX4_doWithRegister_50 ?_
    refine g_aload_n (pc := 53) C dX4_doWithRegister_53 rfl 3 rfl ?_
    refine g_sipush (pc := 54) C 512 dX4_doWithRegister_54 (by decide) ?_
    refine g_iconst (pc := 57) C 1 dX4_doWithRegister_57 (by decide) ?_
    refine zcallVv (pc := 58) (st := []) C C.2.2.2.2.2 (n_X4_flag l D ad cy tl A 512 1) (cwV 2 C.2.2.2.2.1 gw_RX4_136 rfl rfl rfl cd_X4_flag ⟨Nat.le_of_ble_eq_true rfl, Nat.le_of_ble_eq_true rfl⟩) (hc_19 C) rfl rfl (Nat.le_of_ble_eq_true rfl) ⟨Nat.le_of_ble_eq_true rfl, Nat.le_of_ble_eq_true rfl⟩ dX4_doWithRegister_58 ?_
    exact g_return r dX4_doWithRegister_61 (fun _ h => h)

set_option maxHeartbeats 2000000 in
set_option maxRecDepth 100000 in
theorem n_X4_divide (l : Launch) (D : va_G) (ad : Nat → Nat) (cy : Nat → ClassId) (tl : Int32) (A : Nat → Prop) (p0 : Int32) (p1 : Int32) (p2 : Int32) : zMv l yX4_divide wz_X4_divide ({ frames := 4, cells := 0, slots := 0, locals := 95 }) [.ref (ad 19), .int p0, .int p1, .int p2] D (zTc cy) A (zMc D A ad cy tl) (zMc D A ad cy tl) := by
  refine zstart_v (cc := cX4_divide) (maxL := 6) (own := RX4) (by decide) rfl rfl (Nat.le_of_ble_eq_true rfl) (fun p e s m args below meth c Q C r => ?_)
  have J26 : zG p l e ({ frames := 4, cells := 0, slots := 0, locals := 95 }) s m args below meth c 6 0 0 A Q (zMc D A ad cy tl) 26 [(0, .ref (ad 19)), (1, .int p0), (2, .int p1), (3, .int p2)] [] := by
    exact g_return r dX4_divide_26 (fun _ h => h)
  have J14 : ∀ (b0_14 : Int32) (_ : zI 0 1 b0_14), zG p l e ({ frames := 4, cells := 0, slots := 0, locals := 95 }) s m args below meth c 6 0 0 A Q (zMc D A ad cy tl) 14 [(0, .ref (ad 19)), (1, .int p0), (2, .int p1), (3, .int p2)] [.int b0_14, .int 2048, .ref (ad 19)] := by
    intro b0_14 hb0_14
    refine zcallVv (pc := 14) (st := []) C C.2.2.2.2.2 (n_X4_flag l D ad cy tl A 2048 b0_14) (cwV 2 C.2.2.2.2.1 gw_RX4_136 rfl rfl rfl cd_X4_flag ⟨Nat.le_of_ble_eq_true rfl, Nat.le_of_ble_eq_true rfl⟩) (hc_19 C) rfl rfl (Nat.le_of_ble_eq_true rfl) ⟨Nat.le_of_ble_eq_true rfl, Nat.le_of_ble_eq_true rfl⟩ dX4_divide_14 ?_
    refine g_iload_n (pc := 17) C dX4_divide_17 rfl 3 rfl ?_
    refine g_iload_n (pc := 18) C dX4_divide_18 rfl 2 rfl ?_
    refine g_icmp_le (pc := 19) C 26 dX4_divide_19 (by decide) (fun c1 => ?_) (fun c1 => ?_)
    · exact g_sub [0, 1, 2, 3] rfl (J26 )
    · have h2 : zI (-2147483648) 2147483646 p1 := zr_lt1 (zc_nle c1) (zi_full p1) (zi_full p2) (by decide)
      have h3 : zI (-2147483647) 2147483647 p2 := zr_lt2 (zc_nle c1) (zi_full p1) (zi_full p2) (by decide)
      refine g_iload_n (pc := 22) C dX4_divide_22 rfl 3 rfl ?_
      refine g_if_ne (pc := 23) C 27 dX4_divide_23 (by decide) (fun c4 => ?_) (fun c4 => ?_)
      · refine g_iload_n (pc := 27) C dX4_divide_27 rfl 2 rfl ?_
        refine g_i2l (pc := 28) C dX4_divide_28 (fun z5 ez5 => ?_)
        refine g_bipush (pc := 29) C 16 dX4_divide_29 (by decide) ?_
        refine g_lshl (pc := 31) C dX4_divide_31 (fun z6 ez6 => ?_)
        refine g_aload_n (pc := 32) C dX4_divide_32 rfl 0 rfl ?_
        refine gc_19_0 (pc := 33) C wk_219 dX4_divide_33 ?_
        refine g_iload_n (pc := 36) C dX4_divide_36 rfl 1 rfl ?_
        refine g_iconst (pc := 37) C 2 dX4_divide_37 (by decide) ?_
        refine g_iadd (pc := 38) C dX4_divide_38 (fun z7 ez7 => ?_)
        refine zcallVi (pc := 39) (st := [.long z6]) C C.2.2.2.2.2 (n_X2_wordAt l D ad cy tl A z7) (cwV 1 C.2.2.2.2.1 gw_RX4_25 rfl rfl rfl cd_X2_wordAt ⟨Nat.le_of_ble_eq_true rfl, Nat.le_of_ble_eq_true rfl⟩) (hc_12 C) rfl rfl (Nat.le_of_ble_eq_true rfl) ⟨Nat.le_of_ble_eq_true rfl, Nat.le_of_ble_eq_true rfl⟩ dX4_divide_39 (fun r8 => ?_)
        refine g_i2l (pc := 42) C dX4_divide_42 (fun z9 ez9 => ?_)
        refine g_lor (pc := 43) C dX4_divide_43 (fun z10 ez10 => ?_)
        refine g_lstore (pc := 44) C ([(4, .long z10), (0, .ref (ad 19)), (1, .int p0), (2, .int p1), (3, .int p2)]) dX4_divide_44 (Nat.le_of_ble_eq_true rfl) rfl ?_
        refine g_aload_n (pc := 46) C dX4_divide_46 rfl 1 rfl ?_
        refine gc_19_0 (pc := 47) C wk_219 dX4_divide_47 ?_
        refine g_iload_n (pc := 50) C dX4_divide_50 rfl 2 rfl ?_
        refine g_lload (pc := 51) C dX4_divide_51 0 rfl ?_
        refine g_iload_n (pc := 53) C dX4_divide_53 rfl 4 rfl ?_
        refine g_i2l (pc := 54) C dX4_divide_54 (fun z11 ez11 => ?_)
        refine g_ldiv (pc := 55) C dX4_divide_55 (z_ne64 c4 ez11) (fun z12 ez12 => ?_)
        refine g_l2i (pc := 56) C dX4_divide_56 (fun z13 ez13 => ?_)
        refine zcallVv (pc := 57) (st := []) C C.2.2.2.2.2 (n_X2_putWord l D ad cy tl A p0 z13) (cwV 2 C.2.2.2.2.1 gw_RX4_131 rfl rfl rfl cd_X2_putWord ⟨Nat.le_of_ble_eq_true rfl, Nat.le_of_ble_eq_true rfl⟩) (hc_12 C) rfl rfl (Nat.le_of_ble_eq_true rfl) ⟨Nat.le_of_ble_eq_true rfl, Nat.le_of_ble_eq_true rfl⟩ dX4_divide_57 ?_
        refine g_aload_n (pc := 60) C dX4_divide_60 rfl 1 rfl ?_
        refine gc_19_0 (pc := 61) C wk_219 dX4_divide_61 ?_
        refine g_iload_n (pc := 64) C dX4_divide_64 rfl 2 rfl ?_
        refine g_iconst (pc := 65) C 2 dX4_divide_65 (by decide) ?_
        refine g_iadd (pc := 66) C dX4_divide_66 (fun z14 ez14 => ?_)
        refine g_lload (pc := 67) C dX4_divide_67 0 rfl ?_
        refine g_iload_n (pc := 69) C dX4_divide_69 rfl 4 rfl ?_
        refine g_i2l (pc := 70) C dX4_divide_70 (fun z15 ez15 => ?_)
        refine g_lrem (pc := 71) C dX4_divide_71 (z_ne64 c4 ez15) (fun z16 ez16 => ?_)
        refine g_l2i (pc := 72) C dX4_divide_72 (fun z17 ez17 => ?_)
        refine zcallVv (pc := 73) (st := []) C C.2.2.2.2.2 (n_X2_putWord l D ad cy tl A z14 z17) (cwV 2 C.2.2.2.2.1 gw_RX4_131 rfl rfl rfl cd_X2_putWord ⟨Nat.le_of_ble_eq_true rfl, Nat.le_of_ble_eq_true rfl⟩) (hc_12 C) rfl rfl (Nat.le_of_ble_eq_true rfl) ⟨Nat.le_of_ble_eq_true rfl, Nat.le_of_ble_eq_true rfl⟩ dX4_divide_73 ?_
        exact g_return r dX4_divide_76 (fun _ h => h)
      · have h18 : zI 0 0 p2 := zr_eq c4 h3 (zi_c 0 (a := 0) (b := 0) (by decide)) (by decide)
        exact g_sub [0, 1, 2, 3] rfl (J26 )
  refine g_sub (lv' := [(0, .ref (ad 19)), (1, .int p0), (2, .int p1), (3, .int p2)]) [0, 1, 2, 3] rfl ?_
  refine g_aload_n (pc := 0) C dX4_divide_0 rfl 0 rfl ?_
  refine g_sipush (pc := 1) C 2048 dX4_divide_1 (by decide) ?_
  refine g_iload_n (pc := 4) C dX4_divide_4 rfl 3 rfl ?_
  refine g_iload_n (pc := 5) C dX4_divide_5 rfl 2 rfl ?_
  refine g_icmp_gt (pc := 6) C 13 dX4_divide_6 (by decide) (fun c19 => ?_) (fun c19 => ?_)
  · have h20 : zI (-2147483648) 2147483646 p1 := zr_lt1 (zc_lt c19) (zi_full p1) (zi_full p2) (by decide)
    have h21 : zI (-2147483647) 2147483647 p2 := zr_lt2 (zc_lt c19) (zi_full p1) (zi_full p2) (by decide)
    refine g_iconst (pc := 13) C 0 dX4_divide_13 (by decide) ?_
    exact g_sub [0, 1, 2, 3] rfl (J14 0 (zi_c 0 (a := 0) (b := 1) (by decide)))
  · refine g_iconst (pc := 9) C 1 dX4_divide_9 (by decide) ?_
    refine g_goto (pc := 10) C 14 dX4_divide_10 (by decide) ?_
    exact g_sub [0, 1, 2, 3] rfl (J14 1 (zi_c 1 (a := 0) (b := 1) (by decide)))

set_option maxHeartbeats 2000000 in
set_option maxRecDepth 100000 in
theorem n_X4_doLongArithmetic (l : Launch) (D : va_G) (ad : Nat → Nat) (cy : Nat → ClassId) (tl : Int32) (A : Nat → Prop) (p0 : Int32) : zMv l yX4_doLongArithmetic wz_X4_doLongArithmetic ({ frames := 5, cells := 0, slots := 0, locals := 120 }) [.ref (ad 19), .int p0] D (zTc cy) A (zMc D A ad cy tl) (zMc D A ad cy tl) := by
  refine zstart_v (cc := cX4_doLongArithmetic) (maxL := 6) (own := RX4) (by decide) rfl rfl (Nat.le_of_ble_eq_true rfl) (fun p e s m args below meth c Q C r => ?_)
  have J91 : ∀ (a2_91 : Int32) (a3_91 : Int32) (a4_91 : Int32), zG p l e ({ frames := 5, cells := 0, slots := 0, locals := 120 }) s m args below meth c 6 0 0 A Q (zMc D A ad cy tl) 91 [(0, .ref (ad 19)), (1, .int p0), (2, .int a2_91), (3, .int a3_91), (4, .int a4_91)] [] := by
    intro a2_91 a3_91 a4_91
    exact g_return r dX4_doLongArithmetic_91 (fun _ h => h)
  refine g_sub (lv' := [(0, .ref (ad 19)), (1, .int p0)]) [0, 1] rfl ?_
  refine g_aload_n (pc := 0) C dX4_doLongArithmetic_0 rfl 0 rfl ?_
  refine gc_19_0 (pc := 1) C wk_219 dX4_doLongArithmetic_1 ?_
  refine g_aload_n (pc := 4) C dX4_doLongArithmetic_4 rfl 0 rfl ?_
  refine g_iload_n (pc := 5) C dX4_doLongArithmetic_5 rfl 1 rfl ?_
  refine g_iconst (pc := 6) C 0 dX4_doLongArithmetic_6 (by decide) ?_
  refine zcallVi (pc := 7) (st := [.ref (ad 12)]) C C.2.2.2.2.2 (n_X4_operandAddress l D ad cy tl A p0 0) (cwV 2 C.2.2.2.2.1 gw_RX4_89 rfl rfl rfl cd_X4_operandAddress ⟨Nat.le_of_ble_eq_true rfl, Nat.le_of_ble_eq_true rfl⟩) (hc_19 C) rfl rfl (Nat.le_of_ble_eq_true rfl) ⟨Nat.le_of_ble_eq_true rfl, Nat.le_of_ble_eq_true rfl⟩ dX4_doLongArithmetic_7 (fun r1 => ?_)
  refine zcallVi (pc := 10) (st := []) C C.2.2.2.2.2 (n_X2_wordAt l D ad cy tl A r1) (cwV 1 C.2.2.2.2.1 gw_RX4_25 rfl rfl rfl cd_X2_wordAt ⟨Nat.le_of_ble_eq_true rfl, Nat.le_of_ble_eq_true rfl⟩) (hc_12 C) rfl rfl (Nat.le_of_ble_eq_true rfl) ⟨Nat.le_of_ble_eq_true rfl, Nat.le_of_ble_eq_true rfl⟩ dX4_doLongArithmetic_10 (fun r2 => ?_)
  refine g_istore_n (pc := 13) C ([(2, .int r2), (0, .ref (ad 19)), (1, .int p0)]) dX4_doLongArithmetic_13 rfl (Nat.le_of_ble_eq_true rfl) rfl ?_
  refine g_aload_n (pc := 14) C dX4_doLongArithmetic_14 rfl 1 rfl ?_
  refine g_iload_n (pc := 15) C dX4_doLongArithmetic_15 rfl 2 rfl ?_
  refine g_bipush (pc := 16) C 6 dX4_doLongArithmetic_16 (by decide) ?_
  refine g_ishr (pc := 18) C dX4_doLongArithmetic_18 (fun z3 ez3 => ?_)
  refine g_bipush (pc := 19) C 15 dX4_doLongArithmetic_19 (by decide) ?_
  refine g_iand (pc := 21) C dX4_doLongArithmetic_21 (fun z4 ez4 => ?_)
  have hz4 : zI 0 15 z4 := zi_and1 (zi_c 15 (a := 0) (b := 15) (by decide)) ez4
  refine zcallVi (pc := 22) (st := []) C C.2.2.2.2.2 (n_X4_registerAddress l D ad cy tl A z4) (cwV 1 C.2.2.2.2.1 gw_RX4_128 rfl rfl rfl cd_X4_registerAddress ⟨Nat.le_of_ble_eq_true rfl, Nat.le_of_ble_eq_true rfl⟩) (hc_19 C) rfl rfl (Nat.le_of_ble_eq_true rfl) ⟨Nat.le_of_ble_eq_true rfl, Nat.le_of_ble_eq_true rfl⟩ dX4_doLongArithmetic_22 (fun r5 => ?_)
  refine g_istore_n (pc := 25) C ([(3, .int r5), (2, .int r2), (0, .ref (ad 19)), (1, .int p0)]) dX4_doLongArithmetic_25 rfl (Nat.le_of_ble_eq_true rfl) rfl ?_
  refine g_aload_n (pc := 26) C dX4_doLongArithmetic_26 rfl 2 rfl ?_
  refine gc_19_0 (pc := 27) C wk_219 dX4_doLongArithmetic_27 ?_
  refine g_iload_n (pc := 30) C dX4_doLongArithmetic_30 rfl 0 rfl ?_
  refine zcallVi (pc := 31) (st := []) C C.2.2.2.2.2 (n_X2_wordAt l D ad cy tl A r5) (cwV 1 C.2.2.2.2.1 gw_RX4_25 rfl rfl rfl cd_X2_wordAt ⟨Nat.le_of_ble_eq_true rfl, Nat.le_of_ble_eq_true rfl⟩) (hc_12 C) rfl rfl (Nat.le_of_ble_eq_true rfl) ⟨Nat.le_of_ble_eq_true rfl, Nat.le_of_ble_eq_true rfl⟩ dX4_doLongArithmetic_31 (fun r6 => ?_)
  refine g_istore (pc := 34) C ([(4, .int r6), (3, .int r5), (2, .int r2), (0, .ref (ad 19)), (1, .int p0)]) dX4_doLongArithmetic_34 (Nat.le_of_ble_eq_true rfl) rfl ?_
  refine g_iload_n (pc := 36) C dX4_doLongArithmetic_36 rfl 4 rfl ?_
  refine g_ldc (pc := 37) C dX4_doLongArithmetic_37 (C.wd wk_627) ?_
  refine g_iand (pc := 39) C dX4_doLongArithmetic_39 (fun z7 ez7 => ?_)
  have hz7 : zI 0 64512 z7 := zi_and1 (zi_c 64512 (a := 0) (b := 64512) (by decide)) ez7
  refine g_sipush (pc := 40) C 14336 dX4_doLongArithmetic_40 (by decide) ?_
  refine g_icmp_ne (pc := 43) C 83 dX4_doLongArithmetic_43 (by decide) (fun c8 => ?_) (fun c8 => ?_)
  · refine g_aload_n (pc := 83) C dX4_doLongArithmetic_83 rfl 3 rfl ?_
    refine g_iload_n (pc := 84) C dX4_doLongArithmetic_84 rfl 1 rfl ?_
    refine g_iload (pc := 85) C dX4_doLongArithmetic_85 0 rfl ?_
    refine g_iload_n (pc := 87) C dX4_doLongArithmetic_87 rfl 2 rfl ?_
    refine zcallVv (pc := 88) (st := []) C C.2.2.2.2.2 (n_X4_divide l D ad cy tl A r5 r6 r2) (cwV 3 C.2.2.2.2.1 gw_RX4_207 rfl rfl rfl cd_X4_divide ⟨Nat.le_of_ble_eq_true rfl, Nat.le_of_ble_eq_true rfl⟩) (hc_19 C) rfl rfl (Nat.le_of_ble_eq_true rfl) ⟨Nat.le_of_ble_eq_true rfl, Nat.le_of_ble_eq_true rfl⟩ dX4_doLongArithmetic_88 ?_
    exact g_sub [3, 4, 2, 1, 0] rfl (J91 r2 r5 r6)
  · have h9 : zI 14336 14336 z7 := zr_eq c8 hz7 (zi_c 14336 (a := 14336) (b := 14336) (by decide)) (by decide)
    refine g_iload_n (pc := 46) C dX4_doLongArithmetic_46 rfl 2 rfl ?_
    refine g_iload (pc := 47) C dX4_doLongArithmetic_47 0 rfl ?_
    refine g_imul (pc := 49) C dX4_doLongArithmetic_49 (fun z10 ez10 => ?_)
    refine g_istore (pc := 50) C ([(5, .int z10), (4, .int r6), (3, .int r5), (2, .int r2), (0, .ref (ad 19)), (1, .int p0)]) dX4_doLongArithmetic_50 (Nat.le_of_ble_eq_true rfl) rfl ?_
    refine g_aload_n (pc := 52) C dX4_doLongArithmetic_52 rfl 4 rfl ?_
    refine gc_19_0 (pc := 53) C wk_219 dX4_doLongArithmetic_53 ?_
    refine g_iload_n (pc := 56) C dX4_doLongArithmetic_56 rfl 2 rfl ?_
    refine g_iload (pc := 57) C dX4_doLongArithmetic_57 0 rfl ?_
    refine g_bipush (pc := 59) C 16 dX4_doLongArithmetic_59 (by decide) ?_
    refine g_iushr (pc := 61) C dX4_doLongArithmetic_61 (fun z11 ez11 => ?_)
    refine zcallVv (pc := 62) (st := []) C C.2.2.2.2.2 (n_X2_putWord l D ad cy tl A r5 z11) (cwV 2 C.2.2.2.2.1 gw_RX4_131 rfl rfl rfl cd_X2_putWord ⟨Nat.le_of_ble_eq_true rfl, Nat.le_of_ble_eq_true rfl⟩) (hc_12 C) rfl rfl (Nat.le_of_ble_eq_true rfl) ⟨Nat.le_of_ble_eq_true rfl, Nat.le_of_ble_eq_true rfl⟩ dX4_doLongArithmetic_62 ?_
    refine g_aload_n (pc := 65) C dX4_doLongArithmetic_65 rfl 4 rfl ?_
    refine gc_19_0 (pc := 66) C wk_219 dX4_doLongArithmetic_66 ?_
    refine g_iload_n (pc := 69) C dX4_doLongArithmetic_69 rfl 2 rfl ?_
    refine g_iconst (pc := 70) C 2 dX4_doLongArithmetic_70 (by decide) ?_
    refine g_iadd (pc := 71) C dX4_doLongArithmetic_71 (fun z12 ez12 => ?_)
    refine g_iload (pc := 72) C dX4_doLongArithmetic_72 0 rfl ?_
    refine g_ldc (pc := 74) C dX4_doLongArithmetic_74 (C.wd wk_538) ?_
    refine g_iand (pc := 76) C dX4_doLongArithmetic_76 (fun z13 ez13 => ?_)
    have hz13 : zI 0 65535 z13 := zi_and1 (zi_c 65535 (a := 0) (b := 65535) (by decide)) ez13
    refine zcallVv (pc := 77) (st := []) C C.2.2.2.2.2 (n_X2_putWord l D ad cy tl A z12 z13) (cwV 2 C.2.2.2.2.1 gw_RX4_131 rfl rfl rfl cd_X2_putWord ⟨Nat.le_of_ble_eq_true rfl, Nat.le_of_ble_eq_true rfl⟩) (hc_12 C) rfl rfl (Nat.le_of_ble_eq_true rfl) ⟨Nat.le_of_ble_eq_true rfl, Nat.le_of_ble_eq_true rfl⟩ dX4_doLongArithmetic_77 ?_
    refine g_goto (pc := 80) C 91 dX4_doLongArithmetic_80 (by decide) ?_
    exact g_sub [4, 5, 3, 2, 1] rfl (J91 r2 r5 r6)

set_option maxHeartbeats 2000000 in
set_option maxRecDepth 100000 in
theorem n_X4_combined (l : Launch) (D : va_G) (ad : Nat → Nat) (cy : Nat → ClassId) (tl : Int32) (A : Nat → Prop) (p0 : Int32) (p1 : Int32) (p2 : Int32) (p3 : Int32) : zMi l yX4_combined wz_X4_combined ({ frames := 3, cells := 0, slots := 0, locals := 74 }) [.ref (ad 19), .int p0, .int p1, .int p2, .int p3] D (zTc cy) A (zMc D A ad cy tl) (fun _ => (zMc D A ad cy tl)) := by
  refine zstart_i (cc := cX4_combined) (maxL := 6) (ty := .int) (own := RX4) (by decide) rfl rfl (Nat.le_of_ble_eq_true rfl) (fun p e s m args below meth c Q C r => ?_)
  have J83 : ∀ (a5_83 : Int32), zG p l e ({ frames := 3, cells := 0, slots := 0, locals := 74 }) s m args below meth c 6 0 0 A Q (zMc D A ad cy tl) 83 [(0, .ref (ad 19)), (1, .int p0), (2, .int p1), (3, .int p2), (4, .int p3), (5, .int a5_83)] [] := by
    intro a5_83
    refine g_aload_n (pc := 83) C dX4_combined_83 rfl 0 rfl ?_
    refine g_iload (pc := 84) C dX4_combined_84 5 rfl ?_
    refine g_iconst (pc := 86) C 0 dX4_combined_86 (by decide) ?_
    refine g_iload (pc := 87) C dX4_combined_87 4 rfl ?_
    refine zcallVv (pc := 89) (st := []) C C.2.2.2.2.2 (n_X4_compare l D ad cy tl A a5_83 0 p3) (cwV 3 C.2.2.2.2.1 gw_RX4_145 rfl rfl rfl cd_X4_compare ⟨Nat.le_of_ble_eq_true rfl, Nat.le_of_ble_eq_true rfl⟩) (hc_19 C) rfl rfl (Nat.le_of_ble_eq_true rfl) ⟨Nat.le_of_ble_eq_true rfl, Nat.le_of_ble_eq_true rfl⟩ dX4_combined_89 ?_
    refine g_iload (pc := 92) C dX4_combined_92 5 rfl ?_
    exact g_ireturn r dX4_combined_94 rfl (fun _ h => h)
  refine g_sub (lv' := [(0, .ref (ad 19)), (1, .int p0), (2, .int p1), (3, .int p2), (4, .int p3)]) [0, 1, 2, 3, 4] rfl ?_
  refine g_iload_n (pc := 0) C dX4_combined_0 rfl 1 rfl ?_
  refine g_lookup (pc := 1) C [78, 62, 53, 44, 72] dX4_combined_1 (by decide) (by decide) (List.forall_mem_cons.mpr ⟨?_, (List.forall_mem_cons.mpr ⟨?_, (List.forall_mem_cons.mpr ⟨?_, (List.forall_mem_cons.mpr ⟨?_, (List.forall_mem_cons.mpr ⟨?_, fun _ h => absurd h List.not_mem_nil⟩)⟩)⟩)⟩)⟩)
  · refine g_iload_n (pc := 78) C dX4_combined_78 rfl 3 rfl ?_
    refine g_iload_n (pc := 79) C dX4_combined_79 rfl 2 rfl ?_
    refine g_ior (pc := 80) C dX4_combined_80 (fun z1 ez1 => ?_)
    refine g_istore (pc := 81) C ([(5, .int z1), (0, .ref (ad 19)), (1, .int p0), (2, .int p1), (3, .int p2), (4, .int p3)]) dX4_combined_81 (Nat.le_of_ble_eq_true rfl) rfl ?_
    exact g_sub [1, 2, 3, 4, 5, 0] rfl (J83 z1)
  · refine g_iload_n (pc := 62) C dX4_combined_62 rfl 3 rfl ?_
    refine g_iload_n (pc := 63) C dX4_combined_63 rfl 2 rfl ?_
    refine g_iconst (pc := 64) C (-1) dX4_combined_64 (by decide) ?_
    refine g_ixor (pc := 65) C dX4_combined_65 (fun z2 ez2 => ?_)
    refine g_iand (pc := 66) C dX4_combined_66 (fun z3 ez3 => ?_)
    refine g_istore (pc := 67) C ([(5, .int z3), (0, .ref (ad 19)), (1, .int p0), (2, .int p1), (3, .int p2), (4, .int p3)]) dX4_combined_67 (Nat.le_of_ble_eq_true rfl) rfl ?_
    refine g_goto (pc := 69) C 83 dX4_combined_69 (by decide) ?_
    exact g_sub [1, 2, 3, 4, 5, 0] rfl (J83 z3)
  · refine g_aload_n (pc := 53) C dX4_combined_53 rfl 0 rfl ?_
    refine g_iload_n (pc := 54) C dX4_combined_54 rfl 3 rfl ?_
    refine g_iload_n (pc := 55) C dX4_combined_55 rfl 2 rfl ?_
    refine g_iload (pc := 56) C dX4_combined_56 4 rfl ?_
    refine zcallVi (pc := 58) (st := []) C C.2.2.2.2.2 (n_X4_subtract l D ad cy tl A p2 p1 p3) (cwV 3 C.2.2.2.2.1 gw_RX4_162 rfl rfl rfl cd_X4_subtract ⟨Nat.le_of_ble_eq_true rfl, Nat.le_of_ble_eq_true rfl⟩) (hc_19 C) rfl rfl (Nat.le_of_ble_eq_true rfl) ⟨Nat.le_of_ble_eq_true rfl, Nat.le_of_ble_eq_true rfl⟩ dX4_combined_58 (fun r4 => ?_)
    exact g_ireturn r dX4_combined_61 rfl (fun _ h => h)
  · refine g_aload_n (pc := 44) C dX4_combined_44 rfl 0 rfl ?_
    refine g_iload_n (pc := 45) C dX4_combined_45 rfl 3 rfl ?_
    refine g_iload_n (pc := 46) C dX4_combined_46 rfl 2 rfl ?_
    refine g_iload (pc := 47) C dX4_combined_47 4 rfl ?_
    refine zcallVi (pc := 49) (st := []) C C.2.2.2.2.2 (n_X4_add l D ad cy tl A p2 p1 p3) (cwV 3 C.2.2.2.2.1 gw_RX4_150 rfl rfl rfl cd_X4_add ⟨Nat.le_of_ble_eq_true rfl, Nat.le_of_ble_eq_true rfl⟩) (hc_19 C) rfl rfl (Nat.le_of_ble_eq_true rfl) ⟨Nat.le_of_ble_eq_true rfl, Nat.le_of_ble_eq_true rfl⟩ dX4_combined_49 (fun r5 => ?_)
    exact g_ireturn r dX4_combined_52 rfl (fun _ h => h)
  · refine g_iload_n (pc := 72) C dX4_combined_72 rfl 2 rfl ?_
    refine g_istore (pc := 73) C ([(5, .int p1), (0, .ref (ad 19)), (1, .int p0), (2, .int p1), (3, .int p2), (4, .int p3)]) dX4_combined_73 (Nat.le_of_ble_eq_true rfl) rfl ?_
    refine g_goto (pc := 75) C 83 dX4_combined_75 (by decide) ?_
    exact g_sub [1, 2, 3, 4, 5, 0] rfl (J83 p1)

set_option maxHeartbeats 2000000 in
set_option maxRecDepth 100000 in
theorem n_X4_doTwoOperands (l : Launch) (D : va_G) (ad : Nat → Nat) (cy : Nat → ClassId) (tl : Int32) (A : Nat → Prop) (p0 : Int32) : zMv l yX4_doTwoOperands wz_X4_doTwoOperands ({ frames := 5, cells := 0, slots := 0, locals := 120 }) [.ref (ad 19), .int p0] D (zTc cy) A (zMc D A ad cy tl) (zMc D A ad cy tl) := by
  refine zstart_v (cc := cX4_doTwoOperands) (maxL := 9) (own := RX4) (by decide) rfl rfl (Nat.le_of_ble_eq_true rfl) (fun p e s m args below meth c Q C r => ?_)
  have J116 : ∀ (a2_116 : Int32) (a3_116 : Int32) (a4_116 : Int32) (a5_116 : Int32) (a6_116 : Int32) (a7_116 : Int32) (_ : zI 0 1 a2_116) (_ : zI 32768 32768 a7_116), zG p l e ({ frames := 5, cells := 0, slots := 0, locals := 120 }) s m args below meth c 9 0 0 A Q (zMc D A ad cy tl) 116 [(0, .ref (ad 19)), (1, .int p0), (2, .int a2_116), (3, .int a3_116), (4, .int a4_116), (5, .int a5_116), (6, .int a6_116), (7, .int a7_116)] [] := by
    intro a2_116 a3_116 a4_116 a5_116 a6_116 a7_116 ha2_116 ha7_116
    exact g_return r dX4_doTwoOperands_116 (fun _ h => h)
  have J140 : ∀ (a2_140 : Int32) (a3_140 : Int32) (a4_140 : Int32) (a5_140 : Int32) (a6_140 : Int32) (a7_140 : Int32) (a8_140 : Int32) (_ : zI 0 1 a2_140) (_ : zI 0 57344 a7_140), zG p l e ({ frames := 5, cells := 0, slots := 0, locals := 120 }) s m args below meth c 9 0 0 A Q (zMc D A ad cy tl) 140 [(0, .ref (ad 19)), (1, .int p0), (2, .int a2_140), (3, .int a3_140), (4, .int a4_140), (5, .int a5_140), (6, .int a6_140), (7, .int a7_140), (8, .int a8_140)] [] := by
    intro a2_140 a3_140 a4_140 a5_140 a6_140 a7_140 a8_140 ha2_140 ha7_140
    refine g_aload_n (pc := 140) C dX4_doTwoOperands_140 rfl 0 rfl ?_
    refine g_iload (pc := 141) C dX4_doTwoOperands_141 5 rfl ?_
    refine g_iload (pc := 143) C dX4_doTwoOperands_143 8 rfl ?_
    refine g_iload_n (pc := 145) C dX4_doTwoOperands_145 rfl 2 rfl ?_
    refine zcallVv (pc := 146) (st := []) C C.2.2.2.2.2 (n_X4_putOperand l D ad cy tl A a5_140 a8_140 a2_140) (cwV 3 C.2.2.2.2.1 gw_RX4_200 rfl rfl rfl cd_X4_putOperand ⟨Nat.le_of_ble_eq_true rfl, Nat.le_of_ble_eq_true rfl⟩) (hc_19 C) rfl rfl (Nat.le_of_ble_eq_true rfl) ⟨Nat.le_of_ble_eq_true rfl, Nat.le_of_ble_eq_true rfl⟩ dX4_doTwoOperands_146 ?_
    exact g_return r dX4_doTwoOperands_149 (fun _ h => h)
  have J82 : ∀ (a2_82 : Int32) (a3_82 : Int32) (a4_82 : Int32) (a5_82 : Int32) (b0_82 : Int32) (_ : zI 0 1 a2_82), zG p l e ({ frames := 5, cells := 0, slots := 0, locals := 120 }) s m args below meth c 9 0 0 A Q (zMc D A ad cy tl) 82 [(0, .ref (ad 19)), (1, .int p0), (2, .int a2_82), (3, .int a3_82), (4, .int a4_82), (5, .int a5_82)] [.int b0_82] := by
    intro a2_82 a3_82 a4_82 a5_82 b0_82 ha2_82
    refine g_istore (pc := 82) C ([(6, .int b0_82), (0, .ref (ad 19)), (1, .int p0), (2, .int a2_82), (3, .int a3_82), (4, .int a4_82), (5, .int a5_82)]) dX4_doTwoOperands_82 (Nat.le_of_ble_eq_true rfl) rfl ?_
    refine g_iload_n (pc := 84) C dX4_doTwoOperands_84 rfl 2 rfl ?_
    refine g_ldc (pc := 85) C dX4_doTwoOperands_85 (C.wd wk_660) ?_
    refine g_iand (pc := 87) C dX4_doTwoOperands_87 (fun z1 ez1 => ?_)
    have hz1 : zI 0 57344 z1 := zi_and1 (zi_c 57344 (a := 0) (b := 57344) (by decide)) ez1
    refine g_istore (pc := 88) C ([(7, .int z1), (6, .int b0_82), (0, .ref (ad 19)), (1, .int p0), (2, .int a2_82), (3, .int a3_82), (4, .int a4_82), (5, .int a5_82)]) dX4_doTwoOperands_88 (Nat.le_of_ble_eq_true rfl) rfl ?_
    refine g_iload (pc := 90) C dX4_doTwoOperands_90 0 rfl ?_
    refine g_ldc (pc := 92) C dX4_doTwoOperands_92 (C.wd wk_571) ?_
    refine g_icmp_ne (pc := 94) C 117 dX4_doTwoOperands_94 (by decide) (fun c2 => ?_) (fun c2 => ?_)
    · refine g_aload_n (pc := 117) C dX4_doTwoOperands_117 rfl 2 rfl ?_
      refine g_iload (pc := 118) C dX4_doTwoOperands_118 0 rfl ?_
      refine g_iload (pc := 120) C dX4_doTwoOperands_120 6 rfl ?_
      refine g_iload (pc := 122) C dX4_doTwoOperands_122 1 rfl ?_
      refine g_iload_n (pc := 124) C dX4_doTwoOperands_124 rfl 4 rfl ?_
      refine zcallVi (pc := 125) (st := []) C C.2.2.2.2.2 (n_X4_combined l D ad cy tl A z1 a4_82 b0_82 a2_82) (cwV 4 C.2.2.2.2.1 gw_RX4_211 rfl rfl rfl cd_X4_combined ⟨Nat.le_of_ble_eq_true rfl, Nat.le_of_ble_eq_true rfl⟩) (hc_19 C) rfl rfl (Nat.le_of_ble_eq_true rfl) ⟨Nat.le_of_ble_eq_true rfl, Nat.le_of_ble_eq_true rfl⟩ dX4_doTwoOperands_125 (fun r3 => ?_)
      refine g_istore (pc := 128) C ([(8, .int r3), (7, .int z1), (6, .int b0_82), (0, .ref (ad 19)), (1, .int p0), (2, .int a2_82), (3, .int a3_82), (4, .int a4_82), (5, .int a5_82)]) dX4_doTwoOperands_128 (Nat.le_of_ble_eq_true rfl) rfl ?_
      refine g_iload_n (pc := 130) C dX4_doTwoOperands_130 rfl 5 rfl ?_
      refine g_if_eq (pc := 131) C 140 dX4_doTwoOperands_131 (by decide) (fun c4 => ?_) (fun c4 => ?_)
      · have h5 : zI 0 0 a2_82 := zr_eq c4 ha2_82 (zi_c 0 (a := 0) (b := 0) (by decide)) (by decide)
        exact g_sub [3, 4, 5, 6, 7, 8, 2, 1, 0] rfl (J140 a2_82 a3_82 a4_82 a5_82 b0_82 z1 r3 (zi_w h5 (a' := 0) (b' := 1) (by decide)) hz1)
      · have h6 : zI 1 1 a2_82 := zr_neL c4 ha2_82 (zi_c 0 (a := 0) (b := 0) (by decide)) (by decide)
        refine g_aload_n (pc := 134) C dX4_doTwoOperands_134 rfl 3 rfl ?_
        refine g_iload (pc := 135) C dX4_doTwoOperands_135 0 rfl ?_
        refine zcallVv (pc := 137) (st := []) C C.2.2.2.2.2 (n_X4_parity l D ad cy tl A r3) (cwV 1 C.2.2.2.2.1 gw_RX4_197 rfl rfl rfl cd_X4_parity ⟨Nat.le_of_ble_eq_true rfl, Nat.le_of_ble_eq_true rfl⟩) (hc_19 C) rfl rfl (Nat.le_of_ble_eq_true rfl) ⟨Nat.le_of_ble_eq_true rfl, Nat.le_of_ble_eq_true rfl⟩ dX4_doTwoOperands_137 ?_
        exact g_sub [3, 4, 5, 6, 7, 8, 2, 1, 0] rfl (J140 a2_82 a3_82 a4_82 a5_82 b0_82 z1 r3 (zi_w h6 (a' := 0) (b' := 1) (by decide)) hz1)
    · have h7 : zI 32768 32768 z1 := zr_eq c2 hz1 (zi_c 32768 (a := 32768) (b := 32768) (by decide)) (by decide)
      refine g_aload_n (pc := 97) C dX4_doTwoOperands_97 rfl 2 rfl ?_
      refine g_iload (pc := 98) C dX4_doTwoOperands_98 6 rfl ?_
      refine g_iload (pc := 100) C dX4_doTwoOperands_100 1 rfl ?_
      refine g_iload_n (pc := 102) C dX4_doTwoOperands_102 rfl 4 rfl ?_
      refine zcallVv (pc := 103) (st := []) C C.2.2.2.2.2 (n_X4_compare l D ad cy tl A a4_82 b0_82 a2_82) (cwV 3 C.2.2.2.2.1 gw_RX4_145 rfl rfl rfl cd_X4_compare ⟨Nat.le_of_ble_eq_true rfl, Nat.le_of_ble_eq_true rfl⟩) (hc_19 C) rfl rfl (Nat.le_of_ble_eq_true rfl) ⟨Nat.le_of_ble_eq_true rfl, Nat.le_of_ble_eq_true rfl⟩ dX4_doTwoOperands_103 ?_
      refine g_iload_n (pc := 106) C dX4_doTwoOperands_106 rfl 4 rfl ?_
      refine g_if_eq (pc := 107) C 116 dX4_doTwoOperands_107 (by decide) (fun c8 => ?_) (fun c8 => ?_)
      · have h9 : zI 0 0 a2_82 := zr_eq c8 ha2_82 (zi_c 0 (a := 0) (b := 0) (by decide)) (by decide)
        exact g_sub [2, 3, 4, 5, 6, 7, 1, 0] rfl (J116 a2_82 a3_82 a4_82 a5_82 b0_82 z1 (zi_w h9 (a' := 0) (b' := 1) (by decide)) h7)
      · have h10 : zI 1 1 a2_82 := zr_neL c8 ha2_82 (zi_c 0 (a := 0) (b := 0) (by decide)) (by decide)
        refine g_aload_n (pc := 110) C dX4_doTwoOperands_110 rfl 2 rfl ?_
        refine g_iload (pc := 111) C dX4_doTwoOperands_111 6 rfl ?_
        refine zcallVv (pc := 113) (st := []) C C.2.2.2.2.2 (n_X4_parity l D ad cy tl A a4_82) (cwV 1 C.2.2.2.2.1 gw_RX4_197 rfl rfl rfl cd_X4_parity ⟨Nat.le_of_ble_eq_true rfl, Nat.le_of_ble_eq_true rfl⟩) (hc_19 C) rfl rfl (Nat.le_of_ble_eq_true rfl) ⟨Nat.le_of_ble_eq_true rfl, Nat.le_of_ble_eq_true rfl⟩ dX4_doTwoOperands_113 ?_
        exact g_sub [2, 3, 4, 5, 6, 7, 1, 0] rfl (J116 a2_82 a3_82 a4_82 a5_82 b0_82 z1 (zi_w h10 (a' := 0) (b' := 1) (by decide)) h7)
  have J44 : ∀ (a2_44 : Int32) (a3_44 : Int32) (b0_44 : Int32) (_ : zI 0 1 a2_44), zG p l e ({ frames := 5, cells := 0, slots := 0, locals := 120 }) s m args below meth c 9 0 0 A Q (zMc D A ad cy tl) 44 [(0, .ref (ad 19)), (1, .int p0), (2, .int a2_44), (3, .int a3_44)] [.int b0_44] := by
    intro a2_44 a3_44 b0_44 ha2_44
    refine g_istore (pc := 44) C ([(4, .int b0_44), (0, .ref (ad 19)), (1, .int p0), (2, .int a2_44), (3, .int a3_44)]) dX4_doTwoOperands_44 (Nat.le_of_ble_eq_true rfl) rfl ?_
    refine g_aload_n (pc := 46) C dX4_doTwoOperands_46 rfl 1 rfl ?_
    refine g_iload_n (pc := 47) C dX4_doTwoOperands_47 rfl 2 rfl ?_
    refine g_bipush (pc := 48) C 6 dX4_doTwoOperands_48 (by decide) ?_
    refine g_ishr (pc := 50) C dX4_doTwoOperands_50 (fun z11 ez11 => ?_)
    refine g_iload_n (pc := 51) C dX4_doTwoOperands_51 rfl 3 rfl ?_
    refine zcallVi (pc := 52) (st := []) C C.2.2.2.2.2 (n_X4_operandAddress l D ad cy tl A z11 a2_44) (cwV 2 C.2.2.2.2.1 gw_RX4_89 rfl rfl rfl cd_X4_operandAddress ⟨Nat.le_of_ble_eq_true rfl, Nat.le_of_ble_eq_true rfl⟩) (hc_19 C) rfl rfl (Nat.le_of_ble_eq_true rfl) ⟨Nat.le_of_ble_eq_true rfl, Nat.le_of_ble_eq_true rfl⟩ dX4_doTwoOperands_52 (fun r12 => ?_)
    refine g_istore (pc := 55) C ([(5, .int r12), (4, .int b0_44), (0, .ref (ad 19)), (1, .int p0), (2, .int a2_44), (3, .int a3_44)]) dX4_doTwoOperands_55 (Nat.le_of_ble_eq_true rfl) rfl ?_
    refine g_iload_n (pc := 57) C dX4_doTwoOperands_57 rfl 4 rfl ?_
    refine g_if_eq (pc := 58) C 73 dX4_doTwoOperands_58 (by decide) (fun c13 => ?_) (fun c13 => ?_)
    · have h14 : zI 0 0 a2_44 := zr_eq c13 ha2_44 (zi_c 0 (a := 0) (b := 0) (by decide)) (by decide)
      refine g_aload_n (pc := 73) C dX4_doTwoOperands_73 rfl 2 rfl ?_
      refine gc_19_0 (pc := 74) C wk_219 dX4_doTwoOperands_74 ?_
      refine g_iload (pc := 77) C dX4_doTwoOperands_77 0 rfl ?_
      refine zcallVi (pc := 79) (st := []) C C.2.2.2.2.2 (n_X2_wordAt l D ad cy tl A r12) (cwV 1 C.2.2.2.2.1 gw_RX4_25 rfl rfl rfl cd_X2_wordAt ⟨Nat.le_of_ble_eq_true rfl, Nat.le_of_ble_eq_true rfl⟩) (hc_12 C) rfl rfl (Nat.le_of_ble_eq_true rfl) ⟨Nat.le_of_ble_eq_true rfl, Nat.le_of_ble_eq_true rfl⟩ dX4_doTwoOperands_79 (fun r15 => ?_)
      exact g_sub [2, 3, 4, 5, 1, 0] rfl (J82 a2_44 a3_44 b0_44 r12 r15 (zi_w h14 (a' := 0) (b' := 1) (by decide)))
    · have h16 : zI 1 1 a2_44 := zr_neL c13 ha2_44 (zi_c 0 (a := 0) (b := 0) (by decide)) (by decide)
      refine g_aload_n (pc := 61) C dX4_doTwoOperands_61 rfl 2 rfl ?_
      refine gc_19_0 (pc := 62) C wk_219 dX4_doTwoOperands_62 ?_
      refine g_iload (pc := 65) C dX4_doTwoOperands_65 0 rfl ?_
      refine zcallVi (pc := 67) (st := []) C C.2.2.2.2.2 (n_X2_byteAt l D ad cy tl A r12) (cwV 1 C.2.2.2.2.1 gw_RX4_187 rfl rfl rfl cd_X2_byteAt ⟨Nat.le_of_ble_eq_true rfl, Nat.le_of_ble_eq_true rfl⟩) (hc_12 C) rfl rfl (Nat.le_of_ble_eq_true rfl) ⟨Nat.le_of_ble_eq_true rfl, Nat.le_of_ble_eq_true rfl⟩ dX4_doTwoOperands_67 (fun r17 => ?_)
      refine g_goto (pc := 70) C 82 dX4_doTwoOperands_70 (by decide) ?_
      exact g_sub [2, 3, 4, 5, 1, 0] rfl (J82 a2_44 a3_44 b0_44 r12 r17 (zi_w h16 (a' := 0) (b' := 1) (by decide)))
  have J13 : ∀ (b0_13 : Int32) (_ : zI 0 1 b0_13), zG p l e ({ frames := 5, cells := 0, slots := 0, locals := 120 }) s m args below meth c 9 0 0 A Q (zMc D A ad cy tl) 13 [(0, .ref (ad 19)), (1, .int p0)] [.int b0_13] := by
    intro b0_13 hb0_13
    refine g_istore_n (pc := 13) C ([(2, .int b0_13), (0, .ref (ad 19)), (1, .int p0)]) dX4_doTwoOperands_13 rfl (Nat.le_of_ble_eq_true rfl) rfl ?_
    refine g_aload_n (pc := 14) C dX4_doTwoOperands_14 rfl 1 rfl ?_
    refine g_iload_n (pc := 15) C dX4_doTwoOperands_15 rfl 2 rfl ?_
    refine g_iload_n (pc := 16) C dX4_doTwoOperands_16 rfl 0 rfl ?_
    refine zcallVi (pc := 17) (st := []) C C.2.2.2.2.2 (n_X4_operandAddress l D ad cy tl A p0 b0_13) (cwV 2 C.2.2.2.2.1 gw_RX4_89 rfl rfl rfl cd_X4_operandAddress ⟨Nat.le_of_ble_eq_true rfl, Nat.le_of_ble_eq_true rfl⟩) (hc_19 C) rfl rfl (Nat.le_of_ble_eq_true rfl) ⟨Nat.le_of_ble_eq_true rfl, Nat.le_of_ble_eq_true rfl⟩ dX4_doTwoOperands_17 (fun r18 => ?_)
    refine g_istore_n (pc := 20) C ([(3, .int r18), (2, .int b0_13), (0, .ref (ad 19)), (1, .int p0)]) dX4_doTwoOperands_20 rfl (Nat.le_of_ble_eq_true rfl) rfl ?_
    refine g_iload_n (pc := 21) C dX4_doTwoOperands_21 rfl 1 rfl ?_
    refine g_if_eq (pc := 22) C 36 dX4_doTwoOperands_22 (by decide) (fun c19 => ?_) (fun c19 => ?_)
    · have h20 : zI 0 0 b0_13 := zr_eq c19 hb0_13 (zi_c 0 (a := 0) (b := 0) (by decide)) (by decide)
      refine g_aload_n (pc := 36) C dX4_doTwoOperands_36 rfl 2 rfl ?_
      refine gc_19_0 (pc := 37) C wk_219 dX4_doTwoOperands_37 ?_
      refine g_iload_n (pc := 40) C dX4_doTwoOperands_40 rfl 0 rfl ?_
      refine zcallVi (pc := 41) (st := []) C C.2.2.2.2.2 (n_X2_wordAt l D ad cy tl A r18) (cwV 1 C.2.2.2.2.1 gw_RX4_25 rfl rfl rfl cd_X2_wordAt ⟨Nat.le_of_ble_eq_true rfl, Nat.le_of_ble_eq_true rfl⟩) (hc_12 C) rfl rfl (Nat.le_of_ble_eq_true rfl) ⟨Nat.le_of_ble_eq_true rfl, Nat.le_of_ble_eq_true rfl⟩ dX4_doTwoOperands_41 (fun r21 => ?_)
      exact g_sub [2, 3, 1, 0] rfl (J44 b0_13 r18 r21 (zi_w h20 (a' := 0) (b' := 1) (by decide)))
    · have h22 : zI 1 1 b0_13 := zr_neL c19 hb0_13 (zi_c 0 (a := 0) (b := 0) (by decide)) (by decide)
      refine g_aload_n (pc := 25) C dX4_doTwoOperands_25 rfl 2 rfl ?_
      refine gc_19_0 (pc := 26) C wk_219 dX4_doTwoOperands_26 ?_
      refine g_iload_n (pc := 29) C dX4_doTwoOperands_29 rfl 0 rfl ?_
      refine zcallVi (pc := 30) (st := []) C C.2.2.2.2.2 (n_X2_byteAt l D ad cy tl A r18) (cwV 1 C.2.2.2.2.1 gw_RX4_187 rfl rfl rfl cd_X2_byteAt ⟨Nat.le_of_ble_eq_true rfl, Nat.le_of_ble_eq_true rfl⟩) (hc_12 C) rfl rfl (Nat.le_of_ble_eq_true rfl) ⟨Nat.le_of_ble_eq_true rfl, Nat.le_of_ble_eq_true rfl⟩ dX4_doTwoOperands_30 (fun r23 => ?_)
      refine g_goto (pc := 33) C 44 dX4_doTwoOperands_33 (by decide) ?_
      exact g_sub [2, 3, 1, 0] rfl (J44 b0_13 r18 r23 (zi_w h22 (a' := 0) (b' := 1) (by decide)))
  refine g_sub (lv' := [(0, .ref (ad 19)), (1, .int p0)]) [0, 1] rfl ?_
  refine g_iload_n (pc := 0) C dX4_doTwoOperands_0 rfl 1 rfl ?_
  refine g_sipush (pc := 1) C 4096 dX4_doTwoOperands_1 (by decide) ?_
  refine g_iand (pc := 4) C dX4_doTwoOperands_4 (fun z24 ez24 => ?_)
  have hz24 : zI 0 4096 z24 := zi_and1 (zi_c 4096 (a := 0) (b := 4096) (by decide)) ez24
  refine g_if_eq (pc := 5) C 12 dX4_doTwoOperands_5 (by decide) (fun c25 => ?_) (fun c25 => ?_)
  · have h26 : zI 0 0 z24 := zr_eq c25 hz24 (zi_c 0 (a := 0) (b := 0) (by decide)) (by decide)
    refine g_iconst (pc := 12) C 0 dX4_doTwoOperands_12 (by decide) ?_
    exact g_sub [0, 1] rfl (J13 0 (zi_c 0 (a := 0) (b := 1) (by decide)))
  · have h27 : zI 1 4096 z24 := zr_neL c25 hz24 (zi_c 0 (a := 0) (b := 0) (by decide)) (by decide)
    refine g_iconst (pc := 8) C 1 dX4_doTwoOperands_8 (by decide) ?_
    refine g_goto (pc := 9) C 13 dX4_doTwoOperands_9 (by decide) ?_
    exact g_sub [0, 1] rfl (J13 1 (zi_c 1 (a := 0) (b := 1) (by decide)))

set_option maxHeartbeats 2000000 in
set_option maxRecDepth 100000 in
theorem n_X4_perform (l : Launch) (D : va_G) (ad : Nat → Nat) (cy : Nat → ClassId) (tl : Int32) (A : Nat → Prop) : zMv l yX4_perform wz_X4_perform ({ frames := 6, cells := 0, slots := 0, locals := 148 }) [.ref (ad 19)] D (zTc cy) A (zMc D A ad cy tl) (zMc D A ad cy tl) := by
  refine zstart_v (cc := cX4_perform) (maxL := 2) (own := RX4) (by decide) rfl rfl (Nat.le_of_ble_eq_true rfl) (fun p e s m args below meth c Q C r => ?_)
  have J160 : ∀ (a1_160 : Int32), zG p l e ({ frames := 6, cells := 0, slots := 0, locals := 148 }) s m args below meth c 2 0 0 A Q (zMc D A ad cy tl) 160 [(0, .ref (ad 19)), (1, .int a1_160)] [] := by
    intro a1_160
    exact g_return r dX4_perform_160 (fun _ h => h)
  refine g_sub (lv' := [(0, .ref (ad 19))]) [0] rfl ?_
  refine g_aload_n (pc := 0) C dX4_perform_0 rfl 0 rfl ?_
  refine gc_19_10 (pc := 1) C wk_236 dX4_perform_1 (fun z1 => ?_)
  refine g_istore_n (pc := 4) C ([(1, .int z1), (0, .ref (ad 19))]) dX4_perform_4 rfl (Nat.le_of_ble_eq_true rfl) rfl ?_
  refine g_aload_n (pc := 5) C dX4_perform_5 rfl 1 rfl ?_
  refine g_iconst (pc := 6) C 0 dX4_perform_6 (by decide) ?_
  refine pc_19_11 (pc := 7) C wk_237 (zi_c 0 (a := 0) (b := 1) (by decide)) dX4_perform_7 ?_
  refine g_aload_n (pc := 10) C dX4_perform_10 rfl 1 rfl ?_
  refine g_dup (pc := 11) C dX4_perform_11 rfl ?_
  refine gc_19_7 (pc := 12) C wk_230 dX4_perform_12 (fun z2 => ?_)
  refine g_iconst (pc := 15) C 1 dX4_perform_15 (by decide) ?_
  refine g_iadd (pc := 16) C dX4_perform_16 (fun z3 ez3 => ?_)
  refine pc_19_7 (pc := 17) C wk_230 dX4_perform_17 ?_
  refine g_iload_n (pc := 20) C dX4_perform_20 rfl 0 rfl ?_
  refine g_sipush (pc := 21) C 672 dX4_perform_21 (by decide) ?_
  refine g_icmp_ge (pc := 24) C 35 dX4_perform_24 (by decide) (fun c4 => ?_) (fun c4 => ?_)
  · have h5 : zI 672 2147483647 z1 := zr_le2 (zc_le c4) (zi_c 672 (a := 672) (b := 672) (by decide)) (zi_full z1) (by decide)
    refine g_iload_n (pc := 35) C dX4_perform_35 rfl 0 rfl ?_
    refine g_sipush (pc := 36) C 1024 dX4_perform_36 (by decide) ?_
    refine g_icmp_ge (pc := 39) C 50 dX4_perform_39 (by decide) (fun c6 => ?_) (fun c6 => ?_)
    · have h7 : zI 1024 2147483647 z1 := zr_le2 (zc_le c6) (zi_c 1024 (a := 1024) (b := 1024) (by decide)) h5 (by decide)
      refine g_iload_n (pc := 50) C dX4_perform_50 rfl 0 rfl ?_
      refine g_sipush (pc := 51) C 2048 dX4_perform_51 (by decide) ?_
      refine g_icmp_ge (pc := 54) C 65 dX4_perform_54 (by decide) (fun c8 => ?_) (fun c8 => ?_)
      · have h9 : zI 2048 2147483647 z1 := zr_le2 (zc_le c8) (zi_c 2048 (a := 2048) (b := 2048) (by decide)) h7 (by decide)
        refine g_iload_n (pc := 65) C dX4_perform_65 rfl 0 rfl ?_
        refine g_sipush (pc := 66) C 4096 dX4_perform_66 (by decide) ?_
        refine g_icmp_ge (pc := 69) C 80 dX4_perform_69 (by decide) (fun c10 => ?_) (fun c10 => ?_)
        · have h11 : zI 4096 2147483647 z1 := zr_le2 (zc_le c10) (zi_c 4096 (a := 4096) (b := 4096) (by decide)) h9 (by decide)
          refine g_iload_n (pc := 80) C dX4_perform_80 rfl 0 rfl ?_
          refine g_sipush (pc := 81) C 7424 dX4_perform_81 (by decide) ?_
          refine g_icmp_ge (pc := 84) C 95 dX4_perform_84 (by decide) (fun c12 => ?_) (fun c12 => ?_)
          · have h13 : zI 7424 2147483647 z1 := zr_le2 (zc_le c12) (zi_c 7424 (a := 7424) (b := 7424) (by decide)) h11 (by decide)
            refine g_iload_n (pc := 95) C dX4_perform_95 rfl 0 rfl ?_
            refine g_sipush (pc := 96) C 8192 dX4_perform_96 (by decide) ?_
            refine g_icmp_ge (pc := 99) C 110 dX4_perform_99 (by decide) (fun c14 => ?_) (fun c14 => ?_)
            · have h15 : zI 8192 2147483647 z1 := zr_le2 (zc_le c14) (zi_c 8192 (a := 8192) (b := 8192) (by decide)) h13 (by decide)
              refine g_iload_n (pc := 110) C dX4_perform_110 rfl 0 rfl ?_
              refine g_sipush (pc := 111) C 12288 dX4_perform_111 (by decide) ?_
              refine g_icmp_ge (pc := 114) C 125 dX4_perform_114 (by decide) (fun c16 => ?_) (fun c16 => ?_)
              · have h17 : zI 12288 2147483647 z1 := zr_le2 (zc_le c16) (zi_c 12288 (a := 12288) (b := 12288) (by decide)) h15 (by decide)
                refine g_iload_n (pc := 125) C dX4_perform_125 rfl 0 rfl ?_
                refine g_sipush (pc := 126) C 14336 dX4_perform_126 (by decide) ?_
                refine g_icmp_ge (pc := 129) C 140 dX4_perform_129 (by decide) (fun c18 => ?_) (fun c18 => ?_)
                · have h19 : zI 14336 2147483647 z1 := zr_le2 (zc_le c18) (zi_c 14336 (a := 14336) (b := 14336) (by decide)) h17 (by decide)
                  refine g_iload_n (pc := 140) C dX4_perform_140 rfl 0 rfl ?_
                  refine g_sipush (pc := 141) C 16384 dX4_perform_141 (by decide) ?_
                  refine g_icmp_ge (pc := 144) C 155 dX4_perform_144 (by decide) (fun c20 => ?_) (fun c20 => ?_)
                  · have h21 : zI 16384 2147483647 z1 := zr_le2 (zc_le c20) (zi_c 16384 (a := 16384) (b := 16384) (by decide)) h19 (by decide)
                    refine g_aload_n (pc := 155) C dX4_perform_155 rfl 1 rfl ?_
                    refine g_iload_n (pc := 156) C dX4_perform_156 rfl 0 rfl ?_
                    refine zcallVv (pc := 157) (st := []) C C.2.2.2.2.2 (n_X4_doTwoOperands l D ad cy tl A z1) (cwV 1 C.2.2.2.2.1 gw_RX4_124 rfl rfl rfl cd_X4_doTwoOperands ⟨Nat.le_of_ble_eq_true rfl, Nat.le_of_ble_eq_true rfl⟩) (hc_19 C) rfl rfl (Nat.le_of_ble_eq_true rfl) ⟨Nat.le_of_ble_eq_true rfl, Nat.le_of_ble_eq_true rfl⟩ dX4_perform_157 ?_
                    exact g_sub [1, 0] rfl (J160 z1)
                  · have h22 : zI 14336 16383 z1 := zr_lt1 (zc_nle c20) h19 (zi_c 16384 (a := 16384) (b := 16384) (by decide)) (by decide)
                    refine g_aload_n (pc := 147) C dX4_perform_147 rfl 1 rfl ?_
                    refine g_iload_n (pc := 148) C dX4_perform_148 rfl 0 rfl ?_
                    refine zcallVv (pc := 149) (st := []) C C.2.2.2.2.2 (n_X4_doLongArithmetic l D ad cy tl A z1) (cwV 1 C.2.2.2.2.1 gw_RX4_121 rfl rfl rfl cd_X4_doLongArithmetic ⟨Nat.le_of_ble_eq_true rfl, Nat.le_of_ble_eq_true rfl⟩) (hc_19 C) rfl rfl (Nat.le_of_ble_eq_true rfl) ⟨Nat.le_of_ble_eq_true rfl, Nat.le_of_ble_eq_true rfl⟩ dX4_perform_149 ?_
                    refine g_goto (pc := 152) C 160 dX4_perform_152 (by decide) ?_
                    exact g_sub [1, 0] rfl (J160 z1)
                · have h23 : zI 12288 14335 z1 := zr_lt1 (zc_nle c18) h17 (zi_c 14336 (a := 14336) (b := 14336) (by decide)) (by decide)
                  refine g_aload_n (pc := 132) C dX4_perform_132 rfl 1 rfl ?_
                  refine g_iload_n (pc := 133) C dX4_perform_133 rfl 0 rfl ?_
                  refine zcallVv (pc := 134) (st := []) C C.2.2.2.2.2 (n_X4_doManyBits l D ad cy tl A z1) (cwV 1 C.2.2.2.2.1 gw_RX4_118 rfl rfl rfl cd_X4_doManyBits ⟨Nat.le_of_ble_eq_true rfl, Nat.le_of_ble_eq_true rfl⟩) (hc_19 C) rfl rfl (Nat.le_of_ble_eq_true rfl) ⟨Nat.le_of_ble_eq_true rfl, Nat.le_of_ble_eq_true rfl⟩ dX4_perform_134 ?_
                  refine g_goto (pc := 137) C 160 dX4_perform_137 (by decide) ?_
                  exact g_sub [1, 0] rfl (J160 z1)
              · have h24 : zI 8192 12287 z1 := zr_lt1 (zc_nle c16) h15 (zi_c 12288 (a := 12288) (b := 12288) (by decide)) (by decide)
                refine g_aload_n (pc := 117) C dX4_perform_117 rfl 1 rfl ?_
                refine g_iload_n (pc := 118) C dX4_perform_118 rfl 0 rfl ?_
                refine zcallVv (pc := 119) (st := []) C C.2.2.2.2.2 (n_X4_doWithRegister l D ad cy tl A z1) (cwV 1 C.2.2.2.2.1 gw_RX4_115 rfl rfl rfl cd_X4_doWithRegister ⟨Nat.le_of_ble_eq_true rfl, Nat.le_of_ble_eq_true rfl⟩) (hc_19 C) rfl rfl (Nat.le_of_ble_eq_true rfl) ⟨Nat.le_of_ble_eq_true rfl, Nat.le_of_ble_eq_true rfl⟩ dX4_perform_119 ?_
                refine g_goto (pc := 122) C 160 dX4_perform_122 (by decide) ?_
                exact g_sub [1, 0] rfl (J160 z1)
            · have h25 : zI 7424 8191 z1 := zr_lt1 (zc_nle c14) h13 (zi_c 8192 (a := 8192) (b := 8192) (by decide)) (by decide)
              refine g_aload_n (pc := 102) C dX4_perform_102 rfl 1 rfl ?_
              refine g_iload_n (pc := 103) C dX4_perform_103 rfl 0 rfl ?_
              refine zcallVv (pc := 104) (st := []) C C.2.2.2.2.2 (n_X4_doSingleBit l D ad cy tl A z1) (cwV 1 C.2.2.2.2.1 gw_RX4_112 rfl rfl rfl cd_X4_doSingleBit ⟨Nat.le_of_ble_eq_true rfl, Nat.le_of_ble_eq_true rfl⟩) (hc_19 C) rfl rfl (Nat.le_of_ble_eq_true rfl) ⟨Nat.le_of_ble_eq_true rfl, Nat.le_of_ble_eq_true rfl⟩ dX4_perform_104 ?_
              refine g_goto (pc := 107) C 160 dX4_perform_107 (by decide) ?_
              exact g_sub [1, 0] rfl (J160 z1)
          · have h26 : zI 4096 7423 z1 := zr_lt1 (zc_nle c12) h11 (zi_c 7424 (a := 7424) (b := 7424) (by decide)) (by decide)
            refine g_aload_n (pc := 87) C dX4_perform_87 rfl 1 rfl ?_
            refine g_iload_n (pc := 88) C dX4_perform_88 rfl 0 rfl ?_
            refine zcallVv (pc := 89) (st := []) C C.2.2.2.2.2 (n_X4_doJump l D ad cy tl A z1) (cwV 1 C.2.2.2.2.1 gw_RX4_109 rfl rfl rfl cd_X4_doJump ⟨Nat.le_of_ble_eq_true rfl, Nat.le_of_ble_eq_true rfl⟩) (hc_19 C) rfl rfl (Nat.le_of_ble_eq_true rfl) ⟨Nat.le_of_ble_eq_true rfl, Nat.le_of_ble_eq_true rfl⟩ dX4_perform_89 ?_
            refine g_goto (pc := 92) C 160 dX4_perform_92 (by decide) ?_
            exact g_sub [1, 0] rfl (J160 z1)
        · have h27 : zI 2048 4095 z1 := zr_lt1 (zc_nle c10) h9 (zi_c 4096 (a := 4096) (b := 4096) (by decide)) (by decide)
          refine g_aload_n (pc := 72) C dX4_perform_72 rfl 1 rfl ?_
          refine g_iload_n (pc := 73) C dX4_perform_73 rfl 0 rfl ?_
          refine zcallVv (pc := 74) (st := []) C C.2.2.2.2.2 (n_X4_doShift l D ad cy tl A z1) (cwV 1 C.2.2.2.2.1 gw_RX4_106 rfl rfl rfl cd_X4_doShift ⟨Nat.le_of_ble_eq_true rfl, Nat.le_of_ble_eq_true rfl⟩) (hc_19 C) rfl rfl (Nat.le_of_ble_eq_true rfl) ⟨Nat.le_of_ble_eq_true rfl, Nat.le_of_ble_eq_true rfl⟩ dX4_perform_74 ?_
          refine g_goto (pc := 77) C 160 dX4_perform_77 (by decide) ?_
          exact g_sub [1, 0] rfl (J160 z1)
      · have h28 : zI 1024 2047 z1 := zr_lt1 (zc_nle c8) h7 (zi_c 2048 (a := 2048) (b := 2048) (by decide)) (by decide)
        refine g_aload_n (pc := 57) C dX4_perform_57 rfl 1 rfl ?_
        refine g_iload_n (pc := 58) C dX4_perform_58 rfl 0 rfl ?_
        refine zcallVv (pc := 59) (st := []) C C.2.2.2.2.2 (n_X4_doOneOperand l D ad cy tl A z1) (cwV 1 C.2.2.2.2.1 gw_RX4_103 rfl rfl rfl cd_X4_doOneOperand ⟨Nat.le_of_ble_eq_true rfl, Nat.le_of_ble_eq_true rfl⟩) (hc_19 C) rfl rfl (Nat.le_of_ble_eq_true rfl) ⟨Nat.le_of_ble_eq_true rfl, Nat.le_of_ble_eq_true rfl⟩ dX4_perform_59 ?_
        refine g_goto (pc := 62) C 160 dX4_perform_62 (by decide) ?_
        exact g_sub [1, 0] rfl (J160 z1)
    · have h29 : zI 672 1023 z1 := zr_lt1 (zc_nle c6) h5 (zi_c 1024 (a := 1024) (b := 1024) (by decide)) (by decide)
      refine g_aload_n (pc := 42) C dX4_perform_42 rfl 1 rfl ?_
      refine g_iload_n (pc := 43) C dX4_perform_43 rfl 0 rfl ?_
      refine zcallVv (pc := 44) (st := []) C C.2.2.2.2.2 (n_X4_doControl l D ad cy tl A z1) (cwV 1 C.2.2.2.2.1 gw_RX4_100 rfl rfl rfl cd_X4_doControl ⟨Nat.le_of_ble_eq_true rfl, Nat.le_of_ble_eq_true rfl⟩) (hc_19 C) rfl rfl (Nat.le_of_ble_eq_true rfl) ⟨Nat.le_of_ble_eq_true rfl, Nat.le_of_ble_eq_true rfl⟩ dX4_perform_44 ?_
      refine g_goto (pc := 47) C 160 dX4_perform_47 (by decide) ?_
      exact g_sub [1, 0] rfl (J160 z1)
  · have h30 : zI (-2147483648) 671 z1 := zr_lt1 (zc_nle c4) (zi_full z1) (zi_c 672 (a := 672) (b := 672) (by decide)) (by decide)
    refine g_aload_n (pc := 27) C dX4_perform_27 rfl 1 rfl ?_
    refine g_iload_n (pc := 28) C dX4_perform_28 rfl 0 rfl ?_
    refine zcallVv (pc := 29) (st := []) C C.2.2.2.2.2 (n_X4_doImmediate l D ad cy tl A z1) (cwV 1 C.2.2.2.2.1 gw_RX4_97 rfl rfl rfl cd_X4_doImmediate ⟨Nat.le_of_ble_eq_true rfl, Nat.le_of_ble_eq_true rfl⟩) (hc_19 C) rfl rfl (Nat.le_of_ble_eq_true rfl) ⟨Nat.le_of_ble_eq_true rfl, Nat.le_of_ble_eq_true rfl⟩ dX4_perform_29 ?_
    refine g_goto (pc := 32) C 160 dX4_perform_32 (by decide) ?_
    exact g_sub [1, 0] rfl (J160 z1)

