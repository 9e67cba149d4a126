/-! the law, case by case -/
section LC
variable {p : Program} {l : Launch} {e : Env} {s : State} {m : MethodId} {below : List Frame} {meth : Method} {c : Code} {b L : Nat} {xs : Nat → Int32} {D : va_G} {cI cZ : ClassId} {g a : Nat → Nat} {Q : State → Prop} {cells slots : Nat}
set_option maxHeartbeats 1000000 in
set_option maxRecDepth 100000 in
theorem lc_press (E : lwE p s m c b L xs D cI cZ g cells slots) {G : va_W} {H : Heap} {locs : List Loc} {ls : Array Slot} {i : Nat} (hi : i + 5 ≤ L) (hInv : gInv cI cZ a G) (hP : va_P D vwCl G H) (hD : va_D (fun q : Nat => s.heap.size ≤ q) G) (hS : va_S (fun q : Nat => s.heap.size ≤ q) s.heap H locs) (hl : lv_has ls 4 [(0, .ref b), (1, .ref (a 0)), (2, .ref (a 22)), (3, .int (nI i))]) (cont : ∀ (G : va_W) (H : Heap) (locs : List Loc), va_P D vwCl G H → va_D (fun q : Nat => s.heap.size ≤ q) G → va_S (fun q : Nat => s.heap.size ≤ q) s.heap H locs → gInv cI cZ a G → W p l e room_1 s m #[Value.ref b] below meth c H locs cells slots Q (F0 m 779 ls [])) : W p l e room_1 s m #[Value.ref b] below meth c H locs cells slots Q (F0 m 136 ls []) := by
  obtain ⟨hx, hb, hml, hown, hts, hX, hbl, hL, hK, hN, hZ, hce, hsl⟩ := E
  have hbA : ¬ (fun q : Nat => s.heap.size ≤ q) b := Nat.not_le.mpr hbl
  obtain ⟨fs0, w0⟩ := gInv_0 hInv
  obtain ⟨r7, r8, Rv, B7, B8, k7, k8, kI, ⟨f7, l7, c7, s7⟩, ⟨f8, l8, c8, s8⟩⟩ := pi_press (l := l) (D := D) (A := (fun q : Nat => s.heap.size ≤ q)) (g := g) hInv (xs (i + 1)) (xs (i + 2))
  refine lv_aload_n (pc := 136) hx hb dL_law_136 rfl (lv_at hl 1 rfl) ?_
  refine lv_aload_n (pc := 137) hx hb dL_law_137 rfl (lv_at hl 0 rfl) ?_
  refine lv_iload_n (pc := 138) hx hb dL_law_138 rfl (lv_at hl 3 rfl) ?_
  refine lv_iconst (v := nI 1) (pc := 139) hx hb dL_law_139 (by decide) ?_
  refine mx_iadd (pc := 140) hx hb dL_law_140 ?_
  refine mx_sld (pc := 141) hx hb hX hbl hbA hS (i + 1) (by omega) (by omega) dL_law_141 ?_
  refine lv_aload_n (pc := 142) hx hb dL_law_142 rfl (lv_at hl 0 rfl) ?_
  refine lv_iload_n (pc := 143) hx hb dL_law_143 rfl (lv_at hl 3 rfl) ?_
  refine lv_iconst (v := nI 2) (pc := 144) hx hb dL_law_144 (by decide) ?_
  refine mx_iadd (pc := 145) hx hb dL_law_145 ?_
  refine mx_sld (pc := 146) hx hb hX hbl hbA hS (i + 2) (by omega) (by omega) dL_law_146 ?_
  refine mx_cVi (As := [.int (xs (i + 1)), .int (xs (i + 2))]) (rest := []) (pc := 147) ⟨hx, hb, hml, hown, hts⟩ (k7 hD) (cwV 2 hts hL_X7_press rfl c7 s7 (by decide +kernel) ⟨by show r7.frames + 1 ≤ 8; omega, by show 8 + (3 + 11) + r7.locals ≤ 278; omega⟩) 0 rfl rfl w0 hK hN hZ hP hS rfl hl.1 rfl (Nat.le_of_ble_eq_true rfl) dL_law_147 ⟨hce, hsl⟩ (fun G1 H locs hP hD hS hB7 => ?_)
  refine lv_aload_n (pc := 150) hx hb dL_law_150 rfl (lv_at hl 2 rfl) ?_
  refine lv_aload_n (pc := 151) hx hb dL_law_151 rfl (lv_at hl 0 rfl) ?_
  refine lv_iload_n (pc := 152) hx hb dL_law_152 rfl (lv_at hl 3 rfl) ?_
  refine lv_iconst (v := nI 1) (pc := 153) hx hb dL_law_153 (by decide) ?_
  refine mx_iadd (pc := 154) hx hb dL_law_154 ?_
  refine mx_sld (pc := 155) hx hb hX hbl hbA hS (i + 1) (by omega) (by omega) dL_law_155 ?_
  refine lv_aload_n (pc := 156) hx hb dL_law_156 rfl (lv_at hl 0 rfl) ?_
  refine lv_iload_n (pc := 157) hx hb dL_law_157 rfl (lv_at hl 3 rfl) ?_
  refine lv_iconst (v := nI 2) (pc := 158) hx hb dL_law_158 (by decide) ?_
  refine mx_iadd (pc := 159) hx hb dL_law_159 ?_
  refine mx_sld (pc := 160) hx hb hX hbl hbA hS (i + 2) (by omega) (by omega) dL_law_160 ?_
  obtain ⟨⟨fs1, w22⟩, k9⟩ := k8 G1 hB7 hD
  refine mx_cVi (As := [.int (xs (i + 1)), .int (xs (i + 2))]) (rest := [.int Rv]) (pc := 161) ⟨hx, hb, hml, hown, hts⟩ k9 (cwV 2 hts hL_X8_press rfl c8 s8 (by decide +kernel) ⟨by show r8.frames + 1 ≤ 8; omega, by show 8 + (3 + 11) + r8.locals ≤ 278; omega⟩) 22 rfl rfl w22 hK hN hZ hP hS rfl hl.1 rfl (Nat.le_of_ble_eq_true rfl) dL_law_161 ⟨hce, hsl⟩ (fun G2 H locs hP hD hS hB8 => ?_)
  refine lv_icmp_eq (tgt := 779) (pc := 164) hx hb dL_law_164 (by decide) (fun _ => ?_) (fun q => absurd rfl q)
  exact cont G2 H locs hP hD hS (kI G1 G2 hB7 hB8)
set_option maxHeartbeats 1000000 in
set_option maxRecDepth 100000 in
theorem lc_rule (E : lwE p s m c b L xs D cI cZ g cells slots) {G : va_W} {H : Heap} {locs : List Loc} {ls : Array Slot} {i : Nat} (hi : i + 5 ≤ L) (hInv : gInv cI cZ a G) (hP : va_P D vwCl G H) (hD : va_D (fun q : Nat => s.heap.size ≤ q) G) (hS : va_S (fun q : Nat => s.heap.size ≤ q) s.heap H locs) (hl : lv_has ls 4 [(0, .ref b), (1, .ref (a 0)), (2, .ref (a 22)), (3, .int (nI i))]) (cont : ∀ (G : va_W) (H : Heap) (locs : List Loc), va_P D vwCl G H → va_D (fun q : Nat => s.heap.size ≤ q) G → va_S (fun q : Nat => s.heap.size ≤ q) s.heap H locs → gInv cI cZ a G → W p l e room_1 s m #[Value.ref b] below meth c H locs cells slots Q (F0 m 779 ls [])) : W p l e room_1 s m #[Value.ref b] below meth c H locs cells slots Q (F0 m 169 ls []) := by
  obtain ⟨hx, hb, hml, hown, hts, hX, hbl, hL, hK, hN, hZ, hce, hsl⟩ := E
  have hbA : ¬ (fun q : Nat => s.heap.size ≤ q) b := Nat.not_le.mpr hbl
  obtain ⟨fs0, w0⟩ := gInv_0 hInv
  obtain ⟨r7, r8, Rv, B7, B8, k7, k8, kI, ⟨f7, l7, c7, s7⟩, ⟨f8, l8, c8, s8⟩⟩ := pi_rule (l := l) (D := D) (A := (fun q : Nat => s.heap.size ≤ q)) (g := g) hInv (xs (i + 1)) (xs (i + 2))
  refine lv_aload_n (pc := 169) hx hb dL_law_169 rfl (lv_at hl 1 rfl) ?_
  refine lv_aload_n (pc := 170) hx hb dL_law_170 rfl (lv_at hl 0 rfl) ?_
  refine lv_iload_n (pc := 171) hx hb dL_law_171 rfl (lv_at hl 3 rfl) ?_
  refine lv_iconst (v := nI 1) (pc := 172) hx hb dL_law_172 (by decide) ?_
  refine mx_iadd (pc := 173) hx hb dL_law_173 ?_
  refine mx_sld (pc := 174) hx hb hX hbl hbA hS (i + 1) (by omega) (by omega) dL_law_174 ?_
  refine lv_aload_n (pc := 175) hx hb dL_law_175 rfl (lv_at hl 0 rfl) ?_
  refine lv_iload_n (pc := 176) hx hb dL_law_176 rfl (lv_at hl 3 rfl) ?_
  refine lv_iconst (v := nI 2) (pc := 177) hx hb dL_law_177 (by decide) ?_
  refine mx_iadd (pc := 178) hx hb dL_law_178 ?_
  refine mx_sld (pc := 179) hx hb hX hbl hbA hS (i + 2) (by omega) (by omega) dL_law_179 ?_
  refine mx_cVi (As := [.int (xs (i + 1)), .int (xs (i + 2))]) (rest := []) (pc := 180) ⟨hx, hb, hml, hown, hts⟩ (k7 hD) (cwV 2 hts hL_X7_rule rfl c7 s7 (by decide +kernel) ⟨by show r7.frames + 1 ≤ 8; omega, by show 8 + (3 + 11) + r7.locals ≤ 278; omega⟩) 0 rfl rfl w0 hK hN hZ hP hS rfl hl.1 rfl (Nat.le_of_ble_eq_true rfl) dL_law_180 ⟨hce, hsl⟩ (fun G1 H locs hP hD hS hB7 => ?_)
  refine lv_aload_n (pc := 183) hx hb dL_law_183 rfl (lv_at hl 2 rfl) ?_
  refine lv_aload_n (pc := 184) hx hb dL_law_184 rfl (lv_at hl 0 rfl) ?_
  refine lv_iload_n (pc := 185) hx hb dL_law_185 rfl (lv_at hl 3 rfl) ?_
  refine lv_iconst (v := nI 1) (pc := 186) hx hb dL_law_186 (by decide) ?_
  refine mx_iadd (pc := 187) hx hb dL_law_187 ?_
  refine mx_sld (pc := 188) hx hb hX hbl hbA hS (i + 1) (by omega) (by omega) dL_law_188 ?_
  refine lv_aload_n (pc := 189) hx hb dL_law_189 rfl (lv_at hl 0 rfl) ?_
  refine lv_iload_n (pc := 190) hx hb dL_law_190 rfl (lv_at hl 3 rfl) ?_
  refine lv_iconst (v := nI 2) (pc := 191) hx hb dL_law_191 (by decide) ?_
  refine mx_iadd (pc := 192) hx hb dL_law_192 ?_
  refine mx_sld (pc := 193) hx hb hX hbl hbA hS (i + 2) (by omega) (by omega) dL_law_193 ?_
  obtain ⟨⟨fs1, w22⟩, k9⟩ := k8 G1 hB7 hD
  refine mx_cVi (As := [.int (xs (i + 1)), .int (xs (i + 2))]) (rest := [.int Rv]) (pc := 194) ⟨hx, hb, hml, hown, hts⟩ k9 (cwV 2 hts hL_X8_rule rfl c8 s8 (by decide +kernel) ⟨by show r8.frames + 1 ≤ 8; omega, by show 8 + (4 + 11) + r8.locals ≤ 278; omega⟩) 22 rfl rfl w22 hK hN hZ hP hS rfl hl.1 rfl (Nat.le_of_ble_eq_true rfl) dL_law_194 ⟨hce, hsl⟩ (fun G2 H locs hP hD hS hB8 => ?_)
  refine lv_icmp_eq (tgt := 779) (pc := 197) hx hb dL_law_197 (by decide) (fun _ => ?_) (fun q => absurd rfl q)
  exact cont G2 H locs hP hD hS (kI G1 G2 hB7 hB8)
set_option maxHeartbeats 1000000 in
set_option maxRecDepth 100000 in
theorem lc_set (E : lwE p s m c b L xs D cI cZ g cells slots) {G : va_W} {H : Heap} {locs : List Loc} {ls : Array Slot} {i : Nat} (hi : i + 5 ≤ L) (hInv : gInv cI cZ a G) (hP : va_P D vwCl G H) (hD : va_D (fun q : Nat => s.heap.size ≤ q) G) (hS : va_S (fun q : Nat => s.heap.size ≤ q) s.heap H locs) (hl : lv_has ls 4 [(0, .ref b), (1, .ref (a 0)), (2, .ref (a 22)), (3, .int (nI i))]) (cont : ∀ (G : va_W) (H : Heap) (locs : List Loc), va_P D vwCl G H → va_D (fun q : Nat => s.heap.size ≤ q) G → va_S (fun q : Nat => s.heap.size ≤ q) s.heap H locs → gInv cI cZ a G → W p l e room_1 s m #[Value.ref b] below meth c H locs cells slots Q (F0 m 779 ls [])) : W p l e room_1 s m #[Value.ref b] below meth c H locs cells slots Q (F0 m 202 ls []) := by
  obtain ⟨hx, hb, hml, hown, hts, hX, hbl, hL, hK, hN, hZ, hce, hsl⟩ := E
  have hbA : ¬ (fun q : Nat => s.heap.size ≤ q) b := Nat.not_le.mpr hbl
  obtain ⟨fs0, w0⟩ := gInv_0 hInv
  obtain ⟨r7, r8, Rv, B7, B8, k7, k8, kI, ⟨f7, l7, c7, s7⟩, ⟨f8, l8, c8, s8⟩⟩ := pi_set (l := l) (D := D) (A := (fun q : Nat => s.heap.size ≤ q)) (g := g) hInv (xs (i + 1)) (xs (i + 2)) (xs (i + 3))
  refine lv_aload_n (pc := 202) hx hb dL_law_202 rfl (lv_at hl 1 rfl) ?_
  refine lv_aload_n (pc := 203) hx hb dL_law_203 rfl (lv_at hl 0 rfl) ?_
  refine lv_iload_n (pc := 204) hx hb dL_law_204 rfl (lv_at hl 3 rfl) ?_
  refine lv_iconst (v := nI 1) (pc := 205) hx hb dL_law_205 (by decide) ?_
  refine mx_iadd (pc := 206) hx hb dL_law_206 ?_
  refine mx_sld (pc := 207) hx hb hX hbl hbA hS (i + 1) (by omega) (by omega) dL_law_207 ?_
  refine lv_aload_n (pc := 208) hx hb dL_law_208 rfl (lv_at hl 0 rfl) ?_
  refine lv_iload_n (pc := 209) hx hb dL_law_209 rfl (lv_at hl 3 rfl) ?_
  refine lv_iconst (v := nI 2) (pc := 210) hx hb dL_law_210 (by decide) ?_
  refine mx_iadd (pc := 211) hx hb dL_law_211 ?_
  refine mx_sld (pc := 212) hx hb hX hbl hbA hS (i + 2) (by omega) (by omega) dL_law_212 ?_
  refine lv_aload_n (pc := 213) hx hb dL_law_213 rfl (lv_at hl 0 rfl) ?_
  refine lv_iload_n (pc := 214) hx hb dL_law_214 rfl (lv_at hl 3 rfl) ?_
  refine lv_iconst (v := nI 3) (pc := 215) hx hb dL_law_215 (by decide) ?_
  refine mx_iadd (pc := 216) hx hb dL_law_216 ?_
  refine mx_sld (pc := 217) hx hb hX hbl hbA hS (i + 3) (by omega) (by omega) dL_law_217 ?_
  refine mx_cVi (As := [.int (xs (i + 1)), .int (xs (i + 2)), .int (xs (i + 3))]) (rest := []) (pc := 218) ⟨hx, hb, hml, hown, hts⟩ (k7 hD) (cwV 3 hts hL_X7_set rfl c7 s7 (by decide +kernel) ⟨by show r7.frames + 1 ≤ 8; omega, by show 8 + (4 + 11) + r7.locals ≤ 278; omega⟩) 0 rfl rfl w0 hK hN hZ hP hS rfl hl.1 rfl (Nat.le_of_ble_eq_true rfl) dL_law_218 ⟨hce, hsl⟩ (fun G1 H locs hP hD hS hB7 => ?_)
  refine lv_aload_n (pc := 221) hx hb dL_law_221 rfl (lv_at hl 2 rfl) ?_
  refine lv_aload_n (pc := 222) hx hb dL_law_222 rfl (lv_at hl 0 rfl) ?_
  refine lv_iload_n (pc := 223) hx hb dL_law_223 rfl (lv_at hl 3 rfl) ?_
  refine lv_iconst (v := nI 1) (pc := 224) hx hb dL_law_224 (by decide) ?_
  refine mx_iadd (pc := 225) hx hb dL_law_225 ?_
  refine mx_sld (pc := 226) hx hb hX hbl hbA hS (i + 1) (by omega) (by omega) dL_law_226 ?_
  refine lv_aload_n (pc := 227) hx hb dL_law_227 rfl (lv_at hl 0 rfl) ?_
  refine lv_iload_n (pc := 228) hx hb dL_law_228 rfl (lv_at hl 3 rfl) ?_
  refine lv_iconst (v := nI 2) (pc := 229) hx hb dL_law_229 (by decide) ?_
  refine mx_iadd (pc := 230) hx hb dL_law_230 ?_
  refine mx_sld (pc := 231) hx hb hX hbl hbA hS (i + 2) (by omega) (by omega) dL_law_231 ?_
  refine lv_aload_n (pc := 232) hx hb dL_law_232 rfl (lv_at hl 0 rfl) ?_
  refine lv_iload_n (pc := 233) hx hb dL_law_233 rfl (lv_at hl 3 rfl) ?_
  refine lv_iconst (v := nI 3) (pc := 234) hx hb dL_law_234 (by decide) ?_
  refine mx_iadd (pc := 235) hx hb dL_law_235 ?_
  refine mx_sld (pc := 236) hx hb hX hbl hbA hS (i + 3) (by omega) (by omega) dL_law_236 ?_
  obtain ⟨⟨fs1, w22⟩, k9⟩ := k8 G1 hB7 hD
  refine mx_cVi (As := [.int (xs (i + 1)), .int (xs (i + 2)), .int (xs (i + 3))]) (rest := [.int Rv]) (pc := 237) ⟨hx, hb, hml, hown, hts⟩ k9 (cwV 3 hts hL_X8_set rfl c8 s8 (by decide +kernel) ⟨by show r8.frames + 1 ≤ 8; omega, by show 8 + (5 + 11) + r8.locals ≤ 278; omega⟩) 22 rfl rfl w22 hK hN hZ hP hS rfl hl.1 rfl (Nat.le_of_ble_eq_true rfl) dL_law_237 ⟨hce, hsl⟩ (fun G2 H locs hP hD hS hB8 => ?_)
  refine lv_icmp_eq (tgt := 779) (pc := 240) hx hb dL_law_240 (by decide) (fun _ => ?_) (fun q => absurd rfl q)
  exact cont G2 H locs hP hD hS (kI G1 G2 hB7 hB8)
set_option maxHeartbeats 1000000 in
set_option maxRecDepth 100000 in
theorem lc_zone (E : lwE p s m c b L xs D cI cZ g cells slots) {G : va_W} {H : Heap} {locs : List Loc} {ls : Array Slot} {i : Nat} (hi : i + 5 ≤ L) (hInv : gInv cI cZ a G) (hP : va_P D vwCl G H) (hD : va_D (fun q : Nat => s.heap.size ≤ q) G) (hS : va_S (fun q : Nat => s.heap.size ≤ q) s.heap H locs) (hl : lv_has ls 4 [(0, .ref b), (1, .ref (a 0)), (2, .ref (a 22)), (3, .int (nI i))]) (cont : ∀ (G : va_W) (H : Heap) (locs : List Loc), va_P D vwCl G H → va_D (fun q : Nat => s.heap.size ≤ q) G → va_S (fun q : Nat => s.heap.size ≤ q) s.heap H locs → gInv cI cZ a G → W p l e room_1 s m #[Value.ref b] below meth c H locs cells slots Q (F0 m 779 ls [])) : W p l e room_1 s m #[Value.ref b] below meth c H locs cells slots Q (F0 m 245 ls []) := by
  obtain ⟨hx, hb, hml, hown, hts, hX, hbl, hL, hK, hN, hZ, hce, hsl⟩ := E
  have hbA : ¬ (fun q : Nat => s.heap.size ≤ q) b := Nat.not_le.mpr hbl
  obtain ⟨fs0, w0⟩ := gInv_0 hInv
  obtain ⟨r7, r8, Rv, B7, B8, k7, k8, kI, ⟨f7, l7, c7, s7⟩, ⟨f8, l8, c8, s8⟩⟩ := pi_zone (l := l) (D := D) (A := (fun q : Nat => s.heap.size ≤ q)) (g := g) hInv (xs (i + 1)) (xs (i + 2))
  refine lv_aload_n (pc := 245) hx hb dL_law_245 rfl (lv_at hl 1 rfl) ?_
  refine lv_aload_n (pc := 246) hx hb dL_law_246 rfl (lv_at hl 0 rfl) ?_
  refine lv_iload_n (pc := 247) hx hb dL_law_247 rfl (lv_at hl 3 rfl) ?_
  refine lv_iconst (v := nI 1) (pc := 248) hx hb dL_law_248 (by decide) ?_
  refine mx_iadd (pc := 249) hx hb dL_law_249 ?_
  refine mx_sld (pc := 250) hx hb hX hbl hbA hS (i + 1) (by omega) (by omega) dL_law_250 ?_
  refine lv_aload_n (pc := 251) hx hb dL_law_251 rfl (lv_at hl 0 rfl) ?_
  refine lv_iload_n (pc := 252) hx hb dL_law_252 rfl (lv_at hl 3 rfl) ?_
  refine lv_iconst (v := nI 2) (pc := 253) hx hb dL_law_253 (by decide) ?_
  refine mx_iadd (pc := 254) hx hb dL_law_254 ?_
  refine mx_sld (pc := 255) hx hb hX hbl hbA hS (i + 2) (by omega) (by omega) dL_law_255 ?_
  refine mx_cVi (As := [.int (xs (i + 1)), .int (xs (i + 2))]) (rest := []) (pc := 256) ⟨hx, hb, hml, hown, hts⟩ (k7 hD) (cwV 2 hts hL_X7_zone rfl c7 s7 (by decide +kernel) ⟨by show r7.frames + 1 ≤ 8; omega, by show 8 + (3 + 11) + r7.locals ≤ 278; omega⟩) 0 rfl rfl w0 hK hN hZ hP hS rfl hl.1 rfl (Nat.le_of_ble_eq_true rfl) dL_law_256 ⟨hce, hsl⟩ (fun G1 H locs hP hD hS hB7 => ?_)
  refine lv_aload_n (pc := 259) hx hb dL_law_259 rfl (lv_at hl 2 rfl) ?_
  refine lv_aload_n (pc := 260) hx hb dL_law_260 rfl (lv_at hl 0 rfl) ?_
  refine lv_iload_n (pc := 261) hx hb dL_law_261 rfl (lv_at hl 3 rfl) ?_
  refine lv_iconst (v := nI 1) (pc := 262) hx hb dL_law_262 (by decide) ?_
  refine mx_iadd (pc := 263) hx hb dL_law_263 ?_
  refine mx_sld (pc := 264) hx hb hX hbl hbA hS (i + 1) (by omega) (by omega) dL_law_264 ?_
  refine lv_aload_n (pc := 265) hx hb dL_law_265 rfl (lv_at hl 0 rfl) ?_
  refine lv_iload_n (pc := 266) hx hb dL_law_266 rfl (lv_at hl 3 rfl) ?_
  refine lv_iconst (v := nI 2) (pc := 267) hx hb dL_law_267 (by decide) ?_
  refine mx_iadd (pc := 268) hx hb dL_law_268 ?_
  refine mx_sld (pc := 269) hx hb hX hbl hbA hS (i + 2) (by omega) (by omega) dL_law_269 ?_
  obtain ⟨⟨fs1, w22⟩, k9⟩ := k8 G1 hB7 hD
  refine mx_cVi (As := [.int (xs (i + 1)), .int (xs (i + 2))]) (rest := [.int Rv]) (pc := 270) ⟨hx, hb, hml, hown, hts⟩ k9 (cwV 2 hts hL_X8_zone rfl c8 s8 (by decide +kernel) ⟨by show r8.frames + 1 ≤ 8; omega, by show 8 + (3 + 11) + r8.locals ≤ 278; omega⟩) 22 rfl rfl w22 hK hN hZ hP hS rfl hl.1 rfl (Nat.le_of_ble_eq_true rfl) dL_law_270 ⟨hce, hsl⟩ (fun G2 H locs hP hD hS hB8 => ?_)
  refine lv_icmp_eq (tgt := 779) (pc := 273) hx hb dL_law_273 (by decide) (fun _ => ?_) (fun q => absurd rfl q)
  exact cont G2 H locs hP hD hS (kI G1 G2 hB7 hB8)
set_option maxHeartbeats 1000000 in
set_option maxRecDepth 100000 in
theorem lc_ink (E : lwE p s m c b L xs D cI cZ g cells slots) {G : va_W} {H : Heap} {locs : List Loc} {ls : Array Slot} {i : Nat} (hi : i + 5 ≤ L) (hInv : gInv cI cZ a G) (hP : va_P D vwCl G H) (hD : va_D (fun q : Nat => s.heap.size ≤ q) G) (hS : va_S (fun q : Nat => s.heap.size ≤ q) s.heap H locs) (hl : lv_has ls 4 [(0, .ref b), (1, .ref (a 0)), (2, .ref (a 22)), (3, .int (nI i))]) (cont : ∀ (G : va_W) (H : Heap) (locs : List Loc), va_P D vwCl G H → va_D (fun q : Nat => s.heap.size ≤ q) G → va_S (fun q : Nat => s.heap.size ≤ q) s.heap H locs → gInv cI cZ a G → W p l e room_1 s m #[Value.ref b] below meth c H locs cells slots Q (F0 m 779 ls [])) : W p l e room_1 s m #[Value.ref b] below meth c H locs cells slots Q (F0 m 278 ls []) := by
  obtain ⟨hx, hb, hml, hown, hts, hX, hbl, hL, hK, hN, hZ, hce, hsl⟩ := E
  have hbA : ¬ (fun q : Nat => s.heap.size ≤ q) b := Nat.not_le.mpr hbl
  obtain ⟨fs0, w0⟩ := gInv_0 hInv
  obtain ⟨r7, r8, Rv, B7, B8, k7, k8, kI, ⟨f7, l7, c7, s7⟩, ⟨f8, l8, c8, s8⟩⟩ := pi_ink (l := l) (D := D) (A := (fun q : Nat => s.heap.size ≤ q)) (g := g) hInv (xs (i + 1)) (xs (i + 2))
  refine lv_aload_n (pc := 278) hx hb dL_law_278 rfl (lv_at hl 1 rfl) ?_
  refine lv_aload_n (pc := 279) hx hb dL_law_279 rfl (lv_at hl 0 rfl) ?_
  refine lv_iload_n (pc := 280) hx hb dL_law_280 rfl (lv_at hl 3 rfl) ?_
  refine lv_iconst (v := nI 1) (pc := 281) hx hb dL_law_281 (by decide) ?_
  refine mx_iadd (pc := 282) hx hb dL_law_282 ?_
  refine mx_sld (pc := 283) hx hb hX hbl hbA hS (i + 1) (by omega) (by omega) dL_law_283 ?_
  refine lv_aload_n (pc := 284) hx hb dL_law_284 rfl (lv_at hl 0 rfl) ?_
  refine lv_iload_n (pc := 285) hx hb dL_law_285 rfl (lv_at hl 3 rfl) ?_
  refine lv_iconst (v := nI 2) (pc := 286) hx hb dL_law_286 (by decide) ?_
  refine mx_iadd (pc := 287) hx hb dL_law_287 ?_
  refine mx_sld (pc := 288) hx hb hX hbl hbA hS (i + 2) (by omega) (by omega) dL_law_288 ?_
  refine mx_cVi (As := [.int (xs (i + 1)), .int (xs (i + 2))]) (rest := []) (pc := 289) ⟨hx, hb, hml, hown, hts⟩ (k7 hD) (cwV 2 hts hL_X7_ink rfl c7 s7 (by decide +kernel) ⟨by show r7.frames + 1 ≤ 8; omega, by show 8 + (3 + 11) + r7.locals ≤ 278; omega⟩) 0 rfl rfl w0 hK hN hZ hP hS rfl hl.1 rfl (Nat.le_of_ble_eq_true rfl) dL_law_289 ⟨hce, hsl⟩ (fun G1 H locs hP hD hS hB7 => ?_)
  refine lv_aload_n (pc := 292) hx hb dL_law_292 rfl (lv_at hl 2 rfl) ?_
  refine lv_aload_n (pc := 293) hx hb dL_law_293 rfl (lv_at hl 0 rfl) ?_
  refine lv_iload_n (pc := 294) hx hb dL_law_294 rfl (lv_at hl 3 rfl) ?_
  refine lv_iconst (v := nI 1) (pc := 295) hx hb dL_law_295 (by decide) ?_
  refine mx_iadd (pc := 296) hx hb dL_law_296 ?_
  refine mx_sld (pc := 297) hx hb hX hbl hbA hS (i + 1) (by omega) (by omega) dL_law_297 ?_
  refine lv_aload_n (pc := 298) hx hb dL_law_298 rfl (lv_at hl 0 rfl) ?_
  refine lv_iload_n (pc := 299) hx hb dL_law_299 rfl (lv_at hl 3 rfl) ?_
  refine lv_iconst (v := nI 2) (pc := 300) hx hb dL_law_300 (by decide) ?_
  refine mx_iadd (pc := 301) hx hb dL_law_301 ?_
  refine mx_sld (pc := 302) hx hb hX hbl hbA hS (i + 2) (by omega) (by omega) dL_law_302 ?_
  obtain ⟨⟨fs1, w22⟩, k9⟩ := k8 G1 hB7 hD
  refine mx_cVi (As := [.int (xs (i + 1)), .int (xs (i + 2))]) (rest := [.int Rv]) (pc := 303) ⟨hx, hb, hml, hown, hts⟩ k9 (cwV 2 hts hL_X8_ink rfl c8 s8 (by decide +kernel) ⟨by show r8.frames + 1 ≤ 8; omega, by show 8 + (3 + 11) + r8.locals ≤ 278; omega⟩) 22 rfl rfl w22 hK hN hZ hP hS rfl hl.1 rfl (Nat.le_of_ble_eq_true rfl) dL_law_303 ⟨hce, hsl⟩ (fun G2 H locs hP hD hS hB8 => ?_)
  refine lv_icmp_eq (tgt := 779) (pc := 306) hx hb dL_law_306 (by decide) (fun _ => ?_) (fun q => absurd rfl q)
  exact cont G2 H locs hP hD hS (kI G1 G2 hB7 hB8)
set_option maxHeartbeats 1000000 in
set_option maxRecDepth 100000 in
theorem lc_print (E : lwE p s m c b L xs D cI cZ g cells slots) {G : va_W} {H : Heap} {locs : List Loc} {ls : Array Slot} {i : Nat} (hi : i + 5 ≤ L) (hInv : gInv cI cZ a G) (hP : va_P D vwCl G H) (hD : va_D (fun q : Nat => s.heap.size ≤ q) G) (hS : va_S (fun q : Nat => s.heap.size ≤ q) s.heap H locs) (hl : lv_has ls 4 [(0, .ref b), (1, .ref (a 0)), (2, .ref (a 22)), (3, .int (nI i))]) (cont : ∀ (G : va_W) (H : Heap) (locs : List Loc), va_P D vwCl G H → va_D (fun q : Nat => s.heap.size ≤ q) G → va_S (fun q : Nat => s.heap.size ≤ q) s.heap H locs → gInv cI cZ a G → W p l e room_1 s m #[Value.ref b] below meth c H locs cells slots Q (F0 m 779 ls [])) : W p l e room_1 s m #[Value.ref b] below meth c H locs cells slots Q (F0 m 311 ls []) := by
  obtain ⟨hx, hb, hml, hown, hts, hX, hbl, hL, hK, hN, hZ, hce, hsl⟩ := E
  have hbA : ¬ (fun q : Nat => s.heap.size ≤ q) b := Nat.not_le.mpr hbl
  obtain ⟨fs0, w0⟩ := gInv_0 hInv
  obtain ⟨r7, r8, Rv, B7, B8, k7, k8, kI, ⟨f7, l7, c7, s7⟩, ⟨f8, l8, c8, s8⟩⟩ := pi_print (l := l) (D := D) (A := (fun q : Nat => s.heap.size ≤ q)) (g := g) hInv (xs (i + 1))
  refine lv_aload_n (pc := 311) hx hb dL_law_311 rfl (lv_at hl 1 rfl) ?_
  refine lv_aload_n (pc := 312) hx hb dL_law_312 rfl (lv_at hl 0 rfl) ?_
  refine lv_iload_n (pc := 313) hx hb dL_law_313 rfl (lv_at hl 3 rfl) ?_
  refine lv_iconst (v := nI 1) (pc := 314) hx hb dL_law_314 (by decide) ?_
  refine mx_iadd (pc := 315) hx hb dL_law_315 ?_
  refine mx_sld (pc := 316) hx hb hX hbl hbA hS (i + 1) (by omega) (by omega) dL_law_316 ?_
  refine mx_cVi (As := [.int (xs (i + 1))]) (rest := []) (pc := 317) ⟨hx, hb, hml, hown, hts⟩ (k7 hD) (cwV 1 hts hL_X7_print rfl c7 s7 (by decide +kernel) ⟨by show r7.frames + 1 ≤ 8; omega, by show 8 + (3 + 11) + r7.locals ≤ 278; omega⟩) 0 rfl rfl w0 hK hN hZ hP hS rfl hl.1 rfl (Nat.le_of_ble_eq_true rfl) dL_law_317 ⟨hce, hsl⟩ (fun G1 H locs hP hD hS hB7 => ?_)
  refine lv_aload_n (pc := 320) hx hb dL_law_320 rfl (lv_at hl 2 rfl) ?_
  refine lv_aload_n (pc := 321) hx hb dL_law_321 rfl (lv_at hl 0 rfl) ?_
  refine lv_iload_n (pc := 322) hx hb dL_law_322 rfl (lv_at hl 3 rfl) ?_
  refine lv_iconst (v := nI 1) (pc := 323) hx hb dL_law_323 (by decide) ?_
  refine mx_iadd (pc := 324) hx hb dL_law_324 ?_
  refine mx_sld (pc := 325) hx hb hX hbl hbA hS (i + 1) (by omega) (by omega) dL_law_325 ?_
  obtain ⟨⟨fs1, w22⟩, k9⟩ := k8 G1 hB7 hD
  refine mx_cVi (As := [.int (xs (i + 1))]) (rest := [.int Rv]) (pc := 326) ⟨hx, hb, hml, hown, hts⟩ k9 (cwV 1 hts hL_X8_print rfl c8 s8 (by decide +kernel) ⟨by show r8.frames + 1 ≤ 8; omega, by show 8 + (3 + 11) + r8.locals ≤ 278; omega⟩) 22 rfl rfl w22 hK hN hZ hP hS rfl hl.1 rfl (Nat.le_of_ble_eq_true rfl) dL_law_326 ⟨hce, hsl⟩ (fun G2 H locs hP hD hS hB8 => ?_)
  refine lv_icmp_eq (tgt := 779) (pc := 329) hx hb dL_law_329 (by decide) (fun _ => ?_) (fun q => absurd rfl q)
  exact cont G2 H locs hP hD hS (kI G1 G2 hB7 hB8)
end LC
