set_option maxHeartbeats 4000000 in
set_option maxRecDepth 100000 in
theorem law_c0 {p : Program} {l : Launch} {e : Env} {s : State} {m : MethodId} {below : List Frame} {meth : Method} {c : Code} {H : Heap} {locs : List Loc} {Q : State → Prop} {b L i : Nat} {xs : Nat → Int32} {D : va_G} {cI cZ : ClassId} {a k : Nat → Nat} {ls : Array Slot} {np nh nn nb ne : Nat} {td : Int32} {P G N B E : Nat → Nat → Int32} {mc : Nat → Int32} (X : LX p s m meth c b L xs D cI cZ a k ls i) (Y : LY s D cI cZ a k H locs np nh nn nb ne td P G N B E mc) (kk : LK p l e s m below meth c Q b D cI cZ a k ls) : W p l e room_1 s m #[Value.ref b] below meth c H locs 40 9000 Q (F0 m 136 ls []) := by
  obtain ⟨⟨hx, hb, hml, hown, hts, hX, hbl, hK, hL, hap, hr, hlocks⟩, hl, hi⟩ := id X
  obtain ⟨hv, hP, hM, hD, hE, hS⟩ := id Y
  obtain ⟨⟨hnp, hnh, hnn, hnb, hne⟩, ⟨hw, hs, hs0⟩, ⟨hg, hl0⟩, ⟨ho, hN0, hN1, hmc, hon⟩, htd⟩ := id hv
  refine lv_aload_n hx hb dL_law_136 rfl (lv_at hl 1 rfl) ?_
  refine ls_ld X hS 1 (by omega) (by decide) dL_law_137 dL_law_138 dL_law_139 dL_law_140 dL_law_141 ?_
  refine ls_ld X hS 2 (by omega) (by decide) dL_law_142 dL_law_143 dL_law_144 dL_law_145 dL_law_146 ?_
  refine ls_ld X hS 3 (by omega) (by decide) dL_law_147 dL_law_148 dL_law_149 dL_law_150 dL_law_151 ?_
  refine ls_ld X hS 4 (by omega) (by decide) dL_law_152 dL_law_153 dL_law_154 dL_law_155 dL_law_156 ?_
  refine lcV (As := [.int (xs (i + 1)), .int (xs (i + 2)), .int (xs (i + 3)), .int (xs (i + 4))]) (rest := []) (ci := 4) ⟨hx, hb, hml, hown, hts⟩ (kX4_person l D cI cZ (a 0) (a 1) (a 2) (a 3) (a 4) (a 5) (a 6) (a 7) (a 8) (a 9) (a 10) (a 11) (a 12) (a 13) np nh nn nb ne td P G N B E (xs (i + 1)) (xs (i + 2)) (xs (i + 3)) (xs (i + 4)) hnp hnh hnn hnb hne hw ho) (cwV 4 hts gL_law_X4_person rfl rfl rfl (by decide +kernel) ⟨Nat.le_of_ble_eq_true rfl, Nat.le_of_ble_eq_true rfl⟩) hK hP hM hD hap hS rfl rfl rfl rfl rfl hl.1 rfl (Nat.le_of_ble_eq_true rfl) ⟨Nat.le_of_ble_eq_true rfl, Nat.le_of_ble_eq_true rfl⟩ dL_law_157 (fun H locs hP hM hD hS => ?_)
  refine lv_aload_n hx hb dL_law_160 rfl (lv_at hl 2 rfl) ?_
  refine ls_ld X hS 1 (by omega) (by decide) dL_law_161 dL_law_162 dL_law_163 dL_law_164 dL_law_165 ?_
  refine ls_ld X hS 2 (by omega) (by decide) dL_law_166 dL_law_167 dL_law_168 dL_law_169 dL_law_170 ?_
  refine ls_ld X hS 3 (by omega) (by decide) dL_law_171 dL_law_172 dL_law_173 dL_law_174 dL_law_175 ?_
  refine ls_ld X hS 4 (by omega) (by decide) dL_law_176 dL_law_177 dL_law_178 dL_law_179 dL_law_180 ?_
  refine lcV (As := [.int (xs (i + 1)), .int (xs (i + 2)), .int (xs (i + 3)), .int (xs (i + 4))]) (rest := [.int _]) (ci := 5) ⟨hx, hb, hml, hown, hts⟩ (kX5_person l D cI cZ (k 0) (k 1) (k 2) (k 3) (k 4) (k 5) (k 6) (k 7) (k 8) (k 9) (k 10) (k 11) (k 12) (k 13) (k 14) (k 15) (k 16) (k 17) (k 18) (k 19) (k 20) np nh nn nb ne td P G N B E mc (xs (i + 1)) (xs (i + 2)) (xs (i + 3)) (xs (i + 4)) hnp hs0) (cwV 4 hts gL_law_X5_person rfl rfl rfl (by decide +kernel) ⟨Nat.le_of_ble_eq_true rfl, Nat.le_of_ble_eq_true rfl⟩) hK hM hP hE (fun q h1 h2 => hap q h2 h1) hS rfl rfl rfl rfl rfl hl.1 rfl (Nat.le_of_ble_eq_true rfl) ⟨Nat.le_of_ble_eq_true rfl, Nat.le_of_ble_eq_true rfl⟩ dL_law_181 (fun H locs hM hP hE hS => ?_)
  refine lv_icmp_eq (tgt := 972) hx hb dL_law_184 (by decide) (fun _ => ?_) (fun q => absurd rfl q)
  exact kk _ _ _ _ _ _ _ _ _ _ _ _ _ _ ⟨Iv.person hv (xs (i + 1)) (xs (i + 2)) (xs (i + 3)) (xs (i + 4)), hP, hM, hD, hE, hS⟩
set_option maxHeartbeats 4000000 in
set_option maxRecDepth 100000 in
theorem law_c1 {p : Program} {l : Launch} {e : Env} {s : State} {m : MethodId} {below : List Frame} {meth : Method} {c : Code} {H : Heap} {locs : List Loc} {Q : State → Prop} {b L i : Nat} {xs : Nat → Int32} {D : va_G} {cI cZ : ClassId} {a k : Nat → Nat} {ls : Array Slot} {np nh nn nb ne : Nat} {td : Int32} {P G N B E : Nat → Nat → Int32} {mc : Nat → Int32} (X : LX p s m meth c b L xs D cI cZ a k ls i) (Y : LY s D cI cZ a k H locs np nh nn nb ne td P G N B E mc) (kk : LK p l e s m below meth c Q b D cI cZ a k ls) : W p l e room_1 s m #[Value.ref b] below meth c H locs 40 9000 Q (F0 m 189 ls []) := by
  obtain ⟨⟨hx, hb, hml, hown, hts, hX, hbl, hK, hL, hap, hr, hlocks⟩, hl, hi⟩ := id X
  obtain ⟨hv, hP, hM, hD, hE, hS⟩ := id Y
  obtain ⟨⟨hnp, hnh, hnn, hnb, hne⟩, ⟨hw, hs, hs0⟩, ⟨hg, hl0⟩, ⟨ho, hN0, hN1, hmc, hon⟩, htd⟩ := id hv
  refine lv_aload_n hx hb dL_law_189 rfl (lv_at hl 1 rfl) ?_
  refine ls_ld X hS 1 (by omega) (by decide) dL_law_190 dL_law_191 dL_law_192 dL_law_193 dL_law_194 ?_
  refine ls_ld X hS 2 (by omega) (by decide) dL_law_195 dL_law_196 dL_law_197 dL_law_198 dL_law_199 ?_
  refine ls_ld X hS 3 (by omega) (by decide) dL_law_200 dL_law_201 dL_law_202 dL_law_203 dL_law_204 ?_
  refine lcV (As := [.int (xs (i + 1)), .int (xs (i + 2)), .int (xs (i + 3))]) (rest := []) (ci := 4) ⟨hx, hb, hml, hown, hts⟩ (kX4_mark l D cI cZ (a 0) (a 1) (a 2) (a 3) (a 4) (a 5) (a 6) (a 7) (a 8) (a 9) (a 10) (a 11) (a 12) (a 13) np nh nn nb ne td P G N B E (xs (i + 1)) (xs (i + 2)) (xs (i + 3)) hnp hnh hnn hnb hne hw ho) (cwV 3 hts gL_law_X4_mark rfl rfl rfl (by decide +kernel) ⟨Nat.le_of_ble_eq_true rfl, Nat.le_of_ble_eq_true rfl⟩) hK hP hM hD hap hS rfl rfl rfl rfl rfl hl.1 rfl (Nat.le_of_ble_eq_true rfl) ⟨Nat.le_of_ble_eq_true rfl, Nat.le_of_ble_eq_true rfl⟩ dL_law_205 (fun H locs hP hM hD hS => ?_)
  refine lv_aload_n hx hb dL_law_208 rfl (lv_at hl 2 rfl) ?_
  refine ls_ld X hS 1 (by omega) (by decide) dL_law_209 dL_law_210 dL_law_211 dL_law_212 dL_law_213 ?_
  refine ls_ld X hS 2 (by omega) (by decide) dL_law_214 dL_law_215 dL_law_216 dL_law_217 dL_law_218 ?_
  refine ls_ld X hS 3 (by omega) (by decide) dL_law_219 dL_law_220 dL_law_221 dL_law_222 dL_law_223 ?_
  refine lcV (As := [.int (xs (i + 1)), .int (xs (i + 2)), .int (xs (i + 3))]) (rest := [.int _]) (ci := 5) ⟨hx, hb, hml, hown, hts⟩ (kX5_mark l D cI cZ (k 0) (k 1) (k 2) (k 3) (k 4) (k 5) (k 6) (k 7) (k 8) (k 9) (k 10) (k 11) (k 12) (k 13) (k 14) (k 15) (k 16) (k 17) (k 18) (k 19) (k 20) np nh nn nb ne td P G N B E mc (xs (i + 1)) (xs (i + 2)) (xs (i + 3)) hnp) (cwV 3 hts gL_law_X5_mark rfl rfl rfl (by decide +kernel) ⟨Nat.le_of_ble_eq_true rfl, Nat.le_of_ble_eq_true rfl⟩) hK hM hP hE (fun q h1 h2 => hap q h2 h1) hS rfl rfl rfl rfl rfl hl.1 rfl (Nat.le_of_ble_eq_true rfl) ⟨Nat.le_of_ble_eq_true rfl, Nat.le_of_ble_eq_true rfl⟩ dL_law_224 (fun H locs hM hP hE hS => ?_)
  refine lv_icmp_eq (tgt := 972) hx hb dL_law_227 (by decide) (fun _ => ?_) (fun q => absurd rfl q)
  exact kk _ _ _ _ _ _ _ _ _ _ _ _ _ _ ⟨Iv.mark hv (xs (i + 1)) (xs (i + 2)) (xs (i + 3)), hP, hM, hD, hE, hS⟩
set_option maxHeartbeats 4000000 in
set_option maxRecDepth 100000 in
theorem law_c2 {p : Program} {l : Launch} {e : Env} {s : State} {m : MethodId} {below : List Frame} {meth : Method} {c : Code} {H : Heap} {locs : List Loc} {Q : State → Prop} {b L i : Nat} {xs : Nat → Int32} {D : va_G} {cI cZ : ClassId} {a k : Nat → Nat} {ls : Array Slot} {np nh nn nb ne : Nat} {td : Int32} {P G N B E : Nat → Nat → Int32} {mc : Nat → Int32} (X : LX p s m meth c b L xs D cI cZ a k ls i) (Y : LY s D cI cZ a k H locs np nh nn nb ne td P G N B E mc) (kk : LK p l e s m below meth c Q b D cI cZ a k ls) : W p l e room_1 s m #[Value.ref b] below meth c H locs 40 9000 Q (F0 m 232 ls []) := by
  obtain ⟨⟨hx, hb, hml, hown, hts, hX, hbl, hK, hL, hap, hr, hlocks⟩, hl, hi⟩ := id X
  obtain ⟨hv, hP, hM, hD, hE, hS⟩ := id Y
  obtain ⟨⟨hnp, hnh, hnn, hnb, hne⟩, ⟨hw, hs, hs0⟩, ⟨hg, hl0⟩, ⟨ho, hN0, hN1, hmc, hon⟩, htd⟩ := id hv
  refine lv_aload_n hx hb dL_law_232 rfl (lv_at hl 1 rfl) ?_
  refine ls_ld X hS 1 (by omega) (by decide) dL_law_233 dL_law_234 dL_law_235 dL_law_236 dL_law_237 ?_
  refine ls_ld X hS 2 (by omega) (by decide) dL_law_238 dL_law_239 dL_law_240 dL_law_241 dL_law_242 ?_
  refine ls_ld X hS 3 (by omega) (by decide) dL_law_243 dL_law_244 dL_law_245 dL_law_246 dL_law_247 ?_
  refine ls_ld X hS 4 (by omega) (by decide) dL_law_248 dL_law_249 dL_law_250 dL_law_251 dL_law_252 ?_
  refine ls_ld X hS 5 (by omega) (by decide) dL_law_253 dL_law_254 dL_law_255 dL_law_256 dL_law_257 ?_
  refine lcV (As := [.int (xs (i + 1)), .int (xs (i + 2)), .int (xs (i + 3)), .int (xs (i + 4)), .int (xs (i + 5))]) (rest := []) (ci := 4) ⟨hx, hb, hml, hown, hts⟩ (kX4_house l D cI cZ (a 0) (a 1) (a 2) (a 3) (a 4) (a 5) (a 6) (a 7) (a 8) (a 9) (a 10) (a 11) (a 12) (a 13) np nh nn nb ne td P G N B E (xs (i + 1)) (xs (i + 2)) (xs (i + 3)) (xs (i + 4)) (xs (i + 5)) hnp hnh hnn hnb hne hw ho) (cwV 5 hts gL_law_X4_house rfl rfl rfl (by decide +kernel) ⟨Nat.le_of_ble_eq_true rfl, Nat.le_of_ble_eq_true rfl⟩) hK hP hM hD hap hS rfl rfl rfl rfl rfl hl.1 rfl (Nat.le_of_ble_eq_true rfl) ⟨Nat.le_of_ble_eq_true rfl, Nat.le_of_ble_eq_true rfl⟩ dL_law_258 (fun H locs hP hM hD hS => ?_)
  refine lv_aload_n hx hb dL_law_261 rfl (lv_at hl 2 rfl) ?_
  refine ls_ld X hS 1 (by omega) (by decide) dL_law_262 dL_law_263 dL_law_264 dL_law_265 dL_law_266 ?_
  refine ls_ld X hS 2 (by omega) (by decide) dL_law_267 dL_law_268 dL_law_269 dL_law_270 dL_law_271 ?_
  refine ls_ld X hS 3 (by omega) (by decide) dL_law_272 dL_law_273 dL_law_274 dL_law_275 dL_law_276 ?_
  refine ls_ld X hS 4 (by omega) (by decide) dL_law_277 dL_law_278 dL_law_279 dL_law_280 dL_law_281 ?_
  refine ls_ld X hS 5 (by omega) (by decide) dL_law_282 dL_law_283 dL_law_284 dL_law_285 dL_law_286 ?_
  refine lcV (As := [.int (xs (i + 1)), .int (xs (i + 2)), .int (xs (i + 3)), .int (xs (i + 4)), .int (xs (i + 5))]) (rest := [.int _]) (ci := 5) ⟨hx, hb, hml, hown, hts⟩ (kX5_house l D cI cZ (k 0) (k 1) (k 2) (k 3) (k 4) (k 5) (k 6) (k 7) (k 8) (k 9) (k 10) (k 11) (k 12) (k 13) (k 14) (k 15) (k 16) (k 17) (k 18) (k 19) (k 20) np nh nn nb ne td P G N B E mc (xs (i + 1)) (xs (i + 2)) (xs (i + 3)) (xs (i + 4)) (xs (i + 5)) hnh hl0) (cwV 5 hts gL_law_X5_house rfl rfl rfl (by decide +kernel) ⟨Nat.le_of_ble_eq_true rfl, Nat.le_of_ble_eq_true rfl⟩) hK hM hP hE (fun q h1 h2 => hap q h2 h1) hS rfl rfl rfl rfl rfl hl.1 rfl (Nat.le_of_ble_eq_true rfl) ⟨Nat.le_of_ble_eq_true rfl, Nat.le_of_ble_eq_true rfl⟩ dL_law_287 (fun H locs hM hP hE hS => ?_)
  refine lv_icmp_eq (tgt := 972) hx hb dL_law_290 (by decide) (fun _ => ?_) (fun q => absurd rfl q)
  exact kk _ _ _ _ _ _ _ _ _ _ _ _ _ _ ⟨Iv.house hv (xs (i + 1)) (xs (i + 2)) (xs (i + 3)) (xs (i + 4)) (xs (i + 5)), hP, hM, hD, hE, hS⟩
set_option maxHeartbeats 4000000 in
set_option maxRecDepth 100000 in
theorem law_c3 {p : Program} {l : Launch} {e : Env} {s : State} {m : MethodId} {below : List Frame} {meth : Method} {c : Code} {H : Heap} {locs : List Loc} {Q : State → Prop} {b L i : Nat} {xs : Nat → Int32} {D : va_G} {cI cZ : ClassId} {a k : Nat → Nat} {ls : Array Slot} {np nh nn nb ne : Nat} {td : Int32} {P G N B E : Nat → Nat → Int32} {mc : Nat → Int32} (X : LX p s m meth c b L xs D cI cZ a k ls i) (Y : LY s D cI cZ a k H locs np nh nn nb ne td P G N B E mc) (kk : LK p l e s m below meth c Q b D cI cZ a k ls) : W p l e room_1 s m #[Value.ref b] below meth c H locs 40 9000 Q (F0 m 295 ls []) := by
  obtain ⟨⟨hx, hb, hml, hown, hts, hX, hbl, hK, hL, hap, hr, hlocks⟩, hl, hi⟩ := id X
  obtain ⟨hv, hP, hM, hD, hE, hS⟩ := id Y
  obtain ⟨⟨hnp, hnh, hnn, hnb, hne⟩, ⟨hw, hs, hs0⟩, ⟨hg, hl0⟩, ⟨ho, hN0, hN1, hmc, hon⟩, htd⟩ := id hv
  refine lv_aload_n hx hb dL_law_295 rfl (lv_at hl 1 rfl) ?_
  refine ls_ld X hS 1 (by omega) (by decide) dL_law_296 dL_law_297 dL_law_298 dL_law_299 dL_law_300 ?_
  refine lcV (As := [.int (xs (i + 1))]) (rest := []) (ci := 4) ⟨hx, hb, hml, hown, hts⟩ (kX4_day l D cI cZ (a 0) (a 1) (a 2) (a 3) (a 4) (a 5) (a 6) (a 7) (a 8) (a 9) (a 10) (a 11) (a 12) (a 13) np nh nn nb ne td P G N B E (xs (i + 1)) hnp hnh hnn hnb hne hw ho) (cwV 1 hts gL_law_X4_day rfl rfl rfl (by decide +kernel) ⟨Nat.le_of_ble_eq_true rfl, Nat.le_of_ble_eq_true rfl⟩) hK hP hM hD hap hS rfl rfl rfl rfl rfl hl.1 rfl (Nat.le_of_ble_eq_true rfl) ⟨Nat.le_of_ble_eq_true rfl, Nat.le_of_ble_eq_true rfl⟩ dL_law_301 (fun H locs hP hM hD hS => ?_)
  refine lv_aload_n hx hb dL_law_304 rfl (lv_at hl 2 rfl) ?_
  refine ls_ld X hS 1 (by omega) (by decide) dL_law_305 dL_law_306 dL_law_307 dL_law_308 dL_law_309 ?_
  refine lcV (As := [.int (xs (i + 1))]) (rest := [.int _]) (ci := 5) ⟨hx, hb, hml, hown, hts⟩ (kX5_day l D cI cZ (k 0) (k 1) (k 2) (k 3) (k 4) (k 5) (k 6) (k 7) (k 8) (k 9) (k 10) (k 11) (k 12) (k 13) (k 14) (k 15) (k 16) (k 17) (k 18) (k 19) (k 20) np nh nn nb ne td P G N B E mc (xs (i + 1)) htd) (cwV 1 hts gL_law_X5_day rfl rfl rfl (by decide +kernel) ⟨Nat.le_of_ble_eq_true rfl, Nat.le_of_ble_eq_true rfl⟩) hK hM hP hE (fun q h1 h2 => hap q h2 h1) hS rfl rfl rfl rfl rfl hl.1 rfl (Nat.le_of_ble_eq_true rfl) ⟨Nat.le_of_ble_eq_true rfl, Nat.le_of_ble_eq_true rfl⟩ dL_law_310 (fun H locs hM hP hE hS => ?_)
  refine lv_icmp_eq (tgt := 972) hx hb dL_law_313 (by decide) (fun _ => ?_) (fun q => absurd rfl q)
  exact kk _ _ _ _ _ _ _ _ _ _ _ _ _ _ ⟨Iv.day hv (xs (i + 1)), hP, hM, hD, hE, hS⟩
set_option maxHeartbeats 4000000 in
set_option maxRecDepth 100000 in
theorem law_c4 {p : Program} {l : Launch} {e : Env} {s : State} {m : MethodId} {below : List Frame} {meth : Method} {c : Code} {H : Heap} {locs : List Loc} {Q : State → Prop} {b L i : Nat} {xs : Nat → Int32} {D : va_G} {cI cZ : ClassId} {a k : Nat → Nat} {ls : Array Slot} {np nh nn nb ne : Nat} {td : Int32} {P G N B E : Nat → Nat → Int32} {mc : Nat → Int32} (X : LX p s m meth c b L xs D cI cZ a k ls i) (Y : LY s D cI cZ a k H locs np nh nn nb ne td P G N B E mc) (kk : LK p l e s m below meth c Q b D cI cZ a k ls) : W p l e room_1 s m #[Value.ref b] below meth c H locs 40 9000 Q (F0 m 318 ls []) := by
  obtain ⟨⟨hx, hb, hml, hown, hts, hX, hbl, hK, hL, hap, hr, hlocks⟩, hl, hi⟩ := id X
  obtain ⟨hv, hP, hM, hD, hE, hS⟩ := id Y
  obtain ⟨⟨hnp, hnh, hnn, hnb, hne⟩, ⟨hw, hs, hs0⟩, ⟨hg, hl0⟩, ⟨ho, hN0, hN1, hmc, hon⟩, htd⟩ := id hv
  refine lv_aload_n hx hb dL_law_318 rfl (lv_at hl 1 rfl) ?_
  refine ls_ld X hS 1 (by omega) (by decide) dL_law_319 dL_law_320 dL_law_321 dL_law_322 dL_law_323 ?_
  refine ls_ld X hS 2 (by omega) (by decide) dL_law_324 dL_law_325 dL_law_326 dL_law_327 dL_law_328 ?_
  refine lcV (As := [.int (xs (i + 1)), .int (xs (i + 2))]) (rest := []) (ci := 4) ⟨hx, hb, hml, hown, hts⟩ (kX4_one l D cI cZ (a 0) (a 1) (a 2) (a 3) (a 4) (a 5) (a 6) (a 7) (a 8) (a 9) (a 10) (a 11) (a 12) (a 13) np nh nn nb ne td P G N B E (xs (i + 1)) (xs (i + 2)) hnp hnh hnn hnb hne hw ho) (cwV 2 hts gL_law_X4_one rfl rfl rfl (by decide +kernel) ⟨Nat.le_of_ble_eq_true rfl, Nat.le_of_ble_eq_true rfl⟩) hK hP hM hD hap hS rfl rfl rfl rfl rfl hl.1 rfl (Nat.le_of_ble_eq_true rfl) ⟨Nat.le_of_ble_eq_true rfl, Nat.le_of_ble_eq_true rfl⟩ dL_law_329 (fun H locs hP hM hD hS => ?_)
  refine lv_aload_n hx hb dL_law_332 rfl (lv_at hl 2 rfl) ?_
  refine ls_ld X hS 1 (by omega) (by decide) dL_law_333 dL_law_334 dL_law_335 dL_law_336 dL_law_337 ?_
  refine ls_ld X hS 2 (by omega) (by decide) dL_law_338 dL_law_339 dL_law_340 dL_law_341 dL_law_342 ?_
  refine lcV (As := [.int (xs (i + 1)), .int (xs (i + 2))]) (rest := [.int _]) (ci := 5) ⟨hx, hb, hml, hown, hts⟩ (kX5_one l D cI cZ (k 0) (k 1) (k 2) (k 3) (k 4) (k 5) (k 6) (k 7) (k 8) (k 9) (k 10) (k 11) (k 12) (k 13) (k 14) (k 15) (k 16) (k 17) (k 18) (k 19) (k 20) np nh nn nb ne td P G N B E mc (xs (i + 1)) (xs (i + 2)) hnp hw hs) (cwV 2 hts gL_law_X5_one rfl rfl rfl (by decide +kernel) ⟨Nat.le_of_ble_eq_true rfl, Nat.le_of_ble_eq_true rfl⟩) hK hM hP hE (fun q h1 h2 => hap q h2 h1) hS rfl rfl rfl rfl rfl hl.1 rfl (Nat.le_of_ble_eq_true rfl) ⟨Nat.le_of_ble_eq_true rfl, Nat.le_of_ble_eq_true rfl⟩ dL_law_343 (fun H locs hM hP hE hS => ?_)
  refine lv_icmp_eq (tgt := 972) hx hb dL_law_346 (by decide) (fun _ => ?_) (fun q => absurd rfl q)
  exact kk _ _ _ _ _ _ _ _ _ _ _ _ _ _ ⟨Iv.one hv (xs (i + 1)) (xs (i + 2)), hP, hM, hD, hE, hS⟩
set_option maxHeartbeats 4000000 in
set_option maxRecDepth 100000 in
theorem law_c5 {p : Program} {l : Launch} {e : Env} {s : State} {m : MethodId} {below : List Frame} {meth : Method} {c : Code} {H : Heap} {locs : List Loc} {Q : State → Prop} {b L i : Nat} {xs : Nat → Int32} {D : va_G} {cI cZ : ClassId} {a k : Nat → Nat} {ls : Array Slot} {np nh nn nb ne : Nat} {td : Int32} {P G N B E : Nat → Nat → Int32} {mc : Nat → Int32} (X : LX p s m meth c b L xs D cI cZ a k ls i) (Y : LY s D cI cZ a k H locs np nh nn nb ne td P G N B E mc) (kk : LK p l e s m below meth c Q b D cI cZ a k ls) : W p l e room_1 s m #[Value.ref b] below meth c H locs 40 9000 Q (F0 m 351 ls []) := by
  obtain ⟨⟨hx, hb, hml, hown, hts, hX, hbl, hK, hL, hap, hr, hlocks⟩, hl, hi⟩ := id X
  obtain ⟨hv, hP, hM, hD, hE, hS⟩ := id Y
  obtain ⟨⟨hnp, hnh, hnn, hnb, hne⟩, ⟨hw, hs, hs0⟩, ⟨hg, hl0⟩, ⟨ho, hN0, hN1, hmc, hon⟩, htd⟩ := id hv
  refine lv_aload_n hx hb dL_law_351 rfl (lv_at hl 1 rfl) ?_
  refine ls_ld X hS 1 (by omega) (by decide) dL_law_352 dL_law_353 dL_law_354 dL_law_355 dL_law_356 ?_
  refine lcV (As := [.int (xs (i + 1))]) (rest := []) (ci := 4) ⟨hx, hb, hml, hown, hts⟩ (kX4_part l D cI cZ (a 0) (a 1) (a 2) (a 3) (a 4) (a 5) (a 6) (a 7) (a 8) (a 9) (a 10) (a 11) (a 12) (a 13) np nh nn nb ne td P G N B E (xs (i + 1)) hnp hnh hnn hnb hne hw ho) (cwV 1 hts gL_law_X4_part rfl rfl rfl (by decide +kernel) ⟨Nat.le_of_ble_eq_true rfl, Nat.le_of_ble_eq_true rfl⟩) hK hP hM hD hap hS rfl rfl rfl rfl rfl hl.1 rfl (Nat.le_of_ble_eq_true rfl) ⟨Nat.le_of_ble_eq_true rfl, Nat.le_of_ble_eq_true rfl⟩ dL_law_357 (fun H locs hP hM hD hS => ?_)
  refine lv_aload_n hx hb dL_law_360 rfl (lv_at hl 2 rfl) ?_
  refine ls_ld X hS 1 (by omega) (by decide) dL_law_361 dL_law_362 dL_law_363 dL_law_364 dL_law_365 ?_
  refine lcV (As := [.int (xs (i + 1))]) (rest := [.int _]) (ci := 5) ⟨hx, hb, hml, hown, hts⟩ (kX5_part l D cI cZ (k 0) (k 1) (k 2) (k 3) (k 4) (k 5) (k 6) (k 7) (k 8) (k 9) (k 10) (k 11) (k 12) (k 13) (k 14) (k 15) (k 16) (k 17) (k 18) (k 19) (k 20) np nh nn nb ne td P G N B E mc (xs (i + 1)) hnp) (cwV 1 hts gL_law_X5_part rfl rfl rfl (by decide +kernel) ⟨Nat.le_of_ble_eq_true rfl, Nat.le_of_ble_eq_true rfl⟩) hK hM hP hE (fun q h1 h2 => hap q h2 h1) hS rfl rfl rfl rfl rfl hl.1 rfl (Nat.le_of_ble_eq_true rfl) ⟨Nat.le_of_ble_eq_true rfl, Nat.le_of_ble_eq_true rfl⟩ dL_law_366 (fun H locs hM hP hE hS => ?_)
  refine lv_icmp_eq (tgt := 972) hx hb dL_law_369 (by decide) (fun _ => ?_) (fun q => absurd rfl q)
  exact kk _ _ _ _ _ _ _ _ _ _ _ _ _ _ ⟨Iv.part hv (xs (i + 1)), hP, hM, hD, hE, hS⟩
