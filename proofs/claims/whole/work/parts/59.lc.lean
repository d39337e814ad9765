theorem sw_0_21 (x : Int32) : x = 0 ∨ x = 1 ∨ x = 2 ∨ x = 3 ∨ x = 4 ∨ x = 5 ∨ x = 6 ∨ x = 7 ∨ x = 8 ∨ x = 9 ∨ x = 10 ∨ x = 11 ∨ x = 12 ∨ x = 13 ∨ x = 14 ∨ x = 15 ∨ x = 16 ∨ x = 17 ∨ x = 18 ∨ x = 19 ∨ x = 20 ∨ x = 21 ∨ (x.toInt < 0 ∨ 21 < x.toInt) := by
  by_cases h : x.toInt < 0 ∨ ((21 : Nat) : Int) < x.toInt
  · rcases h with h | h <;> (right; right; right; right; right; right; right; right; right; right; right; right; right; right; right; right; right; right; right; right; right; right <;> omega)
  · obtain ⟨j, hj, rfl⟩ := sw_aux h (by decide)
    match j, hj with
    | 0, _ => exact Or.inl rfl
    | 1, _ => exact Or.inr (Or.inl rfl)
    | 2, _ => exact Or.inr (Or.inr (Or.inl rfl))
    | 3, _ => exact Or.inr (Or.inr (Or.inr (Or.inl rfl)))
    | 4, _ => exact Or.inr (Or.inr (Or.inr (Or.inr (Or.inl rfl))))
    | 5, _ => exact Or.inr (Or.inr (Or.inr (Or.inr (Or.inr (Or.inl rfl)))))
    | 6, _ => exact Or.inr (Or.inr (Or.inr (Or.inr (Or.inr (Or.inr (Or.inl rfl))))))
    | 7, _ => exact Or.inr (Or.inr (Or.inr (Or.inr (Or.inr (Or.inr (Or.inr (Or.inl rfl)))))))
    | 8, _ => exact Or.inr (Or.inr (Or.inr (Or.inr (Or.inr (Or.inr (Or.inr (Or.inr (Or.inl rfl))))))))
    | 9, _ => exact Or.inr (Or.inr (Or.inr (Or.inr (Or.inr (Or.inr (Or.inr (Or.inr (Or.inr (Or.inl rfl)))))))))
    | 10, _ => exact Or.inr (Or.inr (Or.inr (Or.inr (Or.inr (Or.inr (Or.inr (Or.inr (Or.inr (Or.inr (Or.inl rfl))))))))))
    | 11, _ => exact Or.inr (Or.inr (Or.inr (Or.inr (Or.inr (Or.inr (Or.inr (Or.inr (Or.inr (Or.inr (Or.inr (Or.inl rfl)))))))))))
    | 12, _ => exact Or.inr (Or.inr (Or.inr (Or.inr (Or.inr (Or.inr (Or.inr (Or.inr (Or.inr (Or.inr (Or.inr (Or.inr (Or.inl rfl))))))))))))
    | 13, _ => exact Or.inr (Or.inr (Or.inr (Or.inr (Or.inr (Or.inr (Or.inr (Or.inr (Or.inr (Or.inr (Or.inr (Or.inr (Or.inr (Or.inl rfl)))))))))))))
    | 14, _ => exact Or.inr (Or.inr (Or.inr (Or.inr (Or.inr (Or.inr (Or.inr (Or.inr (Or.inr (Or.inr (Or.inr (Or.inr (Or.inr (Or.inr (Or.inl rfl))))))))))))))
    | 15, _ => exact Or.inr (Or.inr (Or.inr (Or.inr (Or.inr (Or.inr (Or.inr (Or.inr (Or.inr (Or.inr (Or.inr (Or.inr (Or.inr (Or.inr (Or.inr (Or.inl rfl)))))))))))))))
    | 16, _ => exact Or.inr (Or.inr (Or.inr (Or.inr (Or.inr (Or.inr (Or.inr (Or.inr (Or.inr (Or.inr (Or.inr (Or.inr (Or.inr (Or.inr (Or.inr (Or.inr (Or.inl rfl))))))))))))))))
    | 17, _ => exact Or.inr (Or.inr (Or.inr (Or.inr (Or.inr (Or.inr (Or.inr (Or.inr (Or.inr (Or.inr (Or.inr (Or.inr (Or.inr (Or.inr (Or.inr (Or.inr (Or.inr (Or.inl rfl)))))))))))))))))
    | 18, _ => exact Or.inr (Or.inr (Or.inr (Or.inr (Or.inr (Or.inr (Or.inr (Or.inr (Or.inr (Or.inr (Or.inr (Or.inr (Or.inr (Or.inr (Or.inr (Or.inr (Or.inr (Or.inr (Or.inl rfl))))))))))))))))))
    | 19, _ => exact Or.inr (Or.inr (Or.inr (Or.inr (Or.inr (Or.inr (Or.inr (Or.inr (Or.inr (Or.inr (Or.inr (Or.inr (Or.inr (Or.inr (Or.inr (Or.inr (Or.inr (Or.inr (Or.inr (Or.inl rfl)))))))))))))))))))
    | 20, _ => exact Or.inr (Or.inr (Or.inr (Or.inr (Or.inr (Or.inr (Or.inr (Or.inr (Or.inr (Or.inr (Or.inr (Or.inr (Or.inr (Or.inr (Or.inr (Or.inr (Or.inr (Or.inr (Or.inr (Or.inr (Or.inl rfl))))))))))))))))))))
    | 21, _ => exact Or.inr (Or.inr (Or.inr (Or.inr (Or.inr (Or.inr (Or.inr (Or.inr (Or.inr (Or.inr (Or.inr (Or.inr (Or.inr (Or.inr (Or.inr (Or.inr (Or.inr (Or.inr (Or.inr (Or.inr (Or.inr (Or.inl rfl)))))))))))))))))))))
    | j + 22, hj => exact absurd hj (by omega)
section LWC
variable {g : GP} {L i : Nat} {xs : Nat → Int32} {mc ms : Nat} {J : IM} {S : SH}
set_option maxHeartbeats 4000000 in
theorem lc_0 (hL3 : L ≤ 3072) (hi : i + 6 ≤ L) (hm1 : 3 ≤ mc) (hm2 : 58 ≤ ms) (hI : LQI J S) (kk : ∀ J2 S2, LQI J2 S2 → ZL g L xs (mc - 3) (ms - 58) 992 [(1, .ref 0), (2, .ref 35), (3, .int (nI i))] [] J2 S2) : ZL g L xs mc ms 136 [(1, .ref 0), (2, .ref 35), (3, .int (nI i))] [] J S := by
  obtain ⟨I0, n0, nq0, mm0, hE0, hI0⟩ := id hI
  have hF0 := hI0.1.1
  obtain ⟨r, hz⟩ := lq_row hI (xs (i + 1)) (xs (i + 2)) g
  refine ZL.aload (j := 0) (a := 0) dL_law_136 rfl ?_
  refine ZL.arg (k := 1) (i := i) (j := 2) (v := xs (i + 1)) dL_law_137 dL_law_138 dL_law_139 dL_law_140 dL_law_141 rfl (by decide) (by omega) (by omega) rfl ?_
  refine ZL.arg (k := 2) (i := i) (j := 2) (v := xs (i + 2)) dL_law_142 dL_law_143 dL_law_144 dL_law_145 dL_law_146 rfl (by decide) (by omega) (by omega) rfl ?_
  refine ZL.callV (N := mX6_row) (n := 2) (d1 := 1) (mc1 := 0) (ms1 := 0) (b0 := 0) (st := []) (As := [.int (xs (i + 1)), .int (xs (i + 2))]) dL_law_147 mlL_13 mkX6_row imX6_row seX6_row (fx0 hF0) cl6 rfl (by decide) rfl ⟨rfl, Nat.le_of_ble_eq_true rfl⟩ ⟨rfl, Nat.le_of_ble_eq_true rfl⟩ (by omega) (by omega) hz rfl (fun v J1 S1 q => ?_)
  obtain ⟨rfl, h35, hz2⟩ := q
  refine ZL.aload (j := 1) (a := 35) dL_law_150 rfl ?_
  refine ZL.arg (k := 1) (i := i) (j := 2) (v := xs (i + 1)) dL_law_151 dL_law_152 dL_law_153 dL_law_154 dL_law_155 rfl (by decide) (by omega) (by omega) rfl ?_
  refine ZL.arg (k := 2) (i := i) (j := 2) (v := xs (i + 2)) dL_law_156 dL_law_157 dL_law_158 dL_law_159 dL_law_160 rfl (by decide) (by omega) (by omega) rfl ?_
  refine ZL.callV (N := mX7_row) (n := 2) (d1 := 1) (mc1 := 0) (ms1 := 0) (b0 := 35) (st := [.int r]) (As := [.int (xs (i + 1)), .int (xs (i + 2))]) dL_law_161 mlL_17 mkX7_row imX7_row seX7_row h35 cl7 rfl (by decide) rfl ⟨rfl, Nat.le_of_ble_eq_true rfl⟩ ⟨rfl, Nat.le_of_ble_eq_true rfl⟩ (Nat.zero_le _) (Nat.zero_le _) hz2 rfl (fun v J2 S2 q => ?_)
  obtain ⟨rfl, hI2⟩ := q
  refine ZL.cmp (x := r) (tgt := 992) dL_law_164 (by decide) ?_
  exact (kk J2 S2 hI2).mono (by omega) (by omega)
set_option maxHeartbeats 4000000 in
theorem lc_1 (hL3 : L ≤ 3072) (hi : i + 6 ≤ L) (hm1 : 3 ≤ mc) (hm2 : 58 ≤ ms) (hI : LQI J S) (kk : ∀ J2 S2, LQI J2 S2 → ZL g L xs (mc - 3) (ms - 58) 992 [(1, .ref 0), (2, .ref 35), (3, .int (nI i))] [] J2 S2) : ZL g L xs mc ms 169 [(1, .ref 0), (2, .ref 35), (3, .int (nI i))] [] J S := by
  obtain ⟨I0, n0, nq0, mm0, hE0, hI0⟩ := id hI
  have hF0 := hI0.1.1
  obtain ⟨r, hz⟩ := lq_sound hI (xs (i + 1)) (xs (i + 2)) (xs (i + 3)) g
  refine ZL.aload (j := 0) (a := 0) dL_law_169 rfl ?_
  refine ZL.arg (k := 1) (i := i) (j := 2) (v := xs (i + 1)) dL_law_170 dL_law_171 dL_law_172 dL_law_173 dL_law_174 rfl (by decide) (by omega) (by omega) rfl ?_
  refine ZL.arg (k := 2) (i := i) (j := 2) (v := xs (i + 2)) dL_law_175 dL_law_176 dL_law_177 dL_law_178 dL_law_179 rfl (by decide) (by omega) (by omega) rfl ?_
  refine ZL.arg (k := 3) (i := i) (j := 2) (v := xs (i + 3)) dL_law_180 dL_law_181 dL_law_182 dL_law_183 dL_law_184 rfl (by decide) (by omega) (by omega) rfl ?_
  refine ZL.callV (N := mX6_sound) (n := 3) (d1 := 1) (mc1 := 0) (ms1 := 0) (b0 := 0) (st := []) (As := [.int (xs (i + 1)), .int (xs (i + 2)), .int (xs (i + 3))]) dL_law_185 mlL_18 mkX6_sound imX6_sound seX6_sound (fx0 hF0) cl6 rfl (by decide) rfl ⟨rfl, Nat.le_of_ble_eq_true rfl⟩ ⟨rfl, Nat.le_of_ble_eq_true rfl⟩ (by omega) (by omega) hz rfl (fun v J1 S1 q => ?_)
  obtain ⟨rfl, h35, hz2⟩ := q
  refine ZL.aload (j := 1) (a := 35) dL_law_188 rfl ?_
  refine ZL.arg (k := 1) (i := i) (j := 2) (v := xs (i + 1)) dL_law_189 dL_law_190 dL_law_191 dL_law_192 dL_law_193 rfl (by decide) (by omega) (by omega) rfl ?_
  refine ZL.arg (k := 2) (i := i) (j := 2) (v := xs (i + 2)) dL_law_194 dL_law_195 dL_law_196 dL_law_197 dL_law_198 rfl (by decide) (by omega) (by omega) rfl ?_
  refine ZL.arg (k := 3) (i := i) (j := 2) (v := xs (i + 3)) dL_law_199 dL_law_200 dL_law_201 dL_law_202 dL_law_203 rfl (by decide) (by omega) (by omega) rfl ?_
  refine ZL.callV (N := mX7_sound) (n := 3) (d1 := 1) (mc1 := 0) (ms1 := 0) (b0 := 35) (st := [.int r]) (As := [.int (xs (i + 1)), .int (xs (i + 2)), .int (xs (i + 3))]) dL_law_204 mlL_22 mkX7_sound imX7_sound seX7_sound h35 cl7 rfl (by decide) rfl ⟨rfl, Nat.le_of_ble_eq_true rfl⟩ ⟨rfl, Nat.le_of_ble_eq_true rfl⟩ (Nat.zero_le _) (Nat.zero_le _) hz2 rfl (fun v J2 S2 q => ?_)
  obtain ⟨rfl, hI2⟩ := q
  refine ZL.cmp (x := r) (tgt := 992) dL_law_207 (by decide) ?_
  exact (kk J2 S2 hI2).mono (by omega) (by omega)
set_option maxHeartbeats 4000000 in
theorem lc_2 (hL3 : L ≤ 3072) (hi : i + 6 ≤ L) (hm1 : 3 ≤ mc) (hm2 : 58 ≤ ms) (hI : LQI J S) (kk : ∀ J2 S2, LQI J2 S2 → ZL g L xs (mc - 3) (ms - 58) 992 [(1, .ref 0), (2, .ref 35), (3, .int (nI i))] [] J2 S2) : ZL g L xs mc ms 212 [(1, .ref 0), (2, .ref 35), (3, .int (nI i))] [] J S := by
  obtain ⟨I0, n0, nq0, mm0, hE0, hI0⟩ := id hI
  have hF0 := hI0.1.1
  obtain ⟨r, hz⟩ := lq_cost hI (xs (i + 1)) (xs (i + 2)) (xs (i + 3)) g
  refine ZL.aload (j := 0) (a := 0) dL_law_212 rfl ?_
  refine ZL.arg (k := 1) (i := i) (j := 2) (v := xs (i + 1)) dL_law_213 dL_law_214 dL_law_215 dL_law_216 dL_law_217 rfl (by decide) (by omega) (by omega) rfl ?_
  refine ZL.arg (k := 2) (i := i) (j := 2) (v := xs (i + 2)) dL_law_218 dL_law_219 dL_law_220 dL_law_221 dL_law_222 rfl (by decide) (by omega) (by omega) rfl ?_
  refine ZL.arg (k := 3) (i := i) (j := 2) (v := xs (i + 3)) dL_law_223 dL_law_224 dL_law_225 dL_law_226 dL_law_227 rfl (by decide) (by omega) (by omega) rfl ?_
  refine ZL.callV (N := mX6_cost) (n := 3) (d1 := 1) (mc1 := 0) (ms1 := 0) (b0 := 0) (st := []) (As := [.int (xs (i + 1)), .int (xs (i + 2)), .int (xs (i + 3))]) dL_law_228 mlL_23 mkX6_cost imX6_cost seX6_cost (fx0 hF0) cl6 rfl (by decide) rfl ⟨rfl, Nat.le_of_ble_eq_true rfl⟩ ⟨rfl, Nat.le_of_ble_eq_true rfl⟩ (by omega) (by omega) hz rfl (fun v J1 S1 q => ?_)
  obtain ⟨rfl, h35, hz2⟩ := q
  refine ZL.aload (j := 1) (a := 35) dL_law_231 rfl ?_
  refine ZL.arg (k := 1) (i := i) (j := 2) (v := xs (i + 1)) dL_law_232 dL_law_233 dL_law_234 dL_law_235 dL_law_236 rfl (by decide) (by omega) (by omega) rfl ?_
  refine ZL.arg (k := 2) (i := i) (j := 2) (v := xs (i + 2)) dL_law_237 dL_law_238 dL_law_239 dL_law_240 dL_law_241 rfl (by decide) (by omega) (by omega) rfl ?_
  refine ZL.arg (k := 3) (i := i) (j := 2) (v := xs (i + 3)) dL_law_242 dL_law_243 dL_law_244 dL_law_245 dL_law_246 rfl (by decide) (by omega) (by omega) rfl ?_
  refine ZL.callV (N := mX7_cost) (n := 3) (d1 := 1) (mc1 := 0) (ms1 := 0) (b0 := 35) (st := [.int r]) (As := [.int (xs (i + 1)), .int (xs (i + 2)), .int (xs (i + 3))]) dL_law_247 mlL_26 mkX7_cost imX7_cost seX7_cost h35 cl7 rfl (by decide) rfl ⟨rfl, Nat.le_of_ble_eq_true rfl⟩ ⟨rfl, Nat.le_of_ble_eq_true rfl⟩ (Nat.zero_le _) (Nat.zero_le _) hz2 rfl (fun v J2 S2 q => ?_)
  obtain ⟨rfl, hI2⟩ := q
  refine ZL.cmp (x := r) (tgt := 992) dL_law_250 (by decide) ?_
  exact (kk J2 S2 hI2).mono (by omega) (by omega)
set_option maxHeartbeats 4000000 in
theorem lc_3 (hL3 : L ≤ 3072) (hi : i + 6 ≤ L) (hm1 : 3 ≤ mc) (hm2 : 58 ≤ ms) (hI : LQI J S) (kk : ∀ J2 S2, LQI J2 S2 → ZL g L xs (mc - 3) (ms - 58) 992 [(1, .ref 0), (2, .ref 35), (3, .int (nI i))] [] J2 S2) : ZL g L xs mc ms 255 [(1, .ref 0), (2, .ref 35), (3, .int (nI i))] [] J S := by
  obtain ⟨I0, n0, nq0, mm0, hE0, hI0⟩ := id hI
  have hF0 := hI0.1.1
  obtain ⟨r, hz⟩ := lq_near hI (xs (i + 1)) (xs (i + 2)) (xs (i + 3)) g
  refine ZL.aload (j := 0) (a := 0) dL_law_255 rfl ?_
  refine ZL.arg (k := 1) (i := i) (j := 2) (v := xs (i + 1)) dL_law_256 dL_law_257 dL_law_258 dL_law_259 dL_law_260 rfl (by decide) (by omega) (by omega) rfl ?_
  refine ZL.arg (k := 2) (i := i) (j := 2) (v := xs (i + 2)) dL_law_261 dL_law_262 dL_law_263 dL_law_264 dL_law_265 rfl (by decide) (by omega) (by omega) rfl ?_
  refine ZL.arg (k := 3) (i := i) (j := 2) (v := xs (i + 3)) dL_law_266 dL_law_267 dL_law_268 dL_law_269 dL_law_270 rfl (by decide) (by omega) (by omega) rfl ?_
  refine ZL.callV (N := mX6_near) (n := 3) (d1 := 2) (mc1 := 0) (ms1 := 0) (b0 := 0) (st := []) (As := [.int (xs (i + 1)), .int (xs (i + 2)), .int (xs (i + 3))]) dL_law_271 mlL_27 mkX6_near imX6_near seX6_near (fx0 hF0) cl6 rfl (by decide) rfl ⟨rfl, Nat.le_of_ble_eq_true rfl⟩ ⟨rfl, Nat.le_of_ble_eq_true rfl⟩ (by omega) (by omega) hz rfl (fun v J1 S1 q => ?_)
  obtain ⟨rfl, h35, hz2⟩ := q
  refine ZL.aload (j := 1) (a := 35) dL_law_274 rfl ?_
  refine ZL.arg (k := 1) (i := i) (j := 2) (v := xs (i + 1)) dL_law_275 dL_law_276 dL_law_277 dL_law_278 dL_law_279 rfl (by decide) (by omega) (by omega) rfl ?_
  refine ZL.arg (k := 2) (i := i) (j := 2) (v := xs (i + 2)) dL_law_280 dL_law_281 dL_law_282 dL_law_283 dL_law_284 rfl (by decide) (by omega) (by omega) rfl ?_
  refine ZL.arg (k := 3) (i := i) (j := 2) (v := xs (i + 3)) dL_law_285 dL_law_286 dL_law_287 dL_law_288 dL_law_289 rfl (by decide) (by omega) (by omega) rfl ?_
  refine ZL.callV (N := mX7_near) (n := 3) (d1 := 2) (mc1 := 0) (ms1 := 0) (b0 := 35) (st := [.int r]) (As := [.int (xs (i + 1)), .int (xs (i + 2)), .int (xs (i + 3))]) dL_law_290 mlL_30 mkX7_near imX7_near seX7_near h35 cl7 rfl (by decide) rfl ⟨rfl, Nat.le_of_ble_eq_true rfl⟩ ⟨rfl, Nat.le_of_ble_eq_true rfl⟩ (Nat.zero_le _) (Nat.zero_le _) hz2 rfl (fun v J2 S2 q => ?_)
  obtain ⟨rfl, hI2⟩ := q
  refine ZL.cmp (x := r) (tgt := 992) dL_law_293 (by decide) ?_
  exact (kk J2 S2 hI2).mono (by omega) (by omega)
set_option maxHeartbeats 4000000 in
theorem lc_4 (hL3 : L ≤ 3072) (hi : i + 6 ≤ L) (hm1 : 3 ≤ mc) (hm2 : 58 ≤ ms) (hI : LQI J S) (kk : ∀ J2 S2, LQI J2 S2 → ZL g L xs (mc - 3) (ms - 58) 992 [(1, .ref 0), (2, .ref 35), (3, .int (nI i))] [] J2 S2) : ZL g L xs mc ms 298 [(1, .ref 0), (2, .ref 35), (3, .int (nI i))] [] J S := by
  obtain ⟨I0, n0, nq0, mm0, hE0, hI0⟩ := id hI
  have hF0 := hI0.1.1
  obtain ⟨r, hz⟩ := lq_levels hI (xs (i + 1)) (xs (i + 2)) g
  refine ZL.aload (j := 0) (a := 0) dL_law_298 rfl ?_
  refine ZL.arg (k := 1) (i := i) (j := 2) (v := xs (i + 1)) dL_law_299 dL_law_300 dL_law_301 dL_law_302 dL_law_303 rfl (by decide) (by omega) (by omega) rfl ?_
  refine ZL.arg (k := 2) (i := i) (j := 2) (v := xs (i + 2)) dL_law_304 dL_law_305 dL_law_306 dL_law_307 dL_law_308 rfl (by decide) (by omega) (by omega) rfl ?_
  refine ZL.callV (N := mX6_levels) (n := 2) (d1 := 0) (mc1 := 0) (ms1 := 0) (b0 := 0) (st := []) (As := [.int (xs (i + 1)), .int (xs (i + 2))]) dL_law_309 mlL_31 mkX6_levels imX6_levels seX6_levels (fx0 hF0) cl6 rfl (by decide) rfl ⟨rfl, Nat.le_of_ble_eq_true rfl⟩ ⟨rfl, Nat.le_of_ble_eq_true rfl⟩ (by omega) (by omega) hz rfl (fun v J1 S1 q => ?_)
  obtain ⟨rfl, h35, hz2⟩ := q
  refine ZL.aload (j := 1) (a := 35) dL_law_312 rfl ?_
  refine ZL.arg (k := 1) (i := i) (j := 2) (v := xs (i + 1)) dL_law_313 dL_law_314 dL_law_315 dL_law_316 dL_law_317 rfl (by decide) (by omega) (by omega) rfl ?_
  refine ZL.arg (k := 2) (i := i) (j := 2) (v := xs (i + 2)) dL_law_318 dL_law_319 dL_law_320 dL_law_321 dL_law_322 rfl (by decide) (by omega) (by omega) rfl ?_
  refine ZL.callV (N := mX7_levels) (n := 2) (d1 := 1) (mc1 := 0) (ms1 := 0) (b0 := 35) (st := [.int r]) (As := [.int (xs (i + 1)), .int (xs (i + 2))]) dL_law_323 mlL_34 mkX7_levels imX7_levels seX7_levels h35 cl7 rfl (by decide) rfl ⟨rfl, Nat.le_of_ble_eq_true rfl⟩ ⟨rfl, Nat.le_of_ble_eq_true rfl⟩ (Nat.zero_le _) (Nat.zero_le _) hz2 rfl (fun v J2 S2 q => ?_)
  obtain ⟨rfl, hI2⟩ := q
  refine ZL.cmp (x := r) (tgt := 992) dL_law_326 (by decide) ?_
  exact (kk J2 S2 hI2).mono (by omega) (by omega)
set_option maxHeartbeats 4000000 in
theorem lc_5 (hL3 : L ≤ 3072) (hi : i + 6 ≤ L) (hm1 : 3 ≤ mc) (hm2 : 58 ≤ ms) (hI : LQI J S) (kk : ∀ J2 S2, LQI J2 S2 → ZL g L xs (mc - 3) (ms - 58) 992 [(1, .ref 0), (2, .ref 35), (3, .int (nI i))] [] J2 S2) : ZL g L xs mc ms 331 [(1, .ref 0), (2, .ref 35), (3, .int (nI i))] [] J S := by
  obtain ⟨I0, n0, nq0, mm0, hE0, hI0⟩ := id hI
  have hF0 := hI0.1.1
  obtain ⟨r, hz⟩ := lq_mark hI (xs (i + 1)) (xs (i + 2)) g
  refine ZL.aload (j := 0) (a := 0) dL_law_331 rfl ?_
  refine ZL.arg (k := 1) (i := i) (j := 2) (v := xs (i + 1)) dL_law_332 dL_law_333 dL_law_334 dL_law_335 dL_law_336 rfl (by decide) (by omega) (by omega) rfl ?_
  refine ZL.arg (k := 2) (i := i) (j := 2) (v := xs (i + 2)) dL_law_337 dL_law_338 dL_law_339 dL_law_340 dL_law_341 rfl (by decide) (by omega) (by omega) rfl ?_
  refine ZL.callV (N := mX6_mark) (n := 2) (d1 := 2) (mc1 := 3) (ms1 := 58) (b0 := 0) (st := []) (As := [.int (xs (i + 1)), .int (xs (i + 2))]) dL_law_342 mlL_35 mkX6_mark imX6_mark seX6_mark (fx0 hF0) cl6 rfl (by decide) rfl ⟨rfl, Nat.le_of_ble_eq_true rfl⟩ ⟨rfl, Nat.le_of_ble_eq_true rfl⟩ (by omega) (by omega) hz rfl (fun v J1 S1 q => ?_)
  obtain ⟨rfl, h35, hz2⟩ := q
  refine ZL.aload (j := 1) (a := 35) dL_law_345 rfl ?_
  refine ZL.arg (k := 1) (i := i) (j := 2) (v := xs (i + 1)) dL_law_346 dL_law_347 dL_law_348 dL_law_349 dL_law_350 rfl (by decide) (by omega) (by omega) rfl ?_
  refine ZL.arg (k := 2) (i := i) (j := 2) (v := xs (i + 2)) dL_law_351 dL_law_352 dL_law_353 dL_law_354 dL_law_355 rfl (by decide) (by omega) (by omega) rfl ?_
  refine ZL.callV (N := mX7_mark) (n := 2) (d1 := 2) (mc1 := 0) (ms1 := 0) (b0 := 35) (st := [.int r]) (As := [.int (xs (i + 1)), .int (xs (i + 2))]) dL_law_356 mlL_39 mkX7_mark imX7_mark seX7_mark h35 cl7 rfl (by decide) rfl ⟨rfl, Nat.le_of_ble_eq_true rfl⟩ ⟨rfl, Nat.le_of_ble_eq_true rfl⟩ (Nat.zero_le _) (Nat.zero_le _) hz2 rfl (fun v J2 S2 q => ?_)
  obtain ⟨rfl, hI2⟩ := q
  refine ZL.cmp (x := r) (tgt := 992) dL_law_359 (by decide) ?_
  exact (kk J2 S2 hI2).mono (by omega) (by omega)
set_option maxHeartbeats 4000000 in
theorem lc_6 (hL3 : L ≤ 3072) (hi : i + 6 ≤ L) (hm1 : 3 ≤ mc) (hm2 : 58 ≤ ms) (hI : LQI J S) (kk : ∀ J2 S2, LQI J2 S2 → ZL g L xs (mc - 3) (ms - 58) 992 [(1, .ref 0), (2, .ref 35), (3, .int (nI i))] [] J2 S2) : ZL g L xs mc ms 364 [(1, .ref 0), (2, .ref 35), (3, .int (nI i))] [] J S := by
  obtain ⟨I0, n0, nq0, mm0, hE0, hI0⟩ := id hI
  have hF0 := hI0.1.1
  obtain ⟨r, hz⟩ := lq_letter hI (xs (i + 1)) (xs (i + 2)) g
  refine ZL.aload (j := 0) (a := 0) dL_law_364 rfl ?_
  refine ZL.arg (k := 1) (i := i) (j := 2) (v := xs (i + 1)) dL_law_365 dL_law_366 dL_law_367 dL_law_368 dL_law_369 rfl (by decide) (by omega) (by omega) rfl ?_
  refine ZL.arg (k := 2) (i := i) (j := 2) (v := xs (i + 2)) dL_law_370 dL_law_371 dL_law_372 dL_law_373 dL_law_374 rfl (by decide) (by omega) (by omega) rfl ?_
  refine ZL.callV (N := mX6_letter) (n := 2) (d1 := 2) (mc1 := 0) (ms1 := 0) (b0 := 0) (st := []) (As := [.int (xs (i + 1)), .int (xs (i + 2))]) dL_law_375 mlL_40 mkX6_letter imX6_letter seX6_letter (fx0 hF0) cl6 rfl (by decide) rfl ⟨rfl, Nat.le_of_ble_eq_true rfl⟩ ⟨rfl, Nat.le_of_ble_eq_true rfl⟩ (by omega) (by omega) hz rfl (fun v J1 S1 q => ?_)
  obtain ⟨rfl, h35, hz2⟩ := q
  refine ZL.aload (j := 1) (a := 35) dL_law_378 rfl ?_
  refine ZL.arg (k := 1) (i := i) (j := 2) (v := xs (i + 1)) dL_law_379 dL_law_380 dL_law_381 dL_law_382 dL_law_383 rfl (by decide) (by omega) (by omega) rfl ?_
  refine ZL.arg (k := 2) (i := i) (j := 2) (v := xs (i + 2)) dL_law_384 dL_law_385 dL_law_386 dL_law_387 dL_law_388 rfl (by decide) (by omega) (by omega) rfl ?_
  refine ZL.callV (N := mX7_letter) (n := 2) (d1 := 2) (mc1 := 0) (ms1 := 0) (b0 := 35) (st := [.int r]) (As := [.int (xs (i + 1)), .int (xs (i + 2))]) dL_law_389 mlL_43 mkX7_letter imX7_letter seX7_letter h35 cl7 rfl (by decide) rfl ⟨rfl, Nat.le_of_ble_eq_true rfl⟩ ⟨rfl, Nat.le_of_ble_eq_true rfl⟩ (Nat.zero_le _) (Nat.zero_le _) hz2 rfl (fun v J2 S2 q => ?_)
  obtain ⟨rfl, hI2⟩ := q
  refine ZL.cmp (x := r) (tgt := 992) dL_law_392 (by decide) ?_
  exact (kk J2 S2 hI2).mono (by omega) (by omega)
set_option maxHeartbeats 4000000 in
theorem lc_7 (hL3 : L ≤ 3072) (hi : i + 6 ≤ L) (hm1 : 3 ≤ mc) (hm2 : 58 ≤ ms) (hI : LQI J S) (kk : ∀ J2 S2, LQI J2 S2 → ZL g L xs (mc - 3) (ms - 58) 992 [(1, .ref 0), (2, .ref 35), (3, .int (nI i))] [] J2 S2) : ZL g L xs mc ms 397 [(1, .ref 0), (2, .ref 35), (3, .int (nI i))] [] J S := by
  obtain ⟨I0, n0, nq0, mm0, hE0, hI0⟩ := id hI
  have hF0 := hI0.1.1
  obtain ⟨r, hz⟩ := lq_code hI (xs (i + 1)) (xs (i + 2)) g
  refine ZL.aload (j := 0) (a := 0) dL_law_397 rfl ?_
  refine ZL.arg (k := 1) (i := i) (j := 2) (v := xs (i + 1)) dL_law_398 dL_law_399 dL_law_400 dL_law_401 dL_law_402 rfl (by decide) (by omega) (by omega) rfl ?_
  refine ZL.arg (k := 2) (i := i) (j := 2) (v := xs (i + 2)) dL_law_403 dL_law_404 dL_law_405 dL_law_406 dL_law_407 rfl (by decide) (by omega) (by omega) rfl ?_
  refine ZL.callV (N := mX6_code) (n := 2) (d1 := 2) (mc1 := 0) (ms1 := 0) (b0 := 0) (st := []) (As := [.int (xs (i + 1)), .int (xs (i + 2))]) dL_law_408 mlL_44 mkX6_code imX6_code seX6_code (fx0 hF0) cl6 rfl (by decide) rfl ⟨rfl, Nat.le_of_ble_eq_true rfl⟩ ⟨rfl, Nat.le_of_ble_eq_true rfl⟩ (by omega) (by omega) hz rfl (fun v J1 S1 q => ?_)
  obtain ⟨rfl, h35, hz2⟩ := q
  refine ZL.aload (j := 1) (a := 35) dL_law_411 rfl ?_
  refine ZL.arg (k := 1) (i := i) (j := 2) (v := xs (i + 1)) dL_law_412 dL_law_413 dL_law_414 dL_law_415 dL_law_416 rfl (by decide) (by omega) (by omega) rfl ?_
  refine ZL.arg (k := 2) (i := i) (j := 2) (v := xs (i + 2)) dL_law_417 dL_law_418 dL_law_419 dL_law_420 dL_law_421 rfl (by decide) (by omega) (by omega) rfl ?_
  refine ZL.callV (N := mX7_code) (n := 2) (d1 := 2) (mc1 := 0) (ms1 := 0) (b0 := 35) (st := [.int r]) (As := [.int (xs (i + 1)), .int (xs (i + 2))]) dL_law_422 mlL_47 mkX7_code imX7_code seX7_code h35 cl7 rfl (by decide) rfl ⟨rfl, Nat.le_of_ble_eq_true rfl⟩ ⟨rfl, Nat.le_of_ble_eq_true rfl⟩ (Nat.zero_le _) (Nat.zero_le _) hz2 rfl (fun v J2 S2 q => ?_)
  obtain ⟨rfl, hI2⟩ := q
  refine ZL.cmp (x := r) (tgt := 992) dL_law_425 (by decide) ?_
  exact (kk J2 S2 hI2).mono (by omega) (by omega)
set_option maxHeartbeats 4000000 in
theorem lc_8 (hL3 : L ≤ 3072) (hi : i + 6 ≤ L) (hm1 : 3 ≤ mc) (hm2 : 58 ≤ ms) (hI : LQI J S) (kk : ∀ J2 S2, LQI J2 S2 → ZL g L xs (mc - 3) (ms - 58) 992 [(1, .ref 0), (2, .ref 35), (3, .int (nI i))] [] J2 S2) : ZL g L xs mc ms 430 [(1, .ref 0), (2, .ref 35), (3, .int (nI i))] [] J S := by
  obtain ⟨I0, n0, nq0, mm0, hE0, hI0⟩ := id hI
  have hF0 := hI0.1.1
  obtain ⟨r, hz⟩ := lq_paper hI (xs (i + 1)) (xs (i + 2)) (xs (i + 3)) (xs (i + 4)) g
  refine ZL.aload (j := 0) (a := 0) dL_law_430 rfl ?_
  refine ZL.arg (k := 1) (i := i) (j := 2) (v := xs (i + 1)) dL_law_431 dL_law_432 dL_law_433 dL_law_434 dL_law_435 rfl (by decide) (by omega) (by omega) rfl ?_
  refine ZL.arg (k := 2) (i := i) (j := 2) (v := xs (i + 2)) dL_law_436 dL_law_437 dL_law_438 dL_law_439 dL_law_440 rfl (by decide) (by omega) (by omega) rfl ?_
  refine ZL.arg (k := 3) (i := i) (j := 2) (v := xs (i + 3)) dL_law_441 dL_law_442 dL_law_443 dL_law_444 dL_law_445 rfl (by decide) (by omega) (by omega) rfl ?_
  refine ZL.arg (k := 4) (i := i) (j := 2) (v := xs (i + 4)) dL_law_446 dL_law_447 dL_law_448 dL_law_449 dL_law_450 rfl (by decide) (by omega) (by omega) rfl ?_
  refine ZL.callV (N := mX6_paper) (n := 4) (d1 := 4) (mc1 := 0) (ms1 := 0) (b0 := 0) (st := []) (As := [.int (xs (i + 1)), .int (xs (i + 2)), .int (xs (i + 3)), .int (xs (i + 4))]) dL_law_451 mlL_48 mkX6_paper imX6_paper seX6_paper (fx0 hF0) cl6 rfl (by decide) rfl ⟨rfl, Nat.le_of_ble_eq_true rfl⟩ ⟨rfl, Nat.le_of_ble_eq_true rfl⟩ (by omega) (by omega) hz rfl (fun v J1 S1 q => ?_)
  obtain ⟨rfl, h35, hz2⟩ := q
  refine ZL.aload (j := 1) (a := 35) dL_law_454 rfl ?_
  refine ZL.arg (k := 1) (i := i) (j := 2) (v := xs (i + 1)) dL_law_455 dL_law_456 dL_law_457 dL_law_458 dL_law_459 rfl (by decide) (by omega) (by omega) rfl ?_
  refine ZL.arg (k := 2) (i := i) (j := 2) (v := xs (i + 2)) dL_law_460 dL_law_461 dL_law_462 dL_law_463 dL_law_464 rfl (by decide) (by omega) (by omega) rfl ?_
  refine ZL.arg (k := 3) (i := i) (j := 2) (v := xs (i + 3)) dL_law_465 dL_law_466 dL_law_467 dL_law_468 dL_law_469 rfl (by decide) (by omega) (by omega) rfl ?_
  refine ZL.arg (k := 4) (i := i) (j := 2) (v := xs (i + 4)) dL_law_470 dL_law_471 dL_law_472 dL_law_473 dL_law_474 rfl (by decide) (by omega) (by omega) rfl ?_
  refine ZL.callV (N := mX7_paper) (n := 4) (d1 := 4) (mc1 := 0) (ms1 := 0) (b0 := 35) (st := [.int r]) (As := [.int (xs (i + 1)), .int (xs (i + 2)), .int (xs (i + 3)), .int (xs (i + 4))]) dL_law_475 mlL_52 mkX7_paper imX7_paper seX7_paper h35 cl7 rfl (by decide) rfl ⟨rfl, Nat.le_of_ble_eq_true rfl⟩ ⟨rfl, Nat.le_of_ble_eq_true rfl⟩ (Nat.zero_le _) (Nat.zero_le _) hz2 rfl (fun v J2 S2 q => ?_)
  obtain ⟨rfl, hI2⟩ := q
  refine ZL.cmp (x := r) (tgt := 992) dL_law_478 (by decide) ?_
  exact (kk J2 S2 hI2).mono (by omega) (by omega)
set_option maxHeartbeats 4000000 in
theorem lc_9 (hL3 : L ≤ 3072) (hi : i + 6 ≤ L) (hm1 : 3 ≤ mc) (hm2 : 58 ≤ ms) (hI : LQI J S) (kk : ∀ J2 S2, LQI J2 S2 → ZL g L xs (mc - 3) (ms - 58) 992 [(1, .ref 0), (2, .ref 35), (3, .int (nI i))] [] J2 S2) : ZL g L xs mc ms 483 [(1, .ref 0), (2, .ref 35), (3, .int (nI i))] [] J S := by
  obtain ⟨I0, n0, nq0, mm0, hE0, hI0⟩ := id hI
  have hF0 := hI0.1.1
  obtain ⟨r, hz⟩ := lq_oppose hI (xs (i + 1)) (xs (i + 2)) (xs (i + 3)) g
  refine ZL.aload (j := 0) (a := 0) dL_law_483 rfl ?_
  refine ZL.arg (k := 1) (i := i) (j := 2) (v := xs (i + 1)) dL_law_484 dL_law_485 dL_law_486 dL_law_487 dL_law_488 rfl (by decide) (by omega) (by omega) rfl ?_
  refine ZL.arg (k := 2) (i := i) (j := 2) (v := xs (i + 2)) dL_law_489 dL_law_490 dL_law_491 dL_law_492 dL_law_493 rfl (by decide) (by omega) (by omega) rfl ?_
  refine ZL.arg (k := 3) (i := i) (j := 2) (v := xs (i + 3)) dL_law_494 dL_law_495 dL_law_496 dL_law_497 dL_law_498 rfl (by decide) (by omega) (by omega) rfl ?_
  refine ZL.callV (N := mX6_oppose) (n := 3) (d1 := 6) (mc1 := 0) (ms1 := 0) (b0 := 0) (st := []) (As := [.int (xs (i + 1)), .int (xs (i + 2)), .int (xs (i + 3))]) dL_law_499 mlL_53 mkX6_oppose imX6_oppose seX6_oppose (fx0 hF0) cl6 rfl (by decide) rfl ⟨rfl, Nat.le_of_ble_eq_true rfl⟩ ⟨rfl, Nat.le_of_ble_eq_true rfl⟩ (by omega) (by omega) hz rfl (fun v J1 S1 q => ?_)
  obtain ⟨rfl, h35, hz2⟩ := q
  refine ZL.aload (j := 1) (a := 35) dL_law_502 rfl ?_
  refine ZL.arg (k := 1) (i := i) (j := 2) (v := xs (i + 1)) dL_law_503 dL_law_504 dL_law_505 dL_law_506 dL_law_507 rfl (by decide) (by omega) (by omega) rfl ?_
  refine ZL.arg (k := 2) (i := i) (j := 2) (v := xs (i + 2)) dL_law_508 dL_law_509 dL_law_510 dL_law_511 dL_law_512 rfl (by decide) (by omega) (by omega) rfl ?_
  refine ZL.arg (k := 3) (i := i) (j := 2) (v := xs (i + 3)) dL_law_513 dL_law_514 dL_law_515 dL_law_516 dL_law_517 rfl (by decide) (by omega) (by omega) rfl ?_
  refine ZL.callV (N := mX7_oppose) (n := 3) (d1 := 8) (mc1 := 0) (ms1 := 0) (b0 := 35) (st := [.int r]) (As := [.int (xs (i + 1)), .int (xs (i + 2)), .int (xs (i + 3))]) dL_law_518 mlL_57 mkX7_oppose imX7_oppose seX7_oppose h35 cl7 rfl (by decide) rfl ⟨rfl, Nat.le_of_ble_eq_true rfl⟩ ⟨rfl, Nat.le_of_ble_eq_true rfl⟩ (Nat.zero_le _) (Nat.zero_le _) hz2 rfl (fun v J2 S2 q => ?_)
  obtain ⟨rfl, hI2⟩ := q
  refine ZL.cmp (x := r) (tgt := 992) dL_law_521 (by decide) ?_
  exact (kk J2 S2 hI2).mono (by omega) (by omega)
set_option maxHeartbeats 4000000 in
theorem lc_10 (hL3 : L ≤ 3072) (hi : i + 6 ≤ L) (hm1 : 3 ≤ mc) (hm2 : 58 ≤ ms) (hI : LQI J S) (kk : ∀ J2 S2, LQI J2 S2 → ZL g L xs (mc - 3) (ms - 58) 992 [(1, .ref 0), (2, .ref 35), (3, .int (nI i))] [] J2 S2) : ZL g L xs mc ms 526 [(1, .ref 0), (2, .ref 35), (3, .int (nI i))] [] J S := by
  obtain ⟨I0, n0, nq0, mm0, hE0, hI0⟩ := id hI
  have hF0 := hI0.1.1
  obtain ⟨r, hz⟩ := lq_undo hI  g
  refine ZL.aload (j := 0) (a := 0) dL_law_526 rfl ?_
  refine ZL.callV (N := mX6_undo) (n := 0) (d1 := 1) (mc1 := 0) (ms1 := 0) (b0 := 0) (st := []) (As := []) dL_law_527 mlL_58 mkX6_undo imX6_undo seX6_undo (fx0 hF0) cl6 rfl (by decide) rfl ⟨rfl, Nat.le_of_ble_eq_true rfl⟩ ⟨rfl, Nat.le_of_ble_eq_true rfl⟩ (by omega) (by omega) hz rfl (fun v J1 S1 q => ?_)
  obtain ⟨rfl, h35, hz2⟩ := q
  refine ZL.aload (j := 1) (a := 35) dL_law_530 rfl ?_
  refine ZL.callV (N := mX7_undo) (n := 0) (d1 := 0) (mc1 := 0) (ms1 := 0) (b0 := 35) (st := [.int r]) (As := []) dL_law_531 mlL_62 mkX7_undo imX7_undo seX7_undo h35 cl7 rfl (by decide) rfl ⟨rfl, Nat.le_of_ble_eq_true rfl⟩ ⟨rfl, Nat.le_of_ble_eq_true rfl⟩ (Nat.zero_le _) (Nat.zero_le _) hz2 rfl (fun v J2 S2 q => ?_)
  obtain ⟨rfl, hI2⟩ := q
  refine ZL.cmp (x := r) (tgt := 992) dL_law_534 (by decide) ?_
  exact (kk J2 S2 hI2).mono (by omega) (by omega)
set_option maxHeartbeats 4000000 in
theorem lc_11 (hL3 : L ≤ 3072) (hi : i + 6 ≤ L) (hm1 : 3 ≤ mc) (hm2 : 58 ≤ ms) (hI : LQI J S) (kk : ∀ J2 S2, LQI J2 S2 → ZL g L xs (mc - 3) (ms - 58) 992 [(1, .ref 0), (2, .ref 35), (3, .int (nI i))] [] J2 S2) : ZL g L xs mc ms 539 [(1, .ref 0), (2, .ref 35), (3, .int (nI i))] [] J S := by
  obtain ⟨I0, n0, nq0, mm0, hE0, hI0⟩ := id hI
  have hF0 := hI0.1.1
  obtain ⟨r, hz⟩ := lq_paperOf hI (xs (i + 1)) (xs (i + 2)) g
  refine ZL.aload (j := 0) (a := 0) dL_law_539 rfl ?_
  refine ZL.arg (k := 1) (i := i) (j := 2) (v := xs (i + 1)) dL_law_540 dL_law_541 dL_law_542 dL_law_543 dL_law_544 rfl (by decide) (by omega) (by omega) rfl ?_
  refine ZL.arg (k := 2) (i := i) (j := 2) (v := xs (i + 2)) dL_law_545 dL_law_546 dL_law_547 dL_law_548 dL_law_549 rfl (by decide) (by omega) (by omega) rfl ?_
  refine ZL.callV (N := mX6_paperOf) (n := 2) (d1 := 1) (mc1 := 0) (ms1 := 0) (b0 := 0) (st := []) (As := [.int (xs (i + 1)), .int (xs (i + 2))]) dL_law_550 mlL_63 mkX6_paperOf imX6_paperOf seX6_paperOf (fx0 hF0) cl6 rfl (by decide) rfl ⟨rfl, Nat.le_of_ble_eq_true rfl⟩ ⟨rfl, Nat.le_of_ble_eq_true rfl⟩ (by omega) (by omega) hz rfl (fun v J1 S1 q => ?_)
  obtain ⟨rfl, h35, hz2⟩ := q
  refine ZL.aload (j := 1) (a := 35) dL_law_553 rfl ?_
  refine ZL.arg (k := 1) (i := i) (j := 2) (v := xs (i + 1)) dL_law_554 dL_law_555 dL_law_556 dL_law_557 dL_law_558 rfl (by decide) (by omega) (by omega) rfl ?_
  refine ZL.arg (k := 2) (i := i) (j := 2) (v := xs (i + 2)) dL_law_559 dL_law_560 dL_law_561 dL_law_562 dL_law_563 rfl (by decide) (by omega) (by omega) rfl ?_
  refine ZL.callV (N := mX7_paperOf) (n := 2) (d1 := 1) (mc1 := 0) (ms1 := 0) (b0 := 35) (st := [.int r]) (As := [.int (xs (i + 1)), .int (xs (i + 2))]) dL_law_564 mlL_66 mkX7_paperOf imX7_paperOf seX7_paperOf h35 cl7 rfl (by decide) rfl ⟨rfl, Nat.le_of_ble_eq_true rfl⟩ ⟨rfl, Nat.le_of_ble_eq_true rfl⟩ (Nat.zero_le _) (Nat.zero_le _) hz2 rfl (fun v J2 S2 q => ?_)
  obtain ⟨rfl, hI2⟩ := q
  refine ZL.cmp (x := r) (tgt := 992) dL_law_567 (by decide) ?_
  exact (kk J2 S2 hI2).mono (by omega) (by omega)
set_option maxHeartbeats 4000000 in
theorem lc_12 (hL3 : L ≤ 3072) (hi : i + 6 ≤ L) (hm1 : 3 ≤ mc) (hm2 : 58 ≤ ms) (hI : LQI J S) (kk : ∀ J2 S2, LQI J2 S2 → ZL g L xs (mc - 3) (ms - 58) 992 [(1, .ref 0), (2, .ref 35), (3, .int (nI i))] [] J2 S2) : ZL g L xs mc ms 572 [(1, .ref 0), (2, .ref 35), (3, .int (nI i))] [] J S := by
  obtain ⟨I0, n0, nq0, mm0, hE0, hI0⟩ := id hI
  have hF0 := hI0.1.1
  obtain ⟨r, hz⟩ := lq_markOf hI (xs (i + 1)) (xs (i + 2)) g
  refine ZL.aload (j := 0) (a := 0) dL_law_572 rfl ?_
  refine ZL.arg (k := 1) (i := i) (j := 2) (v := xs (i + 1)) dL_law_573 dL_law_574 dL_law_575 dL_law_576 dL_law_577 rfl (by decide) (by omega) (by omega) rfl ?_
  refine ZL.arg (k := 2) (i := i) (j := 2) (v := xs (i + 2)) dL_law_578 dL_law_579 dL_law_580 dL_law_581 dL_law_582 rfl (by decide) (by omega) (by omega) rfl ?_
  refine ZL.callV (N := mX6_markOf) (n := 2) (d1 := 3) (mc1 := 0) (ms1 := 0) (b0 := 0) (st := []) (As := [.int (xs (i + 1)), .int (xs (i + 2))]) dL_law_583 mlL_67 mkX6_markOf imX6_markOf seX6_markOf (fx0 hF0) cl6 rfl (by decide) rfl ⟨rfl, Nat.le_of_ble_eq_true rfl⟩ ⟨rfl, Nat.le_of_ble_eq_true rfl⟩ (by omega) (by omega) hz rfl (fun v J1 S1 q => ?_)
  obtain ⟨rfl, h35, hz2⟩ := q
  refine ZL.aload (j := 1) (a := 35) dL_law_586 rfl ?_
  refine ZL.arg (k := 1) (i := i) (j := 2) (v := xs (i + 1)) dL_law_587 dL_law_588 dL_law_589 dL_law_590 dL_law_591 rfl (by decide) (by omega) (by omega) rfl ?_
  refine ZL.arg (k := 2) (i := i) (j := 2) (v := xs (i + 2)) dL_law_592 dL_law_593 dL_law_594 dL_law_595 dL_law_596 rfl (by decide) (by omega) (by omega) rfl ?_
  refine ZL.callV (N := mX7_markOf) (n := 2) (d1 := 2) (mc1 := 0) (ms1 := 0) (b0 := 35) (st := [.int r]) (As := [.int (xs (i + 1)), .int (xs (i + 2))]) dL_law_597 mlL_70 mkX7_markOf imX7_markOf seX7_markOf h35 cl7 rfl (by decide) rfl ⟨rfl, Nat.le_of_ble_eq_true rfl⟩ ⟨rfl, Nat.le_of_ble_eq_true rfl⟩ (Nat.zero_le _) (Nat.zero_le _) hz2 rfl (fun v J2 S2 q => ?_)
  obtain ⟨rfl, hI2⟩ := q
  refine ZL.cmp (x := r) (tgt := 992) dL_law_600 (by decide) ?_
  exact (kk J2 S2 hI2).mono (by omega) (by omega)
set_option maxHeartbeats 4000000 in
theorem lc_13 (hL3 : L ≤ 3072) (hi : i + 6 ≤ L) (hm1 : 3 ≤ mc) (hm2 : 58 ≤ ms) (hI : LQI J S) (kk : ∀ J2 S2, LQI J2 S2 → ZL g L xs (mc - 3) (ms - 58) 992 [(1, .ref 0), (2, .ref 35), (3, .int (nI i))] [] J2 S2) : ZL g L xs mc ms 605 [(1, .ref 0), (2, .ref 35), (3, .int (nI i))] [] J S := by
  obtain ⟨I0, n0, nq0, mm0, hE0, hI0⟩ := id hI
  have hF0 := hI0.1.1
  obtain ⟨r, hz⟩ := lq_soundOf hI (xs (i + 1)) (xs (i + 2)) g
  refine ZL.aload (j := 0) (a := 0) dL_law_605 rfl ?_
  refine ZL.arg (k := 1) (i := i) (j := 2) (v := xs (i + 1)) dL_law_606 dL_law_607 dL_law_608 dL_law_609 dL_law_610 rfl (by decide) (by omega) (by omega) rfl ?_
  refine ZL.arg (k := 2) (i := i) (j := 2) (v := xs (i + 2)) dL_law_611 dL_law_612 dL_law_613 dL_law_614 dL_law_615 rfl (by decide) (by omega) (by omega) rfl ?_
  refine ZL.callV (N := mX6_soundOf) (n := 2) (d1 := 3) (mc1 := 0) (ms1 := 0) (b0 := 0) (st := []) (As := [.int (xs (i + 1)), .int (xs (i + 2))]) dL_law_616 mlL_71 mkX6_soundOf imX6_soundOf seX6_soundOf (fx0 hF0) cl6 rfl (by decide) rfl ⟨rfl, Nat.le_of_ble_eq_true rfl⟩ ⟨rfl, Nat.le_of_ble_eq_true rfl⟩ (by omega) (by omega) hz rfl (fun v J1 S1 q => ?_)
  obtain ⟨rfl, h35, hz2⟩ := q
  refine ZL.aload (j := 1) (a := 35) dL_law_619 rfl ?_
  refine ZL.arg (k := 1) (i := i) (j := 2) (v := xs (i + 1)) dL_law_620 dL_law_621 dL_law_622 dL_law_623 dL_law_624 rfl (by decide) (by omega) (by omega) rfl ?_
  refine ZL.arg (k := 2) (i := i) (j := 2) (v := xs (i + 2)) dL_law_625 dL_law_626 dL_law_627 dL_law_628 dL_law_629 rfl (by decide) (by omega) (by omega) rfl ?_
  refine ZL.callV (N := mX7_soundOf) (n := 2) (d1 := 2) (mc1 := 0) (ms1 := 0) (b0 := 35) (st := [.int r]) (As := [.int (xs (i + 1)), .int (xs (i + 2))]) dL_law_630 mlL_74 mkX7_soundOf imX7_soundOf seX7_soundOf h35 cl7 rfl (by decide) rfl ⟨rfl, Nat.le_of_ble_eq_true rfl⟩ ⟨rfl, Nat.le_of_ble_eq_true rfl⟩ (Nat.zero_le _) (Nat.zero_le _) hz2 rfl (fun v J2 S2 q => ?_)
  obtain ⟨rfl, hI2⟩ := q
  refine ZL.cmp (x := r) (tgt := 992) dL_law_633 (by decide) ?_
  exact (kk J2 S2 hI2).mono (by omega) (by omega)
set_option maxHeartbeats 4000000 in
theorem lc_14 (hL3 : L ≤ 3072) (hi : i + 6 ≤ L) (hm1 : 3 ≤ mc) (hm2 : 58 ≤ ms) (hI : LQI J S) (kk : ∀ J2 S2, LQI J2 S2 → ZL g L xs (mc - 3) (ms - 58) 992 [(1, .ref 0), (2, .ref 35), (3, .int (nI i))] [] J2 S2) : ZL g L xs mc ms 638 [(1, .ref 0), (2, .ref 35), (3, .int (nI i))] [] J S := by
  obtain ⟨I0, n0, nq0, mm0, hE0, hI0⟩ := id hI
  have hF0 := hI0.1.1
  obtain ⟨r, hz⟩ := lq_like hI (xs (i + 1)) (xs (i + 2)) (xs (i + 3)) g
  refine ZL.aload (j := 0) (a := 0) dL_law_638 rfl ?_
  refine ZL.arg (k := 1) (i := i) (j := 2) (v := xs (i + 1)) dL_law_639 dL_law_640 dL_law_641 dL_law_642 dL_law_643 rfl (by decide) (by omega) (by omega) rfl ?_
  refine ZL.arg (k := 2) (i := i) (j := 2) (v := xs (i + 2)) dL_law_644 dL_law_645 dL_law_646 dL_law_647 dL_law_648 rfl (by decide) (by omega) (by omega) rfl ?_
  refine ZL.arg (k := 3) (i := i) (j := 2) (v := xs (i + 3)) dL_law_649 dL_law_650 dL_law_651 dL_law_652 dL_law_653 rfl (by decide) (by omega) (by omega) rfl ?_
  refine ZL.callV (N := mX6_like) (n := 3) (d1 := 4) (mc1 := 0) (ms1 := 0) (b0 := 0) (st := []) (As := [.int (xs (i + 1)), .int (xs (i + 2)), .int (xs (i + 3))]) dL_law_654 mlL_75 mkX6_like imX6_like seX6_like (fx0 hF0) cl6 rfl (by decide) rfl ⟨rfl, Nat.le_of_ble_eq_true rfl⟩ ⟨rfl, Nat.le_of_ble_eq_true rfl⟩ (by omega) (by omega) hz rfl (fun v J1 S1 q => ?_)
  obtain ⟨rfl, h35, hz2⟩ := q
  refine ZL.aload (j := 1) (a := 35) dL_law_657 rfl ?_
  refine ZL.arg (k := 1) (i := i) (j := 2) (v := xs (i + 1)) dL_law_658 dL_law_659 dL_law_660 dL_law_661 dL_law_662 rfl (by decide) (by omega) (by omega) rfl ?_
  refine ZL.arg (k := 2) (i := i) (j := 2) (v := xs (i + 2)) dL_law_663 dL_law_664 dL_law_665 dL_law_666 dL_law_667 rfl (by decide) (by omega) (by omega) rfl ?_
  refine ZL.arg (k := 3) (i := i) (j := 2) (v := xs (i + 3)) dL_law_668 dL_law_669 dL_law_670 dL_law_671 dL_law_672 rfl (by decide) (by omega) (by omega) rfl ?_
  refine ZL.callV (N := mX7_like) (n := 3) (d1 := 5) (mc1 := 0) (ms1 := 0) (b0 := 35) (st := [.int r]) (As := [.int (xs (i + 1)), .int (xs (i + 2)), .int (xs (i + 3))]) dL_law_673 mlL_78 mkX7_like imX7_like seX7_like h35 cl7 rfl (by decide) rfl ⟨rfl, Nat.le_of_ble_eq_true rfl⟩ ⟨rfl, Nat.le_of_ble_eq_true rfl⟩ (Nat.zero_le _) (Nat.zero_le _) hz2 rfl (fun v J2 S2 q => ?_)
  obtain ⟨rfl, hI2⟩ := q
  refine ZL.cmp (x := r) (tgt := 992) dL_law_676 (by decide) ?_
  exact (kk J2 S2 hI2).mono (by omega) (by omega)
set_option maxHeartbeats 4000000 in
theorem lc_15 (hL3 : L ≤ 3072) (hi : i + 6 ≤ L) (hm1 : 3 ≤ mc) (hm2 : 58 ≤ ms) (hI : LQI J S) (kk : ∀ J2 S2, LQI J2 S2 → ZL g L xs (mc - 3) (ms - 58) 992 [(1, .ref 0), (2, .ref 35), (3, .int (nI i))] [] J2 S2) : ZL g L xs mc ms 681 [(1, .ref 0), (2, .ref 35), (3, .int (nI i))] [] J S := by
  obtain ⟨I0, n0, nq0, mm0, hE0, hI0⟩ := id hI
  have hF0 := hI0.1.1
  obtain ⟨r, hz⟩ := lq_right hI (xs (i + 1)) (xs (i + 2)) (xs (i + 3)) (xs (i + 4)) (xs (i + 5)) g
  refine ZL.aload (j := 0) (a := 0) dL_law_681 rfl ?_
  refine ZL.arg (k := 1) (i := i) (j := 2) (v := xs (i + 1)) dL_law_682 dL_law_683 dL_law_684 dL_law_685 dL_law_686 rfl (by decide) (by omega) (by omega) rfl ?_
  refine ZL.arg (k := 2) (i := i) (j := 2) (v := xs (i + 2)) dL_law_687 dL_law_688 dL_law_689 dL_law_690 dL_law_691 rfl (by decide) (by omega) (by omega) rfl ?_
  refine ZL.arg (k := 3) (i := i) (j := 2) (v := xs (i + 3)) dL_law_692 dL_law_693 dL_law_694 dL_law_695 dL_law_696 rfl (by decide) (by omega) (by omega) rfl ?_
  refine ZL.arg (k := 4) (i := i) (j := 2) (v := xs (i + 4)) dL_law_697 dL_law_698 dL_law_699 dL_law_700 dL_law_701 rfl (by decide) (by omega) (by omega) rfl ?_
  refine ZL.arg (k := 5) (i := i) (j := 2) (v := xs (i + 5)) dL_law_702 dL_law_703 dL_law_704 dL_law_705 dL_law_706 rfl (by decide) (by omega) (by omega) rfl ?_
  refine ZL.callV (N := mX6_right) (n := 5) (d1 := 4) (mc1 := 0) (ms1 := 0) (b0 := 0) (st := []) (As := [.int (xs (i + 1)), .int (xs (i + 2)), .int (xs (i + 3)), .int (xs (i + 4)), .int (xs (i + 5))]) dL_law_707 mlL_79 mkX6_right imX6_right seX6_right (fx0 hF0) cl6 rfl (by decide) rfl ⟨rfl, Nat.le_of_ble_eq_true rfl⟩ ⟨rfl, Nat.le_of_ble_eq_true rfl⟩ (by omega) (by omega) hz rfl (fun v J1 S1 q => ?_)
  obtain ⟨rfl, h35, hz2⟩ := q
  refine ZL.aload (j := 1) (a := 35) dL_law_710 rfl ?_
  refine ZL.arg (k := 1) (i := i) (j := 2) (v := xs (i + 1)) dL_law_711 dL_law_712 dL_law_713 dL_law_714 dL_law_715 rfl (by decide) (by omega) (by omega) rfl ?_
  refine ZL.arg (k := 2) (i := i) (j := 2) (v := xs (i + 2)) dL_law_716 dL_law_717 dL_law_718 dL_law_719 dL_law_720 rfl (by decide) (by omega) (by omega) rfl ?_
  refine ZL.arg (k := 3) (i := i) (j := 2) (v := xs (i + 3)) dL_law_721 dL_law_722 dL_law_723 dL_law_724 dL_law_725 rfl (by decide) (by omega) (by omega) rfl ?_
  refine ZL.arg (k := 4) (i := i) (j := 2) (v := xs (i + 4)) dL_law_726 dL_law_727 dL_law_728 dL_law_729 dL_law_730 rfl (by decide) (by omega) (by omega) rfl ?_
  refine ZL.arg (k := 5) (i := i) (j := 2) (v := xs (i + 5)) dL_law_731 dL_law_732 dL_law_733 dL_law_734 dL_law_735 rfl (by decide) (by omega) (by omega) rfl ?_
  refine ZL.callV (N := mX7_right) (n := 5) (d1 := 5) (mc1 := 0) (ms1 := 0) (b0 := 35) (st := [.int r]) (As := [.int (xs (i + 1)), .int (xs (i + 2)), .int (xs (i + 3)), .int (xs (i + 4)), .int (xs (i + 5))]) dL_law_736 mlL_83 mkX7_right imX7_right seX7_right h35 cl7 rfl (by decide) rfl ⟨rfl, Nat.le_of_ble_eq_true rfl⟩ ⟨rfl, Nat.le_of_ble_eq_true rfl⟩ (Nat.zero_le _) (Nat.zero_le _) hz2 rfl (fun v J2 S2 q => ?_)
  obtain ⟨rfl, hI2⟩ := q
  refine ZL.cmp (x := r) (tgt := 992) dL_law_739 (by decide) ?_
  exact (kk J2 S2 hI2).mono (by omega) (by omega)
set_option maxHeartbeats 4000000 in
theorem lc_16 (hL3 : L ≤ 3072) (hi : i + 6 ≤ L) (hm1 : 3 ≤ mc) (hm2 : 58 ≤ ms) (hI : LQI J S) (kk : ∀ J2 S2, LQI J2 S2 → ZL g L xs (mc - 3) (ms - 58) 992 [(1, .ref 0), (2, .ref 35), (3, .int (nI i))] [] J2 S2) : ZL g L xs mc ms 744 [(1, .ref 0), (2, .ref 35), (3, .int (nI i))] [] J S := by
  obtain ⟨I0, n0, nq0, mm0, hE0, hI0⟩ := id hI
  have hF0 := hI0.1.1
  obtain ⟨r, hz⟩ := lq_state hI (xs (i + 1)) (xs (i + 2)) (xs (i + 3)) g
  refine ZL.aload (j := 0) (a := 0) dL_law_744 rfl ?_
  refine ZL.arg (k := 1) (i := i) (j := 2) (v := xs (i + 1)) dL_law_745 dL_law_746 dL_law_747 dL_law_748 dL_law_749 rfl (by decide) (by omega) (by omega) rfl ?_
  refine ZL.arg (k := 2) (i := i) (j := 2) (v := xs (i + 2)) dL_law_750 dL_law_751 dL_law_752 dL_law_753 dL_law_754 rfl (by decide) (by omega) (by omega) rfl ?_
  refine ZL.arg (k := 3) (i := i) (j := 2) (v := xs (i + 3)) dL_law_755 dL_law_756 dL_law_757 dL_law_758 dL_law_759 rfl (by decide) (by omega) (by omega) rfl ?_
  refine ZL.callV (N := mX6_state) (n := 3) (d1 := 4) (mc1 := 0) (ms1 := 0) (b0 := 0) (st := []) (As := [.int (xs (i + 1)), .int (xs (i + 2)), .int (xs (i + 3))]) dL_law_760 mlL_84 mkX6_state imX6_state seX6_state (fx0 hF0) cl6 rfl (by decide) rfl ⟨rfl, Nat.le_of_ble_eq_true rfl⟩ ⟨rfl, Nat.le_of_ble_eq_true rfl⟩ (by omega) (by omega) hz rfl (fun v J1 S1 q => ?_)
  obtain ⟨rfl, h35, hz2⟩ := q
  refine ZL.aload (j := 1) (a := 35) dL_law_763 rfl ?_
  refine ZL.arg (k := 1) (i := i) (j := 2) (v := xs (i + 1)) dL_law_764 dL_law_765 dL_law_766 dL_law_767 dL_law_768 rfl (by decide) (by omega) (by omega) rfl ?_
  refine ZL.arg (k := 2) (i := i) (j := 2) (v := xs (i + 2)) dL_law_769 dL_law_770 dL_law_771 dL_law_772 dL_law_773 rfl (by decide) (by omega) (by omega) rfl ?_
  refine ZL.arg (k := 3) (i := i) (j := 2) (v := xs (i + 3)) dL_law_774 dL_law_775 dL_law_776 dL_law_777 dL_law_778 rfl (by decide) (by omega) (by omega) rfl ?_
  refine ZL.callV (N := mX7_state) (n := 3) (d1 := 4) (mc1 := 0) (ms1 := 0) (b0 := 35) (st := [.int r]) (As := [.int (xs (i + 1)), .int (xs (i + 2)), .int (xs (i + 3))]) dL_law_779 mlL_87 mkX7_state imX7_state seX7_state h35 cl7 rfl (by decide) rfl ⟨rfl, Nat.le_of_ble_eq_true rfl⟩ ⟨rfl, Nat.le_of_ble_eq_true rfl⟩ (Nat.zero_le _) (Nat.zero_le _) hz2 rfl (fun v J2 S2 q => ?_)
  obtain ⟨rfl, hI2⟩ := q
  refine ZL.cmp (x := r) (tgt := 992) dL_law_782 (by decide) ?_
  exact (kk J2 S2 hI2).mono (by omega) (by omega)
set_option maxHeartbeats 4000000 in
theorem lc_17 (hL3 : L ≤ 3072) (hi : i + 6 ≤ L) (hm1 : 3 ≤ mc) (hm2 : 58 ≤ ms) (hI : LQI J S) (kk : ∀ J2 S2, LQI J2 S2 → ZL g L xs (mc - 3) (ms - 58) 992 [(1, .ref 0), (2, .ref 35), (3, .int (nI i))] [] J2 S2) : ZL g L xs mc ms 787 [(1, .ref 0), (2, .ref 35), (3, .int (nI i))] [] J S := by
  obtain ⟨I0, n0, nq0, mm0, hE0, hI0⟩ := id hI
  have hF0 := hI0.1.1
  obtain ⟨r, hz⟩ := lq_clash hI (xs (i + 1)) (xs (i + 2)) (xs (i + 3)) (xs (i + 4)) g
  refine ZL.aload (j := 0) (a := 0) dL_law_787 rfl ?_
  refine ZL.arg (k := 1) (i := i) (j := 2) (v := xs (i + 1)) dL_law_788 dL_law_789 dL_law_790 dL_law_791 dL_law_792 rfl (by decide) (by omega) (by omega) rfl ?_
  refine ZL.arg (k := 2) (i := i) (j := 2) (v := xs (i + 2)) dL_law_793 dL_law_794 dL_law_795 dL_law_796 dL_law_797 rfl (by decide) (by omega) (by omega) rfl ?_
  refine ZL.arg (k := 3) (i := i) (j := 2) (v := xs (i + 3)) dL_law_798 dL_law_799 dL_law_800 dL_law_801 dL_law_802 rfl (by decide) (by omega) (by omega) rfl ?_
  refine ZL.arg (k := 4) (i := i) (j := 2) (v := xs (i + 4)) dL_law_803 dL_law_804 dL_law_805 dL_law_806 dL_law_807 rfl (by decide) (by omega) (by omega) rfl ?_
  refine ZL.callV (N := mX6_clash) (n := 4) (d1 := 6) (mc1 := 0) (ms1 := 0) (b0 := 0) (st := []) (As := [.int (xs (i + 1)), .int (xs (i + 2)), .int (xs (i + 3)), .int (xs (i + 4))]) dL_law_808 mlL_88 mkX6_clash imX6_clash seX6_clash (fx0 hF0) cl6 rfl (by decide) rfl ⟨rfl, Nat.le_of_ble_eq_true rfl⟩ ⟨rfl, Nat.le_of_ble_eq_true rfl⟩ (by omega) (by omega) hz rfl (fun v J1 S1 q => ?_)
  obtain ⟨rfl, h35, hz2⟩ := q
  refine ZL.aload (j := 1) (a := 35) dL_law_811 rfl ?_
  refine ZL.arg (k := 1) (i := i) (j := 2) (v := xs (i + 1)) dL_law_812 dL_law_813 dL_law_814 dL_law_815 dL_law_816 rfl (by decide) (by omega) (by omega) rfl ?_
  refine ZL.arg (k := 2) (i := i) (j := 2) (v := xs (i + 2)) dL_law_817 dL_law_818 dL_law_819 dL_law_820 dL_law_821 rfl (by decide) (by omega) (by omega) rfl ?_
  refine ZL.arg (k := 3) (i := i) (j := 2) (v := xs (i + 3)) dL_law_822 dL_law_823 dL_law_824 dL_law_825 dL_law_826 rfl (by decide) (by omega) (by omega) rfl ?_
  refine ZL.arg (k := 4) (i := i) (j := 2) (v := xs (i + 4)) dL_law_827 dL_law_828 dL_law_829 dL_law_830 dL_law_831 rfl (by decide) (by omega) (by omega) rfl ?_
  refine ZL.callV (N := mX7_clash) (n := 4) (d1 := 8) (mc1 := 0) (ms1 := 0) (b0 := 35) (st := [.int r]) (As := [.int (xs (i + 1)), .int (xs (i + 2)), .int (xs (i + 3)), .int (xs (i + 4))]) dL_law_832 mlL_91 mkX7_clash imX7_clash seX7_clash h35 cl7 rfl (by decide) rfl ⟨rfl, Nat.le_of_ble_eq_true rfl⟩ ⟨rfl, Nat.le_of_ble_eq_true rfl⟩ (Nat.zero_le _) (Nat.zero_le _) hz2 rfl (fun v J2 S2 q => ?_)
  obtain ⟨rfl, hI2⟩ := q
  refine ZL.cmp (x := r) (tgt := 992) dL_law_835 (by decide) ?_
  exact (kk J2 S2 hI2).mono (by omega) (by omega)
set_option maxHeartbeats 4000000 in
theorem lc_18 (hL3 : L ≤ 3072) (hi : i + 6 ≤ L) (hm1 : 3 ≤ mc) (hm2 : 58 ≤ ms) (hI : LQI J S) (kk : ∀ J2 S2, LQI J2 S2 → ZL g L xs (mc - 3) (ms - 58) 992 [(1, .ref 0), (2, .ref 35), (3, .int (nI i))] [] J2 S2) : ZL g L xs mc ms 840 [(1, .ref 0), (2, .ref 35), (3, .int (nI i))] [] J S := by
  obtain ⟨I0, n0, nq0, mm0, hE0, hI0⟩ := id hI
  have hF0 := hI0.1.1
  obtain ⟨r, hz⟩ := lq_first hI (xs (i + 1)) (xs (i + 2)) (xs (i + 3)) g
  refine ZL.aload (j := 0) (a := 0) dL_law_840 rfl ?_
  refine ZL.arg (k := 1) (i := i) (j := 2) (v := xs (i + 1)) dL_law_841 dL_law_842 dL_law_843 dL_law_844 dL_law_845 rfl (by decide) (by omega) (by omega) rfl ?_
  refine ZL.arg (k := 2) (i := i) (j := 2) (v := xs (i + 2)) dL_law_846 dL_law_847 dL_law_848 dL_law_849 dL_law_850 rfl (by decide) (by omega) (by omega) rfl ?_
  refine ZL.arg (k := 3) (i := i) (j := 2) (v := xs (i + 3)) dL_law_851 dL_law_852 dL_law_853 dL_law_854 dL_law_855 rfl (by decide) (by omega) (by omega) rfl ?_
  refine ZL.callV (N := mX6_first) (n := 3) (d1 := 6) (mc1 := 0) (ms1 := 0) (b0 := 0) (st := []) (As := [.int (xs (i + 1)), .int (xs (i + 2)), .int (xs (i + 3))]) dL_law_856 mlL_92 mkX6_first imX6_first seX6_first (fx0 hF0) cl6 rfl (by decide) rfl ⟨rfl, Nat.le_of_ble_eq_true rfl⟩ ⟨rfl, Nat.le_of_ble_eq_true rfl⟩ (by omega) (by omega) hz rfl (fun v J1 S1 q => ?_)
  obtain ⟨rfl, h35, hz2⟩ := q
  refine ZL.aload (j := 1) (a := 35) dL_law_859 rfl ?_
  refine ZL.arg (k := 1) (i := i) (j := 2) (v := xs (i + 1)) dL_law_860 dL_law_861 dL_law_862 dL_law_863 dL_law_864 rfl (by decide) (by omega) (by omega) rfl ?_
  refine ZL.arg (k := 2) (i := i) (j := 2) (v := xs (i + 2)) dL_law_865 dL_law_866 dL_law_867 dL_law_868 dL_law_869 rfl (by decide) (by omega) (by omega) rfl ?_
  refine ZL.arg (k := 3) (i := i) (j := 2) (v := xs (i + 3)) dL_law_870 dL_law_871 dL_law_872 dL_law_873 dL_law_874 rfl (by decide) (by omega) (by omega) rfl ?_
  refine ZL.callV (N := mX7_first) (n := 3) (d1 := 8) (mc1 := 0) (ms1 := 0) (b0 := 35) (st := [.int r]) (As := [.int (xs (i + 1)), .int (xs (i + 2)), .int (xs (i + 3))]) dL_law_875 mlL_95 mkX7_first imX7_first seX7_first h35 cl7 rfl (by decide) rfl ⟨rfl, Nat.le_of_ble_eq_true rfl⟩ ⟨rfl, Nat.le_of_ble_eq_true rfl⟩ (Nat.zero_le _) (Nat.zero_le _) hz2 rfl (fun v J2 S2 q => ?_)
  obtain ⟨rfl, hI2⟩ := q
  refine ZL.cmp (x := r) (tgt := 992) dL_law_878 (by decide) ?_
  exact (kk J2 S2 hI2).mono (by omega) (by omega)
set_option maxHeartbeats 4000000 in
theorem lc_19 (hL3 : L ≤ 3072) (hi : i + 6 ≤ L) (hm1 : 3 ≤ mc) (hm2 : 58 ≤ ms) (hI : LQI J S) (kk : ∀ J2 S2, LQI J2 S2 → ZL g L xs (mc - 3) (ms - 58) 992 [(1, .ref 0), (2, .ref 35), (3, .int (nI i))] [] J2 S2) : ZL g L xs mc ms 883 [(1, .ref 0), (2, .ref 35), (3, .int (nI i))] [] J S := by
  obtain ⟨I0, n0, nq0, mm0, hE0, hI0⟩ := id hI
  have hF0 := hI0.1.1
  obtain ⟨r, hz⟩ := lq_may hI (xs (i + 1)) (xs (i + 2)) (xs (i + 3)) (xs (i + 4)) (xs (i + 5)) g
  refine ZL.aload (j := 0) (a := 0) dL_law_883 rfl ?_
  refine ZL.arg (k := 1) (i := i) (j := 2) (v := xs (i + 1)) dL_law_884 dL_law_885 dL_law_886 dL_law_887 dL_law_888 rfl (by decide) (by omega) (by omega) rfl ?_
  refine ZL.arg (k := 2) (i := i) (j := 2) (v := xs (i + 2)) dL_law_889 dL_law_890 dL_law_891 dL_law_892 dL_law_893 rfl (by decide) (by omega) (by omega) rfl ?_
  refine ZL.arg (k := 3) (i := i) (j := 2) (v := xs (i + 3)) dL_law_894 dL_law_895 dL_law_896 dL_law_897 dL_law_898 rfl (by decide) (by omega) (by omega) rfl ?_
  refine ZL.arg (k := 4) (i := i) (j := 2) (v := xs (i + 4)) dL_law_899 dL_law_900 dL_law_901 dL_law_902 dL_law_903 rfl (by decide) (by omega) (by omega) rfl ?_
  refine ZL.arg (k := 5) (i := i) (j := 2) (v := xs (i + 5)) dL_law_904 dL_law_905 dL_law_906 dL_law_907 dL_law_908 rfl (by decide) (by omega) (by omega) rfl ?_
  refine ZL.callV (N := mX6_may) (n := 5) (d1 := 6) (mc1 := 0) (ms1 := 0) (b0 := 0) (st := []) (As := [.int (xs (i + 1)), .int (xs (i + 2)), .int (xs (i + 3)), .int (xs (i + 4)), .int (xs (i + 5))]) dL_law_909 mlL_96 mkX6_may imX6_may seX6_may (fx0 hF0) cl6 rfl (by decide) rfl ⟨rfl, Nat.le_of_ble_eq_true rfl⟩ ⟨rfl, Nat.le_of_ble_eq_true rfl⟩ (by omega) (by omega) hz rfl (fun v J1 S1 q => ?_)
  obtain ⟨rfl, h35, hz2⟩ := q
  refine ZL.aload (j := 1) (a := 35) dL_law_912 rfl ?_
  refine ZL.arg (k := 1) (i := i) (j := 2) (v := xs (i + 1)) dL_law_913 dL_law_914 dL_law_915 dL_law_916 dL_law_917 rfl (by decide) (by omega) (by omega) rfl ?_
  refine ZL.arg (k := 2) (i := i) (j := 2) (v := xs (i + 2)) dL_law_918 dL_law_919 dL_law_920 dL_law_921 dL_law_922 rfl (by decide) (by omega) (by omega) rfl ?_
  refine ZL.arg (k := 3) (i := i) (j := 2) (v := xs (i + 3)) dL_law_923 dL_law_924 dL_law_925 dL_law_926 dL_law_927 rfl (by decide) (by omega) (by omega) rfl ?_
  refine ZL.arg (k := 4) (i := i) (j := 2) (v := xs (i + 4)) dL_law_928 dL_law_929 dL_law_930 dL_law_931 dL_law_932 rfl (by decide) (by omega) (by omega) rfl ?_
  refine ZL.arg (k := 5) (i := i) (j := 2) (v := xs (i + 5)) dL_law_933 dL_law_934 dL_law_935 dL_law_936 dL_law_937 rfl (by decide) (by omega) (by omega) rfl ?_
  refine ZL.callV (N := mX7_may) (n := 5) (d1 := 8) (mc1 := 0) (ms1 := 0) (b0 := 35) (st := [.int r]) (As := [.int (xs (i + 1)), .int (xs (i + 2)), .int (xs (i + 3)), .int (xs (i + 4)), .int (xs (i + 5))]) dL_law_938 mlL_99 mkX7_may imX7_may seX7_may h35 cl7 rfl (by decide) rfl ⟨rfl, Nat.le_of_ble_eq_true rfl⟩ ⟨rfl, Nat.le_of_ble_eq_true rfl⟩ (Nat.zero_le _) (Nat.zero_le _) hz2 rfl (fun v J2 S2 q => ?_)
  obtain ⟨rfl, hI2⟩ := q
  refine ZL.cmp (x := r) (tgt := 992) dL_law_941 (by decide) ?_
  exact (kk J2 S2 hI2).mono (by omega) (by omega)
set_option maxHeartbeats 4000000 in
theorem lc_20 (hL3 : L ≤ 3072) (hi : i + 6 ≤ L) (hm1 : 3 ≤ mc) (hm2 : 58 ≤ ms) (hI : LQI J S) (kk : ∀ J2 S2, LQI J2 S2 → ZL g L xs (mc - 3) (ms - 58) 992 [(1, .ref 0), (2, .ref 35), (3, .int (nI i))] [] J2 S2) : ZL g L xs mc ms 946 [(1, .ref 0), (2, .ref 35), (3, .int (nI i))] [] J S := by
  obtain ⟨I0, n0, nq0, mm0, hE0, hI0⟩ := id hI
  have hF0 := hI0.1.1
  obtain ⟨r, hz⟩ := lq_watch hI (xs (i + 1)) g
  refine ZL.aload (j := 0) (a := 0) dL_law_946 rfl ?_
  refine ZL.arg (k := 1) (i := i) (j := 2) (v := xs (i + 1)) dL_law_947 dL_law_948 dL_law_949 dL_law_950 dL_law_951 rfl (by decide) (by omega) (by omega) rfl ?_
  refine ZL.callV (N := mX6_watch) (n := 1) (d1 := 6) (mc1 := 0) (ms1 := 0) (b0 := 0) (st := []) (As := [.int (xs (i + 1))]) dL_law_952 mlL_100 mkX6_watch imX6_watch seX6_watch (fx0 hF0) cl6 rfl (by decide) rfl ⟨rfl, Nat.le_of_ble_eq_true rfl⟩ ⟨rfl, Nat.le_of_ble_eq_true rfl⟩ (by omega) (by omega) hz rfl (fun v J1 S1 q => ?_)
  obtain ⟨rfl, h35, hz2⟩ := q
  refine ZL.aload (j := 1) (a := 35) dL_law_955 rfl ?_
  refine ZL.arg (k := 1) (i := i) (j := 2) (v := xs (i + 1)) dL_law_956 dL_law_957 dL_law_958 dL_law_959 dL_law_960 rfl (by decide) (by omega) (by omega) rfl ?_
  refine ZL.callV (N := mX7_watch) (n := 1) (d1 := 7) (mc1 := 0) (ms1 := 0) (b0 := 35) (st := [.int r]) (As := [.int (xs (i + 1))]) dL_law_961 mlL_104 mkX7_watch imX7_watch seX7_watch h35 cl7 rfl (by decide) rfl ⟨rfl, Nat.le_of_ble_eq_true rfl⟩ ⟨rfl, Nat.le_of_ble_eq_true rfl⟩ (Nat.zero_le _) (Nat.zero_le _) hz2 rfl (fun v J2 S2 q => ?_)
  obtain ⟨rfl, hI2⟩ := q
  refine ZL.cmp (x := r) (tgt := 992) dL_law_964 (by decide) ?_
  exact (kk J2 S2 hI2).mono (by omega) (by omega)
set_option maxHeartbeats 4000000 in
theorem lc_21 (hL3 : L ≤ 3072) (hi : i + 6 ≤ L) (hm1 : 3 ≤ mc) (hm2 : 58 ≤ ms) (hI : LQI J S) (kk : ∀ J2 S2, LQI J2 S2 → ZL g L xs (mc - 3) (ms - 58) 992 [(1, .ref 0), (2, .ref 35), (3, .int (nI i))] [] J2 S2) : ZL g L xs mc ms 969 [(1, .ref 0), (2, .ref 35), (3, .int (nI i))] [] J S := by
  obtain ⟨I0, n0, nq0, mm0, hE0, hI0⟩ := id hI
  have hF0 := hI0.1.1
  obtain ⟨r, hz⟩ := lq_about hI (xs (i + 1)) g
  refine ZL.aload (j := 0) (a := 0) dL_law_969 rfl ?_
  refine ZL.arg (k := 1) (i := i) (j := 2) (v := xs (i + 1)) dL_law_970 dL_law_971 dL_law_972 dL_law_973 dL_law_974 rfl (by decide) (by omega) (by omega) rfl ?_
  refine ZL.callV (N := mX6_about) (n := 1) (d1 := 1) (mc1 := 0) (ms1 := 0) (b0 := 0) (st := []) (As := [.int (xs (i + 1))]) dL_law_975 mlL_105 mkX6_about imX6_about seX6_about (fx0 hF0) cl6 rfl (by decide) rfl ⟨rfl, Nat.le_of_ble_eq_true rfl⟩ ⟨rfl, Nat.le_of_ble_eq_true rfl⟩ (by omega) (by omega) hz rfl (fun v J1 S1 q => ?_)
  obtain ⟨rfl, h35, hz2⟩ := q
  refine ZL.aload (j := 1) (a := 35) dL_law_978 rfl ?_
  refine ZL.arg (k := 1) (i := i) (j := 2) (v := xs (i + 1)) dL_law_979 dL_law_980 dL_law_981 dL_law_982 dL_law_983 rfl (by decide) (by omega) (by omega) rfl ?_
  refine ZL.callV (N := mX7_about) (n := 1) (d1 := 0) (mc1 := 0) (ms1 := 0) (b0 := 35) (st := [.int r]) (As := [.int (xs (i + 1))]) dL_law_984 mlL_108 mkX7_about imX7_about seX7_about h35 cl7 rfl (by decide) rfl ⟨rfl, Nat.le_of_ble_eq_true rfl⟩ ⟨rfl, Nat.le_of_ble_eq_true rfl⟩ (Nat.zero_le _) (Nat.zero_le _) hz2 rfl (fun v J2 S2 q => ?_)
  obtain ⟨rfl, hI2⟩ := q
  refine ZL.cmp (x := r) (tgt := 992) dL_law_987 (by decide) ?_
  exact (kk J2 S2 hI2).mono (by omega) (by omega)
set_option maxHeartbeats 4000000 in
theorem law_loop (hL3 : L ≤ 3072) : ∀ (k i mc ms : Nat) (J : IM) (S : SH), i ≤ L → L < i + 6 * k + 6 → 3 * k ≤ mc → 58 * k ≤ ms → LQI J S → ZL g L xs mc ms 18 [(1, .ref 0), (2, .ref 35), (3, .int (nI i))] [] J S := by
  intro k
  induction k with
  | zero =>
    intro i mc ms J S hi hk h1 h2 hI
    refine ZL.head (i := i) (j := 2) (tgt := 998) dL_law_18 dL_law_19 dL_law_20 dL_law_21 dL_law_23 dL_law_24 (by decide) rfl hL3 hi (fun _ => ?_) (fun q => absurd q (by omega))
    exact ZL.fin dL_law_998 dL_law_999
  | succ k ih =>
    intro i mc ms J S hi hk h1 h2 hI
    refine ZL.head (i := i) (j := 2) (tgt := 998) dL_law_18 dL_law_19 dL_law_20 dL_law_21 dL_law_23 dL_law_24 (by decide) rfl hL3 hi (fun _ => ?_) (fun hq => ?_)
    · exact ZL.fin dL_law_998 dL_law_999
    have kk : ∀ J2 S2, LQI J2 S2 → ZL g L xs (mc - 3) (ms - 58) 992 [(1, .ref 0), (2, .ref 35), (3, .int (nI i))] [] J2 S2 := fun J2 S2 hI2 => by
      refine ZL.inc dL_law_992 ?_
      refine ZL.goto (tgt := 18) dL_law_995 (by decide) ?_
      exact ih (i + 6) (mc - 3) (ms - 58) J2 S2 hq (by omega) (by omega) (by omega) hI2
    refine ZL.op (i := i) (j := 2) dL_law_27 dL_law_28 dL_law_29 dL_law_30 dL_law_32 rfl (by omega) (by omega) ?_
    rcases sw_0_21 (xs i &&& 31) with h | h | h | h | h | h | h | h | h | h | h | h | h | h | h | h | h | h | h | h | h | h | h
    · refine ZL.tableIn (off := 103) (tgt := 136) dL_law_33 (by rw [h]; decide) (by rw [h]; decide) (by rw [h]; decide) (by decide) ?_
      exact lc_0 hL3 hq (by omega) (by omega) hI kk
    · refine ZL.tableIn (off := 136) (tgt := 169) dL_law_33 (by rw [h]; decide) (by rw [h]; decide) (by rw [h]; decide) (by decide) ?_
      exact lc_1 hL3 hq (by omega) (by omega) hI kk
    · refine ZL.tableIn (off := 179) (tgt := 212) dL_law_33 (by rw [h]; decide) (by rw [h]; decide) (by rw [h]; decide) (by decide) ?_
      exact lc_2 hL3 hq (by omega) (by omega) hI kk
    · refine ZL.tableIn (off := 222) (tgt := 255) dL_law_33 (by rw [h]; decide) (by rw [h]; decide) (by rw [h]; decide) (by decide) ?_
      exact lc_3 hL3 hq (by omega) (by omega) hI kk
    · refine ZL.tableIn (off := 265) (tgt := 298) dL_law_33 (by rw [h]; decide) (by rw [h]; decide) (by rw [h]; decide) (by decide) ?_
      exact lc_4 hL3 hq (by omega) (by omega) hI kk
    · refine ZL.tableIn (off := 298) (tgt := 331) dL_law_33 (by rw [h]; decide) (by rw [h]; decide) (by rw [h]; decide) (by decide) ?_
      exact lc_5 hL3 hq (by omega) (by omega) hI kk
    · refine ZL.tableIn (off := 331) (tgt := 364) dL_law_33 (by rw [h]; decide) (by rw [h]; decide) (by rw [h]; decide) (by decide) ?_
      exact lc_6 hL3 hq (by omega) (by omega) hI kk
    · refine ZL.tableIn (off := 364) (tgt := 397) dL_law_33 (by rw [h]; decide) (by rw [h]; decide) (by rw [h]; decide) (by decide) ?_
      exact lc_7 hL3 hq (by omega) (by omega) hI kk
    · refine ZL.tableIn (off := 397) (tgt := 430) dL_law_33 (by rw [h]; decide) (by rw [h]; decide) (by rw [h]; decide) (by decide) ?_
      exact lc_8 hL3 hq (by omega) (by omega) hI kk
    · refine ZL.tableIn (off := 450) (tgt := 483) dL_law_33 (by rw [h]; decide) (by rw [h]; decide) (by rw [h]; decide) (by decide) ?_
      exact lc_9 hL3 hq (by omega) (by omega) hI kk
    · refine ZL.tableIn (off := 493) (tgt := 526) dL_law_33 (by rw [h]; decide) (by rw [h]; decide) (by rw [h]; decide) (by decide) ?_
      exact lc_10 hL3 hq (by omega) (by omega) hI kk
    · refine ZL.tableIn (off := 506) (tgt := 539) dL_law_33 (by rw [h]; decide) (by rw [h]; decide) (by rw [h]; decide) (by decide) ?_
      exact lc_11 hL3 hq (by omega) (by omega) hI kk
    · refine ZL.tableIn (off := 539) (tgt := 572) dL_law_33 (by rw [h]; decide) (by rw [h]; decide) (by rw [h]; decide) (by decide) ?_
      exact lc_12 hL3 hq (by omega) (by omega) hI kk
    · refine ZL.tableIn (off := 572) (tgt := 605) dL_law_33 (by rw [h]; decide) (by rw [h]; decide) (by rw [h]; decide) (by decide) ?_
      exact lc_13 hL3 hq (by omega) (by omega) hI kk
    · refine ZL.tableIn (off := 605) (tgt := 638) dL_law_33 (by rw [h]; decide) (by rw [h]; decide) (by rw [h]; decide) (by decide) ?_
      exact lc_14 hL3 hq (by omega) (by omega) hI kk
    · refine ZL.tableIn (off := 648) (tgt := 681) dL_law_33 (by rw [h]; decide) (by rw [h]; decide) (by rw [h]; decide) (by decide) ?_
      exact lc_15 hL3 hq (by omega) (by omega) hI kk
    · refine ZL.tableIn (off := 711) (tgt := 744) dL_law_33 (by rw [h]; decide) (by rw [h]; decide) (by rw [h]; decide) (by decide) ?_
      exact lc_16 hL3 hq (by omega) (by omega) hI kk
    · refine ZL.tableIn (off := 754) (tgt := 787) dL_law_33 (by rw [h]; decide) (by rw [h]; decide) (by rw [h]; decide) (by decide) ?_
      exact lc_17 hL3 hq (by omega) (by omega) hI kk
    · refine ZL.tableIn (off := 807) (tgt := 840) dL_law_33 (by rw [h]; decide) (by rw [h]; decide) (by rw [h]; decide) (by decide) ?_
      exact lc_18 hL3 hq (by omega) (by omega) hI kk
    · refine ZL.tableIn (off := 850) (tgt := 883) dL_law_33 (by rw [h]; decide) (by rw [h]; decide) (by rw [h]; decide) (by decide) ?_
      exact lc_19 hL3 hq (by omega) (by omega) hI kk
    · refine ZL.tableIn (off := 913) (tgt := 946) dL_law_33 (by rw [h]; decide) (by rw [h]; decide) (by rw [h]; decide) (by decide) ?_
      exact lc_20 hL3 hq (by omega) (by omega) hI kk
    · refine ZL.tableIn (off := 936) (tgt := 969) dL_law_33 (by rw [h]; decide) (by rw [h]; decide) (by rw [h]; decide) (by decide) ?_
      exact lc_21 hL3 hq (by omega) (by omega) hI kk
    · refine ZL.tableOut (tgt := 992) dL_law_33 h (by decide) ?_
      exact (kk J S hI).mono (by omega) (by omega)
end LWC
