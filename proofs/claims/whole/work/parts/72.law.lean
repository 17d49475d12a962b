def cf_LI (D : va_G) (cT : Nat → ClassId) (s : State) (b : Nat) (ad0 : cf_Ad) (i : Nat) (H : Heap) (locs : List Loc) (ls : Array Slot) (u : cf_St) : Prop :=
  cf_W D s.heap.size (cf_EW cT u) (cf_ADu u) H ∧ va_S (fun q => s.heap.size ≤ q) s.heap H locs ∧ lv_has ls 7 [(4, .int (nI (5 * i))), (3, .ref (ad0 18 0)), (2, .ref (ad0 6 0)), (1, .ref (ad0 5 0)), (0, .ref b)] ∧ cf_R i u.1 u.2.1 u.2.2.1 u.2.2.2.1 ∧ ∀ k, k = 5 ∨ k = 6 ∨ k = 17 ∨ k = 18 → u.2.2.2.2.2 k 0 = ad0 k 0
theorem cf_5k {i : Nat} (k : Nat) : nI (5 * i) + nI k = nI (5 * i + k) := nI_add ..
theorem cf_5s (i : Nat) : nI (5 * i) + 5 = nI (5 * (i + 1)) := (nI_add ..).trans (by rw [Nat.mul_succ])
set_option maxHeartbeats 4000000 in
set_option maxRecDepth 100000 in
theorem cf_case_setGame (l : Launch) (hl0 : l.stackTraces = false) {p : Program} {e : Env} {s : State} {m : MethodId} {below : List Frame} {meth : Method} {c : Code} {b L : Nat} {xs : Nat → Int32} (hL : L ≤ 2560) (C0 : lw_At p s m meth c b L xs) {D : va_G} {cT : Nat → ClassId} (hT : cf_Tb D cT s.heap.size s s.heap) {ad0 : cf_Ad} {i : Nat} (hi : i < L / 5) {H : Heap} {locs : List Loc} {ls : Array Slot} {u : cf_St} (hI : cf_LI D cT s b ad0 i H locs ls u) (ih : ∀ (H2 : Heap) (locs2 : List Loc) (ls2 : Array Slot) (u2 : cf_St), cf_LI D cT s b ad0 (i + 1) H2 locs2 ls2 u2 → W p l e room_1 s m #[Value.ref b] below meth c H2 locs2 (60 + (i + 1) * 4) (800 + (i + 1) * 24) (lw_Z below #[Value.ref b] s) (F0 m 23 ls2 [])) : W p l e room_1 s m #[Value.ref b] below meth c H locs (60 + i * 4) (800 + i * 24) (lw_Z below #[Value.ref b] s) (F0 m 144 ls []) := by
  obtain ⟨hx, hb, hr, hml, hown, hts0, hX, hbl, hlocks, hgv⟩ := id C0
  have hts : ∀ w ∈ wsL_law, w.before #[Value.ref b] s = true := fun w h => hts0 w (wsL_law_in w h)
  have hbA : ¬ s.heap.size ≤ b := Nat.not_le.mpr hbl
  obtain ⟨nc, ng, S, P, O, ad⟩ := u
  obtain ⟨hW, hS, hl, hR, hag⟩ := hI
  have hW : cf_W D s.heap.size (cf_E cT nc ng S P O ad) ad H := hW
  have hR : cf_R i nc ng S P := hR
  have hag : ∀ k, k = 5 ∨ k = 6 ∨ k = 17 ∨ k = 18 → ad k 0 = ad0 k 0 := hag
  have hl : lv_has ls 7 [(4, .int (nI (5 * i))), (3, .ref (ad 18 0)), (2, .ref (ad 6 0)), (1, .ref (ad 5 0)), (0, .ref b)] := by rw [hag 5 (by simp), hag 6 (by simp), hag 18 (by simp)]; exact hl
  refine lv_aload_n hx hb dL_law_144 rfl (lv_at hl 3 rfl) ?_
  refine lv_aload_n hx hb dL_law_145 rfl (lv_at hl 4 rfl) ?_
  refine lv_iload hx hb dL_law_146 (lv_at hl 0 rfl) ?_
  refine lv_iconst (v := 1) hx hb dL_law_148 (by decide) ?_
  refine lv_iadd hx hb dL_law_149 ?_
  refine cf_sld hx hb hX hbl hbA hS (5 * i + 1) (cf_5k 1) (by omega) (by omega) dL_law_150 ?_
  refine lv_aload_n hx hb dL_law_151 rfl (lv_at hl 4 rfl) ?_
  refine lv_iload hx hb dL_law_152 (lv_at hl 0 rfl) ?_
  refine lv_iconst (v := 2) hx hb dL_law_154 (by decide) ?_
  refine lv_iadd hx hb dL_law_155 ?_
  refine cf_sld hx hb hX hbl hbA hS (5 * i + 2) (cf_5k 2) (by omega) (by omega) dL_law_156 ?_
  refine lv_aload_n hx hb dL_law_157 rfl (lv_at hl 4 rfl) ?_
  refine lv_iload hx hb dL_law_158 (lv_at hl 0 rfl) ?_
  refine lv_iconst (v := 3) hx hb dL_law_160 (by decide) ?_
  refine lv_iadd hx hb dL_law_161 ?_
  refine cf_sld hx hb hX hbl hbA hS (5 * i + 3) (cf_5k 3) (by omega) (by omega) dL_law_162 ?_
  refine lv_aload_n hx hb dL_law_163 rfl (lv_at hl 4 rfl) ?_
  refine lv_iload hx hb dL_law_164 (lv_at hl 0 rfl) ?_
  refine lv_iconst (v := 4) hx hb dL_law_166 (by decide) ?_
  refine lv_iadd hx hb dL_law_167 ?_
  refine cf_sld hx hb hX hbl hbA hS (5 * i + 4) (cf_5k 4) (by omega) (by omega) dL_law_168 ?_
  refine vx_calli (vx_runSX (As := [.ref (ad 5 0), .int (xs (5 * i + 1)), .int (xs (5 * i + 2)), .int (xs (5 * i + 3)), .int (xs (5 * i + 4))]) (rest := []) ⟨hx, hb, hml, hown, hts⟩ (c_L_setGame l D cT s.heap.size ad nc ng S P O hl0 (xs (5 * i + 1)) (xs (5 * i + 2)) (xs (5 * i + 3)) (xs (5 * i + 4))) (vx_cwSW 5 hts gL_law_L_setGame rfl rfl rfl (by decide +kernel) ⟨Nat.le_of_ble_eq_true rfl, Nat.le_of_ble_eq_true rfl⟩) (cf_preS hT hS hW) rfl rfl hl.1 rfl (lv_room (Nat.le_of_ble_eq_true rfl)) dL_law_169 ⟨(by show _ ≤ 765407; omega), (by show _ ≤ 6799882; omega)⟩) hS (fun _ _ h => h) (fun _ h => h) (fun _ _ h => h) (fun E9 ce q9 u9 t9 H locs ht hvm hu hB hz1 hk1 hS hce hcv hcl => absurd hB.1 id) (fun k1 u1 t9 H locs ht hvm hw hW hz1 hk1 hS => ?_)
  have hW9 := cf_W.er ht hW
  have hpre := cf_pre_setGame hR hw
  refine lv_istore (lv' := [(5, .int k1), (4, .int (nI (5 * i))), (3, .ref (ad 18 0)), (2, .ref (ad 6 0)), (1, .ref (ad 5 0)), (0, .ref b)]) hx hb dL_law_172 hl (by decide) rfl (fun ls hl => ?_)
  obtain ⟨hu1, hu2, hag2, hH⟩ := hpre
  obtain ⟨nc2, ng2, S2, P2, O2, ad2⟩ := u1
  have hu1 : nc2 = nc := hu1
  subst hu1
  have hu2 : ng2 = ng := hu2
  subst hu2
  have hW : cf_W D s.heap.size (cf_E cT nc2 ng2 S2 P2 O2 ad2) ad2 H := hW9
  have hag2 : ∀ k, k = 5 ∨ k = 6 ∨ k = 17 ∨ k = 18 → ad2 k 0 = ad k 0 := hag2
  have hH : cf_H nc2 ng2 S2 P2 P := hH
  have hl : lv_has ls 7 [(5, .int k1), (4, .int (nI (5 * i))), (3, .ref (ad2 18 0)), (2, .ref (ad2 6 0)), (1, .ref (ad2 5 0)), (0, .ref b)] := by rw [hag2 5 (by simp), hag2 6 (by simp), hag2 18 (by simp)]; exact hl
  have hag3 : ∀ k, k = 5 ∨ k = 6 ∨ k = 17 ∨ k = 18 → ad2 k 0 = ad0 k 0 := fun k hk => (hag2 k hk).trans (hag k hk)
  refine lv_aload_n hx hb dL_law_174 rfl (lv_at hl 3 rfl) ?_
  refine lv_aload_n hx hb dL_law_175 rfl (lv_at hl 5 rfl) ?_
  refine lv_iload hx hb dL_law_176 (lv_at hl 1 rfl) ?_
  refine lv_iconst (v := 1) hx hb dL_law_178 (by decide) ?_
  refine lv_iadd hx hb dL_law_179 ?_
  refine cf_sld hx hb hX hbl hbA hS (5 * i + 1) (cf_5k 1) (by omega) (by omega) dL_law_180 ?_
  refine lv_aload_n hx hb dL_law_181 rfl (lv_at hl 5 rfl) ?_
  refine lv_iload hx hb dL_law_182 (lv_at hl 1 rfl) ?_
  refine lv_iconst (v := 2) hx hb dL_law_184 (by decide) ?_
  refine lv_iadd hx hb dL_law_185 ?_
  refine cf_sld hx hb hX hbl hbA hS (5 * i + 2) (cf_5k 2) (by omega) (by omega) dL_law_186 ?_
  refine lv_aload_n hx hb dL_law_187 rfl (lv_at hl 5 rfl) ?_
  refine lv_iload hx hb dL_law_188 (lv_at hl 1 rfl) ?_
  refine lv_iconst (v := 3) hx hb dL_law_190 (by decide) ?_
  refine lv_iadd hx hb dL_law_191 ?_
  refine cf_sld hx hb hX hbl hbA hS (5 * i + 3) (cf_5k 3) (by omega) (by omega) dL_law_192 ?_
  refine lv_aload_n hx hb dL_law_193 rfl (lv_at hl 5 rfl) ?_
  refine lv_iload hx hb dL_law_194 (lv_at hl 1 rfl) ?_
  refine lv_iconst (v := 4) hx hb dL_law_196 (by decide) ?_
  refine lv_iadd hx hb dL_law_197 ?_
  refine cf_sld hx hb hX hbl hbA hS (5 * i + 4) (cf_5k 4) (by omega) (by omega) dL_law_198 ?_
  refine va_callv (va_runV (As := [.int (xs (5 * i + 1)), .int (xs (5 * i + 2)), .int (xs (5 * i + 3)), .int (xs (5 * i + 4))]) (rest := []) ⟨hx, hb, hml, hown, hts⟩ (c_X6_setGame l D cT s.heap.size ad2 nc2 ng2 S2 P2 O2 (xs (5 * i + 1)) (xs (5 * i + 2)) (xs (5 * i + 3)) (xs (5 * i + 4))) (cwV 4 hts gL_law_X6_setGame rfl rfl rfl (by decide +kernel) ⟨Nat.le_of_ble_eq_true rfl, Nat.le_of_ble_eq_true rfl⟩) (cf_preV (T := TX6) (N := 24) hT hS hW cf_e6 rfl) rfl rfl hl.1 rfl (lv_room (Nat.le_of_ble_eq_true rfl)) dL_law_199 ⟨(by show _ ≤ 765407; omega), (by show _ ≤ 6799882; omega)⟩) hS (fun _ _ h => h) (fun _ h => h) (fun T9 t9 H locs ht hvm hw2 hW hz1 hk1 hS => ?_)
  have hW := cf_W.er ht hW
  have hsim := cf_sim_setGame (v2 := 0) hR hw hw2
  refine lv_aload_n hx hb dL_law_202 rfl (lv_at hl 3 rfl) ?_
  refine va_calli (va_runV (As := []) (rest := []) ⟨hx, hb, hml, hown, hts⟩ (c_X6_thrown l D cT s.heap.size ad2 nc2 ng2 T9 P2 O2) (cwV 0 hts gL_law_X6_thrown rfl rfl rfl (by decide +kernel) ⟨Nat.le_of_ble_eq_true rfl, Nat.le_of_ble_eq_true rfl⟩) (cf_preV (T := TX6) (N := 24) hT hS hW cf_e6 rfl) rfl rfl hl.1 rfl (lv_room (Nat.le_of_ble_eq_true rfl)) dL_law_203 ⟨(by show _ ≤ 765407; omega), (by show _ ≤ 6799882; omega)⟩) hS (fun _ _ h => h) (fun _ h => h) (fun r3 u3 t9 H locs ht hvm hw3 hW hz1 hk1 hS => ?_)
  have hW := cf_W.er ht hW
  have hW : cf_W D s.heap.size (cf_E cT nc2 ng2 T9 P2 O2 ad2) ad2 H := hW
  have e3 : r3 = k1 := hw3.trans hsim.1
  refine lv_iload hx hb dL_law_206 (lv_at hl 0 rfl) ?_
  refine lv_icmp_eq (tgt := 213) hx hb dL_law_208 (by decide) (fun c208_1 => ?_) (fun c208_1 => (by first | exact absurd e3 c208_1 | exact absurd c208_1 e3))
  refine lv_goto (tgt := 1580) hx hb dL_law_213 (by decide) ?_
  refine lv_iinc (v := (nI (5 * (i + 1)))) (lv' := [(4, .int (nI (5 * (i + 1)))), (5, .int k1), (3, .ref (ad2 18 0)), (2, .ref (ad2 6 0)), (1, .ref (ad2 5 0)), (0, .ref b)]) hx hb dL_law_1580 hl (k := 1) rfl (cf_5s i) (by decide) rfl (fun ls hl => ?_)
  refine lv_goto (tgt := 23) hx hb dL_law_1583 (by decide) ?_
  refine W.widen (k := 60 + (i + 1) * 4) (n := 800 + (i + 1) * 24) (by omega) (by omega) ?_
  exact ih _ _ _ (nc2, ng2, T9, P2, O2, ad2) ⟨hW, hS, by rw [← hag3 5 (by simp), ← hag3 6 (by simp), ← hag3 18 (by simp)]; exact lv_sub hl [0, 2, 3, 4, 5] rfl, hsim.2, hag3⟩

set_option maxHeartbeats 4000000 in
set_option maxRecDepth 100000 in
theorem cf_case_setParts (l : Launch) (hl0 : l.stackTraces = false) {p : Program} {e : Env} {s : State} {m : MethodId} {below : List Frame} {meth : Method} {c : Code} {b L : Nat} {xs : Nat → Int32} (hL : L ≤ 2560) (C0 : lw_At p s m meth c b L xs) {D : va_G} {cT : Nat → ClassId} (hT : cf_Tb D cT s.heap.size s s.heap) {ad0 : cf_Ad} {i : Nat} (hi : i < L / 5) {H : Heap} {locs : List Loc} {ls : Array Slot} {u : cf_St} (hI : cf_LI D cT s b ad0 i H locs ls u) (ih : ∀ (H2 : Heap) (locs2 : List Loc) (ls2 : Array Slot) (u2 : cf_St), cf_LI D cT s b ad0 (i + 1) H2 locs2 ls2 u2 → W p l e room_1 s m #[Value.ref b] below meth c H2 locs2 (60 + (i + 1) * 4) (800 + (i + 1) * 24) (lw_Z below #[Value.ref b] s) (F0 m 23 ls2 [])) : W p l e room_1 s m #[Value.ref b] below meth c H locs (60 + i * 4) (800 + i * 24) (lw_Z below #[Value.ref b] s) (F0 m 216 ls []) := by
  obtain ⟨hx, hb, hr, hml, hown, hts0, hX, hbl, hlocks, hgv⟩ := id C0
  have hts : ∀ w ∈ wsL_law, w.before #[Value.ref b] s = true := fun w h => hts0 w (wsL_law_in w h)
  have hbA : ¬ s.heap.size ≤ b := Nat.not_le.mpr hbl
  obtain ⟨nc, ng, S, P, O, ad⟩ := u
  obtain ⟨hW, hS, hl, hR, hag⟩ := hI
  have hW : cf_W D s.heap.size (cf_E cT nc ng S P O ad) ad H := hW
  have hR : cf_R i nc ng S P := hR
  have hag : ∀ k, k = 5 ∨ k = 6 ∨ k = 17 ∨ k = 18 → ad k 0 = ad0 k 0 := hag
  have hl : lv_has ls 7 [(4, .int (nI (5 * i))), (3, .ref (ad 18 0)), (2, .ref (ad 6 0)), (1, .ref (ad 5 0)), (0, .ref b)] := by rw [hag 5 (by simp), hag 6 (by simp), hag 18 (by simp)]; exact hl
  refine lv_aload_n hx hb dL_law_216 rfl (lv_at hl 3 rfl) ?_
  refine lv_aload_n hx hb dL_law_217 rfl (lv_at hl 4 rfl) ?_
  refine lv_iload hx hb dL_law_218 (lv_at hl 0 rfl) ?_
  refine lv_iconst (v := 1) hx hb dL_law_220 (by decide) ?_
  refine lv_iadd hx hb dL_law_221 ?_
  refine cf_sld hx hb hX hbl hbA hS (5 * i + 1) (cf_5k 1) (by omega) (by omega) dL_law_222 ?_
  refine lv_aload_n hx hb dL_law_223 rfl (lv_at hl 4 rfl) ?_
  refine lv_iload hx hb dL_law_224 (lv_at hl 0 rfl) ?_
  refine lv_iconst (v := 2) hx hb dL_law_226 (by decide) ?_
  refine lv_iadd hx hb dL_law_227 ?_
  refine cf_sld hx hb hX hbl hbA hS (5 * i + 2) (cf_5k 2) (by omega) (by omega) dL_law_228 ?_
  refine lv_aload_n hx hb dL_law_229 rfl (lv_at hl 4 rfl) ?_
  refine lv_iload hx hb dL_law_230 (lv_at hl 0 rfl) ?_
  refine lv_iconst (v := 3) hx hb dL_law_232 (by decide) ?_
  refine lv_iadd hx hb dL_law_233 ?_
  refine cf_sld hx hb hX hbl hbA hS (5 * i + 3) (cf_5k 3) (by omega) (by omega) dL_law_234 ?_
  refine lv_aload_n hx hb dL_law_235 rfl (lv_at hl 4 rfl) ?_
  refine lv_iload hx hb dL_law_236 (lv_at hl 0 rfl) ?_
  refine lv_iconst (v := 4) hx hb dL_law_238 (by decide) ?_
  refine lv_iadd hx hb dL_law_239 ?_
  refine cf_sld hx hb hX hbl hbA hS (5 * i + 4) (cf_5k 4) (by omega) (by omega) dL_law_240 ?_
  refine vx_calli (vx_runSX (As := [.ref (ad 5 0), .int (xs (5 * i + 1)), .int (xs (5 * i + 2)), .int (xs (5 * i + 3)), .int (xs (5 * i + 4))]) (rest := []) ⟨hx, hb, hml, hown, hts⟩ (c_L_setParts l D cT s.heap.size ad nc ng S P O hl0 (xs (5 * i + 1)) (xs (5 * i + 2)) (xs (5 * i + 3)) (xs (5 * i + 4))) (vx_cwSW 5 hts gL_law_L_setParts rfl rfl rfl (by decide +kernel) ⟨Nat.le_of_ble_eq_true rfl, Nat.le_of_ble_eq_true rfl⟩) (cf_preS hT hS hW) rfl rfl hl.1 rfl (lv_room (Nat.le_of_ble_eq_true rfl)) dL_law_241 ⟨(by show _ ≤ 765407; omega), (by show _ ≤ 6799882; omega)⟩) hS (fun _ _ h => h) (fun _ h => h) (fun _ _ h => h) (fun E9 ce q9 u9 t9 H locs ht hvm hu hB hz1 hk1 hS hce hcv hcl => absurd hB.1 id) (fun k1 u1 t9 H locs ht hvm hw hW hz1 hk1 hS => ?_)
  have hW9 := cf_W.er ht hW
  have hpre := cf_pre_setParts hR hw
  refine lv_istore (lv' := [(5, .int k1), (4, .int (nI (5 * i))), (3, .ref (ad 18 0)), (2, .ref (ad 6 0)), (1, .ref (ad 5 0)), (0, .ref b)]) hx hb dL_law_244 hl (by decide) rfl (fun ls hl => ?_)
  obtain ⟨hu1, hu2, hag2, hH⟩ := hpre
  obtain ⟨nc2, ng2, S2, P2, O2, ad2⟩ := u1
  have hu1 : nc2 = nc := hu1
  subst hu1
  have hu2 : ng2 = ng := hu2
  subst hu2
  have hW : cf_W D s.heap.size (cf_E cT nc2 ng2 S2 P2 O2 ad2) ad2 H := hW9
  have hag2 : ∀ k, k = 5 ∨ k = 6 ∨ k = 17 ∨ k = 18 → ad2 k 0 = ad k 0 := hag2
  have hH : cf_H nc2 ng2 S2 P2 P := hH
  have hl : lv_has ls 7 [(5, .int k1), (4, .int (nI (5 * i))), (3, .ref (ad2 18 0)), (2, .ref (ad2 6 0)), (1, .ref (ad2 5 0)), (0, .ref b)] := by rw [hag2 5 (by simp), hag2 6 (by simp), hag2 18 (by simp)]; exact hl
  have hag3 : ∀ k, k = 5 ∨ k = 6 ∨ k = 17 ∨ k = 18 → ad2 k 0 = ad0 k 0 := fun k hk => (hag2 k hk).trans (hag k hk)
  refine lv_aload_n hx hb dL_law_246 rfl (lv_at hl 3 rfl) ?_
  refine lv_aload_n hx hb dL_law_247 rfl (lv_at hl 5 rfl) ?_
  refine lv_iload hx hb dL_law_248 (lv_at hl 1 rfl) ?_
  refine lv_iconst (v := 1) hx hb dL_law_250 (by decide) ?_
  refine lv_iadd hx hb dL_law_251 ?_
  refine cf_sld hx hb hX hbl hbA hS (5 * i + 1) (cf_5k 1) (by omega) (by omega) dL_law_252 ?_
  refine lv_aload_n hx hb dL_law_253 rfl (lv_at hl 5 rfl) ?_
  refine lv_iload hx hb dL_law_254 (lv_at hl 1 rfl) ?_
  refine lv_iconst (v := 2) hx hb dL_law_256 (by decide) ?_
  refine lv_iadd hx hb dL_law_257 ?_
  refine cf_sld hx hb hX hbl hbA hS (5 * i + 2) (cf_5k 2) (by omega) (by omega) dL_law_258 ?_
  refine lv_aload_n hx hb dL_law_259 rfl (lv_at hl 5 rfl) ?_
  refine lv_iload hx hb dL_law_260 (lv_at hl 1 rfl) ?_
  refine lv_iconst (v := 3) hx hb dL_law_262 (by decide) ?_
  refine lv_iadd hx hb dL_law_263 ?_
  refine cf_sld hx hb hX hbl hbA hS (5 * i + 3) (cf_5k 3) (by omega) (by omega) dL_law_264 ?_
  refine lv_aload_n hx hb dL_law_265 rfl (lv_at hl 5 rfl) ?_
  refine lv_iload hx hb dL_law_266 (lv_at hl 1 rfl) ?_
  refine lv_iconst (v := 4) hx hb dL_law_268 (by decide) ?_
  refine lv_iadd hx hb dL_law_269 ?_
  refine cf_sld hx hb hX hbl hbA hS (5 * i + 4) (cf_5k 4) (by omega) (by omega) dL_law_270 ?_
  refine va_callv (va_runV (As := [.int (xs (5 * i + 1)), .int (xs (5 * i + 2)), .int (xs (5 * i + 3)), .int (xs (5 * i + 4))]) (rest := []) ⟨hx, hb, hml, hown, hts⟩ (c_X6_setParts l D cT s.heap.size ad2 nc2 ng2 S2 P2 O2 (xs (5 * i + 1)) (xs (5 * i + 2)) (xs (5 * i + 3)) (xs (5 * i + 4))) (cwV 4 hts gL_law_X6_setParts rfl rfl rfl (by decide +kernel) ⟨Nat.le_of_ble_eq_true rfl, Nat.le_of_ble_eq_true rfl⟩) (cf_preV (T := TX6) (N := 24) hT hS hW cf_e6 rfl) rfl rfl hl.1 rfl (lv_room (Nat.le_of_ble_eq_true rfl)) dL_law_271 ⟨(by show _ ≤ 765407; omega), (by show _ ≤ 6799882; omega)⟩) hS (fun _ _ h => h) (fun _ h => h) (fun T9 t9 H locs ht hvm hw2 hW hz1 hk1 hS => ?_)
  have hW := cf_W.er ht hW
  have hsim := cf_sim_setParts (v2 := 0) hR hw hw2
  refine lv_aload_n hx hb dL_law_274 rfl (lv_at hl 3 rfl) ?_
  refine va_calli (va_runV (As := []) (rest := []) ⟨hx, hb, hml, hown, hts⟩ (c_X6_thrown l D cT s.heap.size ad2 nc2 ng2 T9 P2 O2) (cwV 0 hts gL_law_X6_thrown rfl rfl rfl (by decide +kernel) ⟨Nat.le_of_ble_eq_true rfl, Nat.le_of_ble_eq_true rfl⟩) (cf_preV (T := TX6) (N := 24) hT hS hW cf_e6 rfl) rfl rfl hl.1 rfl (lv_room (Nat.le_of_ble_eq_true rfl)) dL_law_275 ⟨(by show _ ≤ 765407; omega), (by show _ ≤ 6799882; omega)⟩) hS (fun _ _ h => h) (fun _ h => h) (fun r3 u3 t9 H locs ht hvm hw3 hW hz1 hk1 hS => ?_)
  have hW := cf_W.er ht hW
  have hW : cf_W D s.heap.size (cf_E cT nc2 ng2 T9 P2 O2 ad2) ad2 H := hW
  have e3 : r3 = k1 := hw3.trans hsim.1
  refine lv_iload hx hb dL_law_278 (lv_at hl 0 rfl) ?_
  refine lv_icmp_eq (tgt := 285) hx hb dL_law_280 (by decide) (fun c280_1 => ?_) (fun c280_1 => (by first | exact absurd e3 c280_1 | exact absurd c280_1 e3))
  refine lv_goto (tgt := 1580) hx hb dL_law_285 (by decide) ?_
  refine lv_iinc (v := (nI (5 * (i + 1)))) (lv' := [(4, .int (nI (5 * (i + 1)))), (5, .int k1), (3, .ref (ad2 18 0)), (2, .ref (ad2 6 0)), (1, .ref (ad2 5 0)), (0, .ref b)]) hx hb dL_law_1580 hl (k := 1) rfl (cf_5s i) (by decide) rfl (fun ls hl => ?_)
  refine lv_goto (tgt := 23) hx hb dL_law_1583 (by decide) ?_
  refine W.widen (k := 60 + (i + 1) * 4) (n := 800 + (i + 1) * 24) (by omega) (by omega) ?_
  exact ih _ _ _ (nc2, ng2, T9, P2, O2, ad2) ⟨hW, hS, by rw [← hag3 5 (by simp), ← hag3 6 (by simp), ← hag3 18 (by simp)]; exact lv_sub hl [0, 2, 3, 4, 5] rfl, hsim.2, hag3⟩

set_option maxHeartbeats 4000000 in
set_option maxRecDepth 100000 in
theorem cf_case_setSeats (l : Launch) (hl0 : l.stackTraces = false) {p : Program} {e : Env} {s : State} {m : MethodId} {below : List Frame} {meth : Method} {c : Code} {b L : Nat} {xs : Nat → Int32} (hL : L ≤ 2560) (C0 : lw_At p s m meth c b L xs) {D : va_G} {cT : Nat → ClassId} (hT : cf_Tb D cT s.heap.size s s.heap) {ad0 : cf_Ad} {i : Nat} (hi : i < L / 5) {H : Heap} {locs : List Loc} {ls : Array Slot} {u : cf_St} (hI : cf_LI D cT s b ad0 i H locs ls u) (ih : ∀ (H2 : Heap) (locs2 : List Loc) (ls2 : Array Slot) (u2 : cf_St), cf_LI D cT s b ad0 (i + 1) H2 locs2 ls2 u2 → W p l e room_1 s m #[Value.ref b] below meth c H2 locs2 (60 + (i + 1) * 4) (800 + (i + 1) * 24) (lw_Z below #[Value.ref b] s) (F0 m 23 ls2 [])) : W p l e room_1 s m #[Value.ref b] below meth c H locs (60 + i * 4) (800 + i * 24) (lw_Z below #[Value.ref b] s) (F0 m 288 ls []) := by
  obtain ⟨hx, hb, hr, hml, hown, hts0, hX, hbl, hlocks, hgv⟩ := id C0
  have hts : ∀ w ∈ wsL_law, w.before #[Value.ref b] s = true := fun w h => hts0 w (wsL_law_in w h)
  have hbA : ¬ s.heap.size ≤ b := Nat.not_le.mpr hbl
  obtain ⟨nc, ng, S, P, O, ad⟩ := u
  obtain ⟨hW, hS, hl, hR, hag⟩ := hI
  have hW : cf_W D s.heap.size (cf_E cT nc ng S P O ad) ad H := hW
  have hR : cf_R i nc ng S P := hR
  have hag : ∀ k, k = 5 ∨ k = 6 ∨ k = 17 ∨ k = 18 → ad k 0 = ad0 k 0 := hag
  have hl : lv_has ls 7 [(4, .int (nI (5 * i))), (3, .ref (ad 18 0)), (2, .ref (ad 6 0)), (1, .ref (ad 5 0)), (0, .ref b)] := by rw [hag 5 (by simp), hag 6 (by simp), hag 18 (by simp)]; exact hl
  refine lv_aload_n hx hb dL_law_288 rfl (lv_at hl 3 rfl) ?_
  refine lv_aload_n hx hb dL_law_289 rfl (lv_at hl 4 rfl) ?_
  refine lv_iload hx hb dL_law_290 (lv_at hl 0 rfl) ?_
  refine lv_iconst (v := 1) hx hb dL_law_292 (by decide) ?_
  refine lv_iadd hx hb dL_law_293 ?_
  refine cf_sld hx hb hX hbl hbA hS (5 * i + 1) (cf_5k 1) (by omega) (by omega) dL_law_294 ?_
  refine lv_aload_n hx hb dL_law_295 rfl (lv_at hl 4 rfl) ?_
  refine lv_iload hx hb dL_law_296 (lv_at hl 0 rfl) ?_
  refine lv_iconst (v := 2) hx hb dL_law_298 (by decide) ?_
  refine lv_iadd hx hb dL_law_299 ?_
  refine cf_sld hx hb hX hbl hbA hS (5 * i + 2) (cf_5k 2) (by omega) (by omega) dL_law_300 ?_
  refine lv_aload_n hx hb dL_law_301 rfl (lv_at hl 1 rfl) ?_
  refine vx_calli (vx_runSX (As := [.ref (ad 5 0), .int (xs (5 * i + 1)), .int (xs (5 * i + 2)), .ref (ad 18 0)]) (rest := []) ⟨hx, hb, hml, hown, hts⟩ (c_L_setSeats l D cT s.heap.size ad nc ng S P O hl0 (xs (5 * i + 1)) (xs (5 * i + 2))) (vx_cwSW 4 hts gL_law_L_setSeats rfl rfl rfl (by decide +kernel) ⟨Nat.le_of_ble_eq_true rfl, Nat.le_of_ble_eq_true rfl⟩) (cf_preS hT hS hW) rfl rfl hl.1 rfl (lv_room (Nat.le_of_ble_eq_true rfl)) dL_law_302 ⟨(by show _ ≤ 765407; omega), (by show _ ≤ 6799882; omega)⟩) hS (fun _ _ h => h) (fun _ h => h) (fun _ _ h => h) (fun E9 ce q9 u9 t9 H locs ht hvm hu hB hz1 hk1 hS hce hcv hcl => absurd hB.1 id) (fun k1 u1 t9 H locs ht hvm hw hW hz1 hk1 hS => ?_)
  have hW9 := cf_W.er ht hW
  have hpre := cf_pre_setSeats hR hw
  refine lv_istore (lv' := [(5, .int k1), (4, .int (nI (5 * i))), (3, .ref (ad 18 0)), (2, .ref (ad 6 0)), (1, .ref (ad 5 0)), (0, .ref b)]) hx hb dL_law_305 hl (by decide) rfl (fun ls hl => ?_)
  obtain ⟨hu1, hu2, hag2, hH⟩ := hpre
  obtain ⟨nc2, ng2, S2, P2, O2, ad2⟩ := u1
  have hu1 : nc2 = nc := hu1
  subst hu1
  have hu2 : ng2 = ng := hu2
  subst hu2
  have hW : cf_W D s.heap.size (cf_E cT nc2 ng2 S2 P2 O2 ad2) ad2 H := hW9
  have hag2 : ∀ k, k = 5 ∨ k = 6 ∨ k = 17 ∨ k = 18 → ad2 k 0 = ad k 0 := hag2
  have hH : cf_H nc2 ng2 S2 P2 P := hH
  have hl : lv_has ls 7 [(5, .int k1), (4, .int (nI (5 * i))), (3, .ref (ad2 18 0)), (2, .ref (ad2 6 0)), (1, .ref (ad2 5 0)), (0, .ref b)] := by rw [hag2 5 (by simp), hag2 6 (by simp), hag2 18 (by simp)]; exact hl
  have hag3 : ∀ k, k = 5 ∨ k = 6 ∨ k = 17 ∨ k = 18 → ad2 k 0 = ad0 k 0 := fun k hk => (hag2 k hk).trans (hag k hk)
  refine lv_aload_n hx hb dL_law_307 rfl (lv_at hl 3 rfl) ?_
  refine lv_aload_n hx hb dL_law_308 rfl (lv_at hl 5 rfl) ?_
  refine lv_iload hx hb dL_law_309 (lv_at hl 1 rfl) ?_
  refine lv_iconst (v := 1) hx hb dL_law_311 (by decide) ?_
  refine lv_iadd hx hb dL_law_312 ?_
  refine cf_sld hx hb hX hbl hbA hS (5 * i + 1) (cf_5k 1) (by omega) (by omega) dL_law_313 ?_
  refine lv_aload_n hx hb dL_law_314 rfl (lv_at hl 5 rfl) ?_
  refine lv_iload hx hb dL_law_315 (lv_at hl 1 rfl) ?_
  refine lv_iconst (v := 2) hx hb dL_law_317 (by decide) ?_
  refine lv_iadd hx hb dL_law_318 ?_
  refine cf_sld hx hb hX hbl hbA hS (5 * i + 2) (cf_5k 2) (by omega) (by omega) dL_law_319 ?_
  refine va_calli (va_runV (As := [.int (xs (5 * i + 1)), .int (xs (5 * i + 2))]) (rest := []) ⟨hx, hb, hml, hown, hts⟩ (c_X6_setSeats l D cT s.heap.size ad2 nc2 ng2 S2 P2 O2 (xs (5 * i + 1)) (xs (5 * i + 2))) (cwV 2 hts gL_law_X6_setSeats rfl rfl rfl (by decide +kernel) ⟨Nat.le_of_ble_eq_true rfl, Nat.le_of_ble_eq_true rfl⟩) (cf_preV (T := TX6) (N := 24) hT hS hW cf_e6 rfl) rfl rfl hl.1 rfl (lv_room (Nat.le_of_ble_eq_true rfl)) dL_law_320 ⟨(by show _ ≤ 765407; omega), (by show _ ≤ 6799882; omega)⟩) hS (fun _ _ h => h) (fun _ h => h) (fun v2 T9 t9 H locs ht hvm hw2 hW hz1 hk1 hS => ?_)
  have hW := cf_W.er ht hW
  have hsim := cf_sim_setSeats hR hw hw2
  refine lv_istore (lv' := [(6, .int v2), (5, .int k1), (4, .int (nI (5 * i))), (3, .ref (ad2 18 0)), (2, .ref (ad2 6 0)), (1, .ref (ad2 5 0)), (0, .ref b)]) hx hb dL_law_323 hl (by decide) rfl (fun ls hl => ?_)
  refine lv_aload_n hx hb dL_law_325 rfl (lv_at hl 4 rfl) ?_
  refine va_calli (va_runV (As := []) (rest := []) ⟨hx, hb, hml, hown, hts⟩ (c_X6_thrown l D cT s.heap.size ad2 nc2 ng2 T9 P2 O2) (cwV 0 hts gL_law_X6_thrown rfl rfl rfl (by decide +kernel) ⟨Nat.le_of_ble_eq_true rfl, Nat.le_of_ble_eq_true rfl⟩) (cf_preV (T := TX6) (N := 24) hT hS hW cf_e6 rfl) rfl rfl hl.1 rfl (lv_room (Nat.le_of_ble_eq_true rfl)) dL_law_326 ⟨(by show _ ≤ 765407; omega), (by show _ ≤ 6799882; omega)⟩) hS (fun _ _ h => h) (fun _ h => h) (fun r3 u3 t9 H locs ht hvm hw3 hW hz1 hk1 hS => ?_)
  have hW := cf_W.er ht hW
  have hW : cf_W D s.heap.size (cf_E cT nc2 ng2 T9 P2 O2 ad2) ad2 H := hW
  have e3 : r3 = k1 := hw3.trans hsim.1
  refine lv_iload hx hb dL_law_329 (lv_at hl 1 rfl) ?_
  refine lv_icmp_eq (tgt := 336) hx hb dL_law_331 (by decide) (fun c331_1 => ?_) (fun c331_1 => (by first | exact absurd e3 c331_1 | exact absurd c331_1 e3))
  refine lv_iload hx hb dL_law_336 (lv_at hl 1 rfl) ?_
  refine lv_if_ne (tgt := 353) hx hb dL_law_338 (by decide) (fun c338_2 => ?_) (fun c338_2 => ?_)
  · refine lv_goto (tgt := 1580) hx hb dL_law_353 (by decide) ?_
    refine lv_iinc (v := (nI (5 * (i + 1)))) (lv' := [(4, .int (nI (5 * (i + 1)))), (6, .int v2), (5, .int k1), (3, .ref (ad2 18 0)), (2, .ref (ad2 6 0)), (1, .ref (ad2 5 0)), (0, .ref b)]) hx hb dL_law_1580 hl (k := 2) rfl (cf_5s i) (by decide) rfl (fun ls hl => ?_)
    refine lv_goto (tgt := 23) hx hb dL_law_1583 (by decide) ?_
    refine W.widen (k := 60 + (i + 1) * 4) (n := 800 + (i + 1) * 24) (by omega) (by omega) ?_
    exact ih _ _ _ (nc2, ng2, T9, P2, O2, ad2) ⟨hW, hS, by rw [← hag3 5 (by simp), ← hag3 6 (by simp), ← hag3 18 (by simp)]; exact lv_sub hl [0, 3, 4, 5, 6] rfl, hsim.2.2, hag3⟩
  · have hval := hsim.2.1 c338_2
    refine lv_aload_n hx hb dL_law_341 rfl (lv_at hl 3 rfl) ?_
    refine lv_iconst (v := 0) hx hb dL_law_342 (by decide) ?_
    refine cf_lald (k := 18) (i := 0) (ad := ad2) hx hb hT.1 hW 2 cf_e18 rfl (show vp_in 0 1 from vp_in_nI (show (0 : Nat) < 1 by decide) (by decide)) dL_law_343 ?_
    refine lv_iload hx hb dL_law_344 (lv_at hl 0 rfl) ?_
    refine lv_i2l (v := v2.toInt64) hx hb dL_law_346 rfl ?_
    refine W.lcmp hx hb dL_law_347 ?_
    have ec : lg_cmp (O2 0) v2.toInt64 = 0 := by rw [show O2 0 = v2.toInt64 from hval]; simp [lg_cmp]
    refine lv_if_eq (tgt := 353) hx hb dL_law_348 (by decide) (fun c348_3 => ?_) (fun c348_3 => (by first | exact absurd ec c348_3 | exact absurd c348_3 ec))
    refine lv_goto (tgt := 1580) hx hb dL_law_353 (by decide) ?_
    refine lv_iinc (v := (nI (5 * (i + 1)))) (lv' := [(4, .int (nI (5 * (i + 1)))), (6, .int v2), (5, .int k1), (3, .ref (ad2 18 0)), (2, .ref (ad2 6 0)), (1, .ref (ad2 5 0)), (0, .ref b)]) hx hb dL_law_1580 hl (k := 2) rfl (cf_5s i) (by decide) rfl (fun ls hl => ?_)
    refine lv_goto (tgt := 23) hx hb dL_law_1583 (by decide) ?_
    refine W.widen (k := 60 + (i + 1) * 4) (n := 800 + (i + 1) * 24) (by omega) (by omega) ?_
    exact ih _ _ _ (nc2, ng2, T9, P2, O2, ad2) ⟨hW, hS, by rw [← hag3 5 (by simp), ← hag3 6 (by simp), ← hag3 18 (by simp)]; exact lv_sub hl [0, 3, 4, 5, 6] rfl, hsim.2.2, hag3⟩

set_option maxHeartbeats 4000000 in
set_option maxRecDepth 100000 in
theorem cf_case_buy (l : Launch) (hl0 : l.stackTraces = false) {p : Program} {e : Env} {s : State} {m : MethodId} {below : List Frame} {meth : Method} {c : Code} {b L : Nat} {xs : Nat → Int32} (hL : L ≤ 2560) (C0 : lw_At p s m meth c b L xs) {D : va_G} {cT : Nat → ClassId} (hT : cf_Tb D cT s.heap.size s s.heap) {ad0 : cf_Ad} {i : Nat} (hi : i < L / 5) {H : Heap} {locs : List Loc} {ls : Array Slot} {u : cf_St} (hI : cf_LI D cT s b ad0 i H locs ls u) (ih : ∀ (H2 : Heap) (locs2 : List Loc) (ls2 : Array Slot) (u2 : cf_St), cf_LI D cT s b ad0 (i + 1) H2 locs2 ls2 u2 → W p l e room_1 s m #[Value.ref b] below meth c H2 locs2 (60 + (i + 1) * 4) (800 + (i + 1) * 24) (lw_Z below #[Value.ref b] s) (F0 m 23 ls2 [])) : W p l e room_1 s m #[Value.ref b] below meth c H locs (60 + i * 4) (800 + i * 24) (lw_Z below #[Value.ref b] s) (F0 m 459 ls []) := by
  obtain ⟨hx, hb, hr, hml, hown, hts0, hX, hbl, hlocks, hgv⟩ := id C0
  have hts : ∀ w ∈ wsL_law, w.before #[Value.ref b] s = true := fun w h => hts0 w (wsL_law_in w h)
  have hbA : ¬ s.heap.size ≤ b := Nat.not_le.mpr hbl
  obtain ⟨nc, ng, S, P, O, ad⟩ := u
  obtain ⟨hW, hS, hl, hR, hag⟩ := hI
  have hW : cf_W D s.heap.size (cf_E cT nc ng S P O ad) ad H := hW
  have hR : cf_R i nc ng S P := hR
  have hag : ∀ k, k = 5 ∨ k = 6 ∨ k = 17 ∨ k = 18 → ad k 0 = ad0 k 0 := hag
  have hl : lv_has ls 7 [(4, .int (nI (5 * i))), (3, .ref (ad 18 0)), (2, .ref (ad 6 0)), (1, .ref (ad 5 0)), (0, .ref b)] := by rw [hag 5 (by simp), hag 6 (by simp), hag 18 (by simp)]; exact hl
  refine lv_aload_n hx hb dL_law_459 rfl (lv_at hl 3 rfl) ?_
  refine lv_aload_n hx hb dL_law_460 rfl (lv_at hl 4 rfl) ?_
  refine lv_iload hx hb dL_law_461 (lv_at hl 0 rfl) ?_
  refine lv_iconst (v := 1) hx hb dL_law_463 (by decide) ?_
  refine lv_iadd hx hb dL_law_464 ?_
  refine cf_sld hx hb hX hbl hbA hS (5 * i + 1) (cf_5k 1) (by omega) (by omega) dL_law_465 ?_
  refine lv_aload_n hx hb dL_law_466 rfl (lv_at hl 1 rfl) ?_
  refine vx_calli (vx_runSX (As := [.ref (ad 5 0), .int (xs (5 * i + 1)), .ref (ad 18 0)]) (rest := []) ⟨hx, hb, hml, hown, hts⟩ (c_L_buy l D cT s.heap.size ad nc ng S P O hl0 (xs (5 * i + 1)) hR.1.2.2.1 hR.1.1 hR.O hR.L hR.B) (vx_cwSW 3 hts gL_law_L_buy rfl rfl rfl (by decide +kernel) ⟨Nat.le_of_ble_eq_true rfl, Nat.le_of_ble_eq_true rfl⟩) (cf_preS hT hS hW) rfl rfl hl.1 rfl (lv_room (Nat.le_of_ble_eq_true rfl)) dL_law_467 ⟨(by show _ ≤ 765407; omega), (by show _ ≤ 6799882; omega)⟩) hS (fun _ _ h => h) (fun _ h => h) (fun _ _ h => h) (fun E9 ce q9 u9 t9 H locs ht hvm hu hB hz1 hk1 hS hce hcv hcl => absurd hB.1 id) (fun k1 u1 t9 H locs ht hvm hw hW hz1 hk1 hS => ?_)
  have hW9 := cf_W.er ht hW
  have hpre := cf_pre_buy hR hw
  refine lv_istore (lv' := [(5, .int k1), (4, .int (nI (5 * i))), (3, .ref (ad 18 0)), (2, .ref (ad 6 0)), (1, .ref (ad 5 0)), (0, .ref b)]) hx hb dL_law_470 hl (by decide) rfl (fun ls hl => ?_)
  obtain ⟨-, hu2, hag2, hH⟩ := hpre
  obtain ⟨nc2, ng2, S2, P2, O2, ad2⟩ := u1
  have hu2 : ng2 = ng := hu2
  subst hu2
  have hW : cf_W D s.heap.size (cf_E cT nc2 ng2 S2 P2 O2 ad2) ad2 H := hW9
  have hag2 : ∀ k, k = 5 ∨ k = 6 ∨ k = 17 ∨ k = 18 → ad2 k 0 = ad k 0 := hag2
  have hH : S2 6 0 11 = nI nc := hH
  have hl : lv_has ls 7 [(5, .int k1), (4, .int (nI (5 * i))), (3, .ref (ad2 18 0)), (2, .ref (ad2 6 0)), (1, .ref (ad2 5 0)), (0, .ref b)] := by rw [hag2 5 (by simp), hag2 6 (by simp), hag2 18 (by simp)]; exact hl
  have hag3 : ∀ k, k = 5 ∨ k = 6 ∨ k = 17 ∨ k = 18 → ad2 k 0 = ad0 k 0 := fun k hk => (hag2 k hk).trans (hag k hk)
  refine lv_aload_n hx hb dL_law_472 rfl (lv_at hl 3 rfl) ?_
  refine lv_aload_n hx hb dL_law_473 rfl (lv_at hl 5 rfl) ?_
  refine lv_iload hx hb dL_law_474 (lv_at hl 1 rfl) ?_
  refine lv_iconst (v := 1) hx hb dL_law_476 (by decide) ?_
  refine lv_iadd hx hb dL_law_477 ?_
  refine cf_sld hx hb hX hbl hbA hS (5 * i + 1) (cf_5k 1) (by omega) (by omega) dL_law_478 ?_
  refine va_calli (va_runV (As := [.int (xs (5 * i + 1))]) (rest := []) ⟨hx, hb, hml, hown, hts⟩ (c_X6_buy l D cT s.heap.size ad2 nc2 ng2 S2 P2 O2 (xs (5 * i + 1)) nc hH hR.1.1) (cwV 1 hts gL_law_X6_buy rfl rfl rfl (by decide +kernel) ⟨Nat.le_of_ble_eq_true rfl, Nat.le_of_ble_eq_true rfl⟩) (cf_preV (T := TX6) (N := 24) hT hS hW cf_e6 rfl) rfl rfl hl.1 rfl (lv_room (Nat.le_of_ble_eq_true rfl)) dL_law_479 ⟨(by show _ ≤ 765407; omega), (by show _ ≤ 6799882; omega)⟩) hS (fun _ _ h => h) (fun _ h => h) (fun v2 T9 t9 H locs ht hvm hw2 hW hz1 hk1 hS => ?_)
  have hW := cf_W.er ht hW
  have hsim := cf_sim_buy hR hw hw2
  refine lv_istore (lv' := [(6, .int v2), (5, .int k1), (4, .int (nI (5 * i))), (3, .ref (ad2 18 0)), (2, .ref (ad2 6 0)), (1, .ref (ad2 5 0)), (0, .ref b)]) hx hb dL_law_482 hl (by decide) rfl (fun ls hl => ?_)
  refine lv_aload_n hx hb dL_law_484 rfl (lv_at hl 4 rfl) ?_
  refine va_calli (va_runV (As := []) (rest := []) ⟨hx, hb, hml, hown, hts⟩ (c_X6_thrown l D cT s.heap.size ad2 nc2 ng2 T9 P2 O2) (cwV 0 hts gL_law_X6_thrown rfl rfl rfl (by decide +kernel) ⟨Nat.le_of_ble_eq_true rfl, Nat.le_of_ble_eq_true rfl⟩) (cf_preV (T := TX6) (N := 24) hT hS hW cf_e6 rfl) rfl rfl hl.1 rfl (lv_room (Nat.le_of_ble_eq_true rfl)) dL_law_485 ⟨(by show _ ≤ 765407; omega), (by show _ ≤ 6799882; omega)⟩) hS (fun _ _ h => h) (fun _ h => h) (fun r3 u3 t9 H locs ht hvm hw3 hW hz1 hk1 hS => ?_)
  have hW := cf_W.er ht hW
  have hW : cf_W D s.heap.size (cf_E cT nc2 ng2 T9 P2 O2 ad2) ad2 H := hW
  have e3 : r3 = k1 := hw3.trans hsim.1
  refine lv_iload hx hb dL_law_488 (lv_at hl 1 rfl) ?_
  refine lv_icmp_eq (tgt := 495) hx hb dL_law_490 (by decide) (fun c490_1 => ?_) (fun c490_1 => (by first | exact absurd e3 c490_1 | exact absurd c490_1 e3))
  refine lv_iload hx hb dL_law_495 (lv_at hl 1 rfl) ?_
  refine lv_if_ne (tgt := 512) hx hb dL_law_497 (by decide) (fun c497_2 => ?_) (fun c497_2 => ?_)
  · refine lv_goto (tgt := 1580) hx hb dL_law_512 (by decide) ?_
    refine lv_iinc (v := (nI (5 * (i + 1)))) (lv' := [(4, .int (nI (5 * (i + 1)))), (6, .int v2), (5, .int k1), (3, .ref (ad2 18 0)), (2, .ref (ad2 6 0)), (1, .ref (ad2 5 0)), (0, .ref b)]) hx hb dL_law_1580 hl (k := 2) rfl (cf_5s i) (by decide) rfl (fun ls hl => ?_)
    refine lv_goto (tgt := 23) hx hb dL_law_1583 (by decide) ?_
    refine W.widen (k := 60 + (i + 1) * 4) (n := 800 + (i + 1) * 24) (by omega) (by omega) ?_
    exact ih _ _ _ (nc2, ng2, T9, P2, O2, ad2) ⟨hW, hS, by rw [← hag3 5 (by simp), ← hag3 6 (by simp), ← hag3 18 (by simp)]; exact lv_sub hl [0, 3, 4, 5, 6] rfl, hsim.2.2, hag3⟩
  · have hval := hsim.2.1 c497_2
    refine lv_aload_n hx hb dL_law_500 rfl (lv_at hl 3 rfl) ?_
    refine lv_iconst (v := 0) hx hb dL_law_501 (by decide) ?_
    refine cf_lald (k := 18) (i := 0) (ad := ad2) hx hb hT.1 hW 2 cf_e18 rfl (show vp_in 0 1 from vp_in_nI (show (0 : Nat) < 1 by decide) (by decide)) dL_law_502 ?_
    refine lv_iload hx hb dL_law_503 (lv_at hl 0 rfl) ?_
    refine lv_i2l (v := v2.toInt64) hx hb dL_law_505 rfl ?_
    refine W.lcmp hx hb dL_law_506 ?_
    have ec : lg_cmp (O2 0) v2.toInt64 = 0 := by rw [show O2 0 = v2.toInt64 from hval]; simp [lg_cmp]
    refine lv_if_eq (tgt := 512) hx hb dL_law_507 (by decide) (fun c507_3 => ?_) (fun c507_3 => (by first | exact absurd ec c507_3 | exact absurd c507_3 ec))
    refine lv_goto (tgt := 1580) hx hb dL_law_512 (by decide) ?_
    refine lv_iinc (v := (nI (5 * (i + 1)))) (lv' := [(4, .int (nI (5 * (i + 1)))), (6, .int v2), (5, .int k1), (3, .ref (ad2 18 0)), (2, .ref (ad2 6 0)), (1, .ref (ad2 5 0)), (0, .ref b)]) hx hb dL_law_1580 hl (k := 2) rfl (cf_5s i) (by decide) rfl (fun ls hl => ?_)
    refine lv_goto (tgt := 23) hx hb dL_law_1583 (by decide) ?_
    refine W.widen (k := 60 + (i + 1) * 4) (n := 800 + (i + 1) * 24) (by omega) (by omega) ?_
    exact ih _ _ _ (nc2, ng2, T9, P2, O2, ad2) ⟨hW, hS, by rw [← hag3 5 (by simp), ← hag3 6 (by simp), ← hag3 18 (by simp)]; exact lv_sub hl [0, 3, 4, 5, 6] rfl, hsim.2.2, hag3⟩

set_option maxHeartbeats 4000000 in
set_option maxRecDepth 100000 in
theorem cf_case_count (l : Launch) (hl0 : l.stackTraces = false) {p : Program} {e : Env} {s : State} {m : MethodId} {below : List Frame} {meth : Method} {c : Code} {b L : Nat} {xs : Nat → Int32} (hL : L ≤ 2560) (C0 : lw_At p s m meth c b L xs) {D : va_G} {cT : Nat → ClassId} (hT : cf_Tb D cT s.heap.size s s.heap) {ad0 : cf_Ad} {i : Nat} (hi : i < L / 5) {H : Heap} {locs : List Loc} {ls : Array Slot} {u : cf_St} (hI : cf_LI D cT s b ad0 i H locs ls u) (ih : ∀ (H2 : Heap) (locs2 : List Loc) (ls2 : Array Slot) (u2 : cf_St), cf_LI D cT s b ad0 (i + 1) H2 locs2 ls2 u2 → W p l e room_1 s m #[Value.ref b] below meth c H2 locs2 (60 + (i + 1) * 4) (800 + (i + 1) * 24) (lw_Z below #[Value.ref b] s) (F0 m 23 ls2 [])) : W p l e room_1 s m #[Value.ref b] below meth c H locs (60 + i * 4) (800 + i * 24) (lw_Z below #[Value.ref b] s) (F0 m 515 ls []) := by
  obtain ⟨hx, hb, hr, hml, hown, hts0, hX, hbl, hlocks, hgv⟩ := id C0
  have hts : ∀ w ∈ wsL_law, w.before #[Value.ref b] s = true := fun w h => hts0 w (wsL_law_in w h)
  have hbA : ¬ s.heap.size ≤ b := Nat.not_le.mpr hbl
  obtain ⟨nc, ng, S, P, O, ad⟩ := u
  obtain ⟨hW, hS, hl, hR, hag⟩ := hI
  have hW : cf_W D s.heap.size (cf_E cT nc ng S P O ad) ad H := hW
  have hR : cf_R i nc ng S P := hR
  have hag : ∀ k, k = 5 ∨ k = 6 ∨ k = 17 ∨ k = 18 → ad k 0 = ad0 k 0 := hag
  have hl : lv_has ls 7 [(4, .int (nI (5 * i))), (3, .ref (ad 18 0)), (2, .ref (ad 6 0)), (1, .ref (ad 5 0)), (0, .ref b)] := by rw [hag 5 (by simp), hag 6 (by simp), hag 18 (by simp)]; exact hl
  refine lv_aload_n hx hb dL_law_515 rfl (lv_at hl 3 rfl) ?_
  refine lv_aload_n hx hb dL_law_516 rfl (lv_at hl 4 rfl) ?_
  refine lv_iload hx hb dL_law_517 (lv_at hl 0 rfl) ?_
  refine lv_iconst (v := 1) hx hb dL_law_519 (by decide) ?_
  refine lv_iadd hx hb dL_law_520 ?_
  refine cf_sld hx hb hX hbl hbA hS (5 * i + 1) (cf_5k 1) (by omega) (by omega) dL_law_521 ?_
  refine lv_aload_n hx hb dL_law_522 rfl (lv_at hl 4 rfl) ?_
  refine lv_iload hx hb dL_law_523 (lv_at hl 0 rfl) ?_
  refine lv_iconst (v := 2) hx hb dL_law_525 (by decide) ?_
  refine lv_iadd hx hb dL_law_526 ?_
  refine cf_sld hx hb hX hbl hbA hS (5 * i + 2) (cf_5k 2) (by omega) (by omega) dL_law_527 ?_
  refine lv_aload_n hx hb dL_law_528 rfl (lv_at hl 4 rfl) ?_
  refine lv_iload hx hb dL_law_529 (lv_at hl 0 rfl) ?_
  refine lv_iconst (v := 3) hx hb dL_law_531 (by decide) ?_
  refine lv_iadd hx hb dL_law_532 ?_
  refine cf_sld hx hb hX hbl hbA hS (5 * i + 3) (cf_5k 3) (by omega) (by omega) dL_law_533 ?_
  refine lv_aload_n hx hb dL_law_534 rfl (lv_at hl 1 rfl) ?_
  refine vx_calli (vx_runSX (As := [.ref (ad 5 0), .int (xs (5 * i + 1)), .int (xs (5 * i + 2)), .int (xs (5 * i + 3)), .ref (ad 18 0)]) (rest := []) ⟨hx, hb, hml, hown, hts⟩ (c_L_count l D cT s.heap.size ad nc ng S P O hl0 (xs (5 * i + 1)) (xs (5 * i + 2)) (xs (5 * i + 3)) hR.1.1 (fun j _ => hR.O j)) (vx_cwSW 5 hts gL_law_L_count rfl rfl rfl (by decide +kernel) ⟨Nat.le_of_ble_eq_true rfl, Nat.le_of_ble_eq_true rfl⟩) (cf_preS hT hS hW) rfl rfl hl.1 rfl (lv_room (Nat.le_of_ble_eq_true rfl)) dL_law_535 ⟨(by show _ ≤ 765407; omega), (by show _ ≤ 6799882; omega)⟩) hS (fun _ _ h => h) (fun _ h => h) (fun _ _ h => h) (fun E9 ce q9 u9 t9 H locs ht hvm hu hB hz1 hk1 hS hce hcv hcl => absurd hB.1 id) (fun k1 u1 t9 H locs ht hvm hw hW hz1 hk1 hS => ?_)
  have hW9 := cf_W.er ht hW
  have hpre := cf_pre_count hR hw
  refine lv_istore (lv' := [(5, .int k1), (4, .int (nI (5 * i))), (3, .ref (ad 18 0)), (2, .ref (ad 6 0)), (1, .ref (ad 5 0)), (0, .ref b)]) hx hb dL_law_538 hl (by decide) rfl (fun ls hl => ?_)
  obtain ⟨hu1, hu2, hag2, hH⟩ := hpre
  obtain ⟨nc2, ng2, S2, P2, O2, ad2⟩ := u1
  have hu1 : nc2 = nc := hu1
  subst hu1
  have hu2 : ng2 = ng := hu2
  subst hu2
  have hW : cf_W D s.heap.size (cf_E cT nc2 ng2 S2 P2 O2 ad2) ad2 H := hW9
  have hag2 : ∀ k, k = 5 ∨ k = 6 ∨ k = 17 ∨ k = 18 → ad2 k 0 = ad k 0 := hag2
  have hH : cf_H nc2 ng2 S2 P2 P := hH
  have hl : lv_has ls 7 [(5, .int k1), (4, .int (nI (5 * i))), (3, .ref (ad2 18 0)), (2, .ref (ad2 6 0)), (1, .ref (ad2 5 0)), (0, .ref b)] := by rw [hag2 5 (by simp), hag2 6 (by simp), hag2 18 (by simp)]; exact hl
  have hag3 : ∀ k, k = 5 ∨ k = 6 ∨ k = 17 ∨ k = 18 → ad2 k 0 = ad0 k 0 := fun k hk => (hag2 k hk).trans (hag k hk)
  refine lv_aload_n hx hb dL_law_540 rfl (lv_at hl 3 rfl) ?_
  refine lv_aload_n hx hb dL_law_541 rfl (lv_at hl 5 rfl) ?_
  refine lv_iload hx hb dL_law_542 (lv_at hl 1 rfl) ?_
  refine lv_iconst (v := 1) hx hb dL_law_544 (by decide) ?_
  refine lv_iadd hx hb dL_law_545 ?_
  refine cf_sld hx hb hX hbl hbA hS (5 * i + 1) (cf_5k 1) (by omega) (by omega) dL_law_546 ?_
  refine lv_aload_n hx hb dL_law_547 rfl (lv_at hl 5 rfl) ?_
  refine lv_iload hx hb dL_law_548 (lv_at hl 1 rfl) ?_
  refine lv_iconst (v := 2) hx hb dL_law_550 (by decide) ?_
  refine lv_iadd hx hb dL_law_551 ?_
  refine cf_sld hx hb hX hbl hbA hS (5 * i + 2) (cf_5k 2) (by omega) (by omega) dL_law_552 ?_
  refine lv_aload_n hx hb dL_law_553 rfl (lv_at hl 5 rfl) ?_
  refine lv_iload hx hb dL_law_554 (lv_at hl 1 rfl) ?_
  refine lv_iconst (v := 3) hx hb dL_law_556 (by decide) ?_
  refine lv_iadd hx hb dL_law_557 ?_
  refine cf_sld hx hb hX hbl hbA hS (5 * i + 3) (cf_5k 3) (by omega) (by omega) dL_law_558 ?_
  refine va_calli (va_runV (As := [.int (xs (5 * i + 1)), .int (xs (5 * i + 2)), .int (xs (5 * i + 3))]) (rest := []) ⟨hx, hb, hml, hown, hts⟩ (c_X6_count l D cT s.heap.size ad2 nc2 ng2 S2 P2 O2 (xs (5 * i + 1)) (xs (5 * i + 2)) (xs (5 * i + 3)) hH.1 hH.2.1) (cwV 3 hts gL_law_X6_count rfl rfl rfl (by decide +kernel) ⟨Nat.le_of_ble_eq_true rfl, Nat.le_of_ble_eq_true rfl⟩) (cf_preV (T := TX6) (N := 24) hT hS hW cf_e6 rfl) rfl rfl hl.1 rfl (lv_room (Nat.le_of_ble_eq_true rfl)) dL_law_559 ⟨(by show _ ≤ 765407; omega), (by show _ ≤ 6799882; omega)⟩) hS (fun _ _ h => h) (fun _ h => h) (fun v2 T9 t9 H locs ht hvm hw2 hW hz1 hk1 hS => ?_)
  have hW := cf_W.er ht hW
  have hsim := cf_sim_count hR hw hw2
  refine lv_istore (lv' := [(6, .int v2), (5, .int k1), (4, .int (nI (5 * i))), (3, .ref (ad2 18 0)), (2, .ref (ad2 6 0)), (1, .ref (ad2 5 0)), (0, .ref b)]) hx hb dL_law_562 hl (by decide) rfl (fun ls hl => ?_)
  refine lv_aload_n hx hb dL_law_564 rfl (lv_at hl 4 rfl) ?_
  refine va_calli (va_runV (As := []) (rest := []) ⟨hx, hb, hml, hown, hts⟩ (c_X6_thrown l D cT s.heap.size ad2 nc2 ng2 T9 P2 O2) (cwV 0 hts gL_law_X6_thrown rfl rfl rfl (by decide +kernel) ⟨Nat.le_of_ble_eq_true rfl, Nat.le_of_ble_eq_true rfl⟩) (cf_preV (T := TX6) (N := 24) hT hS hW cf_e6 rfl) rfl rfl hl.1 rfl (lv_room (Nat.le_of_ble_eq_true rfl)) dL_law_565 ⟨(by show _ ≤ 765407; omega), (by show _ ≤ 6799882; omega)⟩) hS (fun _ _ h => h) (fun _ h => h) (fun r3 u3 t9 H locs ht hvm hw3 hW hz1 hk1 hS => ?_)
  have hW := cf_W.er ht hW
  have hW : cf_W D s.heap.size (cf_E cT nc2 ng2 T9 P2 O2 ad2) ad2 H := hW
  have e3 : r3 = k1 := hw3.trans hsim.1
  refine lv_iload hx hb dL_law_568 (lv_at hl 1 rfl) ?_
  refine lv_icmp_eq (tgt := 575) hx hb dL_law_570 (by decide) (fun c570_1 => ?_) (fun c570_1 => (by first | exact absurd e3 c570_1 | exact absurd c570_1 e3))
  refine lv_iload hx hb dL_law_575 (lv_at hl 1 rfl) ?_
  refine lv_if_ne (tgt := 592) hx hb dL_law_577 (by decide) (fun c577_2 => ?_) (fun c577_2 => ?_)
  · refine lv_goto (tgt := 1580) hx hb dL_law_592 (by decide) ?_
    refine lv_iinc (v := (nI (5 * (i + 1)))) (lv' := [(4, .int (nI (5 * (i + 1)))), (6, .int v2), (5, .int k1), (3, .ref (ad2 18 0)), (2, .ref (ad2 6 0)), (1, .ref (ad2 5 0)), (0, .ref b)]) hx hb dL_law_1580 hl (k := 2) rfl (cf_5s i) (by decide) rfl (fun ls hl => ?_)
    refine lv_goto (tgt := 23) hx hb dL_law_1583 (by decide) ?_
    refine W.widen (k := 60 + (i + 1) * 4) (n := 800 + (i + 1) * 24) (by omega) (by omega) ?_
    exact ih _ _ _ (nc2, ng2, T9, P2, O2, ad2) ⟨hW, hS, by rw [← hag3 5 (by simp), ← hag3 6 (by simp), ← hag3 18 (by simp)]; exact lv_sub hl [0, 3, 4, 5, 6] rfl, hsim.2.2, hag3⟩
  · have hval := hsim.2.1 c577_2
    refine lv_aload_n hx hb dL_law_580 rfl (lv_at hl 3 rfl) ?_
    refine lv_iconst (v := 0) hx hb dL_law_581 (by decide) ?_
    refine cf_lald (k := 18) (i := 0) (ad := ad2) hx hb hT.1 hW 2 cf_e18 rfl (show vp_in 0 1 from vp_in_nI (show (0 : Nat) < 1 by decide) (by decide)) dL_law_582 ?_
    refine lv_iload hx hb dL_law_583 (lv_at hl 0 rfl) ?_
    refine lv_i2l (v := v2.toInt64) hx hb dL_law_585 rfl ?_
    refine W.lcmp hx hb dL_law_586 ?_
    have ec : lg_cmp (O2 0) v2.toInt64 = 0 := by rw [show O2 0 = v2.toInt64 from hval]; simp [lg_cmp]
    refine lv_if_eq (tgt := 592) hx hb dL_law_587 (by decide) (fun c587_3 => ?_) (fun c587_3 => (by first | exact absurd ec c587_3 | exact absurd c587_3 ec))
    refine lv_goto (tgt := 1580) hx hb dL_law_592 (by decide) ?_
    refine lv_iinc (v := (nI (5 * (i + 1)))) (lv' := [(4, .int (nI (5 * (i + 1)))), (6, .int v2), (5, .int k1), (3, .ref (ad2 18 0)), (2, .ref (ad2 6 0)), (1, .ref (ad2 5 0)), (0, .ref b)]) hx hb dL_law_1580 hl (k := 2) rfl (cf_5s i) (by decide) rfl (fun ls hl => ?_)
    refine lv_goto (tgt := 23) hx hb dL_law_1583 (by decide) ?_
    refine W.widen (k := 60 + (i + 1) * 4) (n := 800 + (i + 1) * 24) (by omega) (by omega) ?_
    exact ih _ _ _ (nc2, ng2, T9, P2, O2, ad2) ⟨hW, hS, by rw [← hag3 5 (by simp), ← hag3 6 (by simp), ← hag3 18 (by simp)]; exact lv_sub hl [0, 3, 4, 5, 6] rfl, hsim.2.2, hag3⟩

set_option maxHeartbeats 4000000 in
set_option maxRecDepth 100000 in
theorem cf_case_fill (l : Launch) (hl0 : l.stackTraces = false) {p : Program} {e : Env} {s : State} {m : MethodId} {below : List Frame} {meth : Method} {c : Code} {b L : Nat} {xs : Nat → Int32} (hL : L ≤ 2560) (C0 : lw_At p s m meth c b L xs) {D : va_G} {cT : Nat → ClassId} (hT : cf_Tb D cT s.heap.size s s.heap) {ad0 : cf_Ad} {i : Nat} (hi : i < L / 5) {H : Heap} {locs : List Loc} {ls : Array Slot} {u : cf_St} (hI : cf_LI D cT s b ad0 i H locs ls u) (ih : ∀ (H2 : Heap) (locs2 : List Loc) (ls2 : Array Slot) (u2 : cf_St), cf_LI D cT s b ad0 (i + 1) H2 locs2 ls2 u2 → W p l e room_1 s m #[Value.ref b] below meth c H2 locs2 (60 + (i + 1) * 4) (800 + (i + 1) * 24) (lw_Z below #[Value.ref b] s) (F0 m 23 ls2 [])) : W p l e room_1 s m #[Value.ref b] below meth c H locs (60 + i * 4) (800 + i * 24) (lw_Z below #[Value.ref b] s) (F0 m 595 ls []) := by
  obtain ⟨hx, hb, hr, hml, hown, hts0, hX, hbl, hlocks, hgv⟩ := id C0
  have hts : ∀ w ∈ wsL_law, w.before #[Value.ref b] s = true := fun w h => hts0 w (wsL_law_in w h)
  have hbA : ¬ s.heap.size ≤ b := Nat.not_le.mpr hbl
  obtain ⟨nc, ng, S, P, O, ad⟩ := u
  obtain ⟨hW, hS, hl, hR, hag⟩ := hI
  have hW : cf_W D s.heap.size (cf_E cT nc ng S P O ad) ad H := hW
  have hR : cf_R i nc ng S P := hR
  have hag : ∀ k, k = 5 ∨ k = 6 ∨ k = 17 ∨ k = 18 → ad k 0 = ad0 k 0 := hag
  have hl : lv_has ls 7 [(4, .int (nI (5 * i))), (3, .ref (ad 18 0)), (2, .ref (ad 6 0)), (1, .ref (ad 5 0)), (0, .ref b)] := by rw [hag 5 (by simp), hag 6 (by simp), hag 18 (by simp)]; exact hl
  refine lv_aload_n hx hb dL_law_595 rfl (lv_at hl 3 rfl) ?_
  refine lv_aload_n hx hb dL_law_596 rfl (lv_at hl 4 rfl) ?_
  refine lv_iload hx hb dL_law_597 (lv_at hl 0 rfl) ?_
  refine lv_iconst (v := 1) hx hb dL_law_599 (by decide) ?_
  refine lv_iadd hx hb dL_law_600 ?_
  refine cf_sld hx hb hX hbl hbA hS (5 * i + 1) (cf_5k 1) (by omega) (by omega) dL_law_601 ?_
  refine lv_aload_n hx hb dL_law_602 rfl (lv_at hl 4 rfl) ?_
  refine lv_iload hx hb dL_law_603 (lv_at hl 0 rfl) ?_
  refine lv_iconst (v := 2) hx hb dL_law_605 (by decide) ?_
  refine lv_iadd hx hb dL_law_606 ?_
  refine cf_sld hx hb hX hbl hbA hS (5 * i + 2) (cf_5k 2) (by omega) (by omega) dL_law_607 ?_
  refine lv_aload_n hx hb dL_law_608 rfl (lv_at hl 1 rfl) ?_
  refine vx_calli (vx_runSX (As := [.ref (ad 5 0), .int (xs (5 * i + 1)), .int (xs (5 * i + 2)), .ref (ad 18 0)]) (rest := []) ⟨hx, hb, hml, hown, hts⟩ (c_L_fill l D cT s.heap.size ad nc ng S P O hl0 (xs (5 * i + 1)) (xs (5 * i + 2)) hR.1.1 (fun j _ => hR.O j) hR.G) (vx_cwSW 4 hts gL_law_L_fill rfl rfl rfl (by decide +kernel) ⟨Nat.le_of_ble_eq_true rfl, Nat.le_of_ble_eq_true rfl⟩) (cf_preS hT hS hW) rfl rfl hl.1 rfl (lv_room (Nat.le_of_ble_eq_true rfl)) dL_law_609 ⟨(by show _ ≤ 765407; omega), (by show _ ≤ 6799882; omega)⟩) hS (fun _ _ h => h) (fun _ h => h) (fun _ _ h => h) (fun E9 ce q9 u9 t9 H locs ht hvm hu hB hz1 hk1 hS hce hcv hcl => absurd hB.1 id) (fun k1 u1 t9 H locs ht hvm hw hW hz1 hk1 hS => ?_)
  have hW9 := cf_W.er ht hW
  have hpre := cf_pre_fill hR hw
  refine lv_istore (lv' := [(5, .int k1), (4, .int (nI (5 * i))), (3, .ref (ad 18 0)), (2, .ref (ad 6 0)), (1, .ref (ad 5 0)), (0, .ref b)]) hx hb dL_law_612 hl (by decide) rfl (fun ls hl => ?_)
  obtain ⟨hu1, hu2, hag2, hH⟩ := hpre
  obtain ⟨nc2, ng2, S2, P2, O2, ad2⟩ := u1
  have hu1 : nc2 = nc := hu1
  subst hu1
  have hu2 : ng2 = ng := hu2
  subst hu2
  have hW : cf_W D s.heap.size (cf_E cT nc2 ng2 S2 P2 O2 ad2) ad2 H := hW9
  have hag2 : ∀ k, k = 5 ∨ k = 6 ∨ k = 17 ∨ k = 18 → ad2 k 0 = ad k 0 := hag2
  have hH : cf_H nc2 ng2 S2 P2 P := hH
  have hl : lv_has ls 7 [(5, .int k1), (4, .int (nI (5 * i))), (3, .ref (ad2 18 0)), (2, .ref (ad2 6 0)), (1, .ref (ad2 5 0)), (0, .ref b)] := by rw [hag2 5 (by simp), hag2 6 (by simp), hag2 18 (by simp)]; exact hl
  have hag3 : ∀ k, k = 5 ∨ k = 6 ∨ k = 17 ∨ k = 18 → ad2 k 0 = ad0 k 0 := fun k hk => (hag2 k hk).trans (hag k hk)
  refine lv_aload_n hx hb dL_law_614 rfl (lv_at hl 3 rfl) ?_
  refine lv_aload_n hx hb dL_law_615 rfl (lv_at hl 5 rfl) ?_
  refine lv_iload hx hb dL_law_616 (lv_at hl 1 rfl) ?_
  refine lv_iconst (v := 1) hx hb dL_law_618 (by decide) ?_
  refine lv_iadd hx hb dL_law_619 ?_
  refine cf_sld hx hb hX hbl hbA hS (5 * i + 1) (cf_5k 1) (by omega) (by omega) dL_law_620 ?_
  refine lv_aload_n hx hb dL_law_621 rfl (lv_at hl 5 rfl) ?_
  refine lv_iload hx hb dL_law_622 (lv_at hl 1 rfl) ?_
  refine lv_iconst (v := 2) hx hb dL_law_624 (by decide) ?_
  refine lv_iadd hx hb dL_law_625 ?_
  refine cf_sld hx hb hX hbl hbA hS (5 * i + 2) (cf_5k 2) (by omega) (by omega) dL_law_626 ?_
  refine va_calli (va_runV (As := [.int (xs (5 * i + 1)), .int (xs (5 * i + 2))]) (rest := []) ⟨hx, hb, hml, hown, hts⟩ (c_X6_fill l D cT s.heap.size ad2 nc2 ng2 S2 P2 O2 (xs (5 * i + 1)) (xs (5 * i + 2)) hH.1 hH.2.1 hH.2.2.2.2.1) (cwV 2 hts gL_law_X6_fill rfl rfl rfl (by decide +kernel) ⟨Nat.le_of_ble_eq_true rfl, Nat.le_of_ble_eq_true rfl⟩) (cf_preV (T := TX6) (N := 24) hT hS hW cf_e6 rfl) rfl rfl hl.1 rfl (lv_room (Nat.le_of_ble_eq_true rfl)) dL_law_627 ⟨(by show _ ≤ 765407; omega), (by show _ ≤ 6799882; omega)⟩) hS (fun _ _ h => h) (fun _ h => h) (fun v2 T9 t9 H locs ht hvm hw2 hW hz1 hk1 hS => ?_)
  have hW := cf_W.er ht hW
  have hsim := cf_sim_fill hR hw hw2
  refine lv_istore (lv' := [(6, .int v2), (5, .int k1), (4, .int (nI (5 * i))), (3, .ref (ad2 18 0)), (2, .ref (ad2 6 0)), (1, .ref (ad2 5 0)), (0, .ref b)]) hx hb dL_law_630 hl (by decide) rfl (fun ls hl => ?_)
  refine lv_aload_n hx hb dL_law_632 rfl (lv_at hl 4 rfl) ?_
  refine va_calli (va_runV (As := []) (rest := []) ⟨hx, hb, hml, hown, hts⟩ (c_X6_thrown l D cT s.heap.size ad2 nc2 ng2 T9 P2 O2) (cwV 0 hts gL_law_X6_thrown rfl rfl rfl (by decide +kernel) ⟨Nat.le_of_ble_eq_true rfl, Nat.le_of_ble_eq_true rfl⟩) (cf_preV (T := TX6) (N := 24) hT hS hW cf_e6 rfl) rfl rfl hl.1 rfl (lv_room (Nat.le_of_ble_eq_true rfl)) dL_law_633 ⟨(by show _ ≤ 765407; omega), (by show _ ≤ 6799882; omega)⟩) hS (fun _ _ h => h) (fun _ h => h) (fun r3 u3 t9 H locs ht hvm hw3 hW hz1 hk1 hS => ?_)
  have hW := cf_W.er ht hW
  have hW : cf_W D s.heap.size (cf_E cT nc2 ng2 T9 P2 O2 ad2) ad2 H := hW
  have e3 : r3 = k1 := hw3.trans hsim.1
  refine lv_iload hx hb dL_law_636 (lv_at hl 1 rfl) ?_
  refine lv_icmp_eq (tgt := 643) hx hb dL_law_638 (by decide) (fun c638_1 => ?_) (fun c638_1 => (by first | exact absurd e3 c638_1 | exact absurd c638_1 e3))
  refine lv_iload hx hb dL_law_643 (lv_at hl 1 rfl) ?_
  refine lv_if_ne (tgt := 660) hx hb dL_law_645 (by decide) (fun c645_2 => ?_) (fun c645_2 => ?_)
  · refine lv_goto (tgt := 1580) hx hb dL_law_660 (by decide) ?_
    refine lv_iinc (v := (nI (5 * (i + 1)))) (lv' := [(4, .int (nI (5 * (i + 1)))), (6, .int v2), (5, .int k1), (3, .ref (ad2 18 0)), (2, .ref (ad2 6 0)), (1, .ref (ad2 5 0)), (0, .ref b)]) hx hb dL_law_1580 hl (k := 2) rfl (cf_5s i) (by decide) rfl (fun ls hl => ?_)
    refine lv_goto (tgt := 23) hx hb dL_law_1583 (by decide) ?_
    refine W.widen (k := 60 + (i + 1) * 4) (n := 800 + (i + 1) * 24) (by omega) (by omega) ?_
    exact ih _ _ _ (nc2, ng2, T9, P2, O2, ad2) ⟨hW, hS, by rw [← hag3 5 (by simp), ← hag3 6 (by simp), ← hag3 18 (by simp)]; exact lv_sub hl [0, 3, 4, 5, 6] rfl, hsim.2.2, hag3⟩
  · have hval := hsim.2.1 c645_2
    refine lv_aload_n hx hb dL_law_648 rfl (lv_at hl 3 rfl) ?_
    refine lv_iconst (v := 0) hx hb dL_law_649 (by decide) ?_
    refine cf_lald (k := 18) (i := 0) (ad := ad2) hx hb hT.1 hW 2 cf_e18 rfl (show vp_in 0 1 from vp_in_nI (show (0 : Nat) < 1 by decide) (by decide)) dL_law_650 ?_
    refine lv_iload hx hb dL_law_651 (lv_at hl 0 rfl) ?_
    refine lv_i2l (v := v2.toInt64) hx hb dL_law_653 rfl ?_
    refine W.lcmp hx hb dL_law_654 ?_
    have ec : lg_cmp (O2 0) v2.toInt64 = 0 := by rw [show O2 0 = v2.toInt64 from hval]; simp [lg_cmp]
    refine lv_if_eq (tgt := 660) hx hb dL_law_655 (by decide) (fun c655_3 => ?_) (fun c655_3 => (by first | exact absurd ec c655_3 | exact absurd c655_3 ec))
    refine lv_goto (tgt := 1580) hx hb dL_law_660 (by decide) ?_
    refine lv_iinc (v := (nI (5 * (i + 1)))) (lv' := [(4, .int (nI (5 * (i + 1)))), (6, .int v2), (5, .int k1), (3, .ref (ad2 18 0)), (2, .ref (ad2 6 0)), (1, .ref (ad2 5 0)), (0, .ref b)]) hx hb dL_law_1580 hl (k := 2) rfl (cf_5s i) (by decide) rfl (fun ls hl => ?_)
    refine lv_goto (tgt := 23) hx hb dL_law_1583 (by decide) ?_
    refine W.widen (k := 60 + (i + 1) * 4) (n := 800 + (i + 1) * 24) (by omega) (by omega) ?_
    exact ih _ _ _ (nc2, ng2, T9, P2, O2, ad2) ⟨hW, hS, by rw [← hag3 5 (by simp), ← hag3 6 (by simp), ← hag3 18 (by simp)]; exact lv_sub hl [0, 3, 4, 5, 6] rfl, hsim.2.2, hag3⟩

set_option maxHeartbeats 4000000 in
set_option maxRecDepth 100000 in
theorem cf_case_grow (l : Launch) (hl0 : l.stackTraces = false) {p : Program} {e : Env} {s : State} {m : MethodId} {below : List Frame} {meth : Method} {c : Code} {b L : Nat} {xs : Nat → Int32} (hL : L ≤ 2560) (C0 : lw_At p s m meth c b L xs) {D : va_G} {cT : Nat → ClassId} (hT : cf_Tb D cT s.heap.size s s.heap) {ad0 : cf_Ad} {i : Nat} (hi : i < L / 5) {H : Heap} {locs : List Loc} {ls : Array Slot} {u : cf_St} (hI : cf_LI D cT s b ad0 i H locs ls u) (ih : ∀ (H2 : Heap) (locs2 : List Loc) (ls2 : Array Slot) (u2 : cf_St), cf_LI D cT s b ad0 (i + 1) H2 locs2 ls2 u2 → W p l e room_1 s m #[Value.ref b] below meth c H2 locs2 (60 + (i + 1) * 4) (800 + (i + 1) * 24) (lw_Z below #[Value.ref b] s) (F0 m 23 ls2 [])) : W p l e room_1 s m #[Value.ref b] below meth c H locs (60 + i * 4) (800 + i * 24) (lw_Z below #[Value.ref b] s) (F0 m 759 ls []) := by
  obtain ⟨hx, hb, hr, hml, hown, hts0, hX, hbl, hlocks, hgv⟩ := id C0
  have hts : ∀ w ∈ wsL_law, w.before #[Value.ref b] s = true := fun w h => hts0 w (wsL_law_in w h)
  have hbA : ¬ s.heap.size ≤ b := Nat.not_le.mpr hbl
  obtain ⟨nc, ng, S, P, O, ad⟩ := u
  obtain ⟨hW, hS, hl, hR, hag⟩ := hI
  have hW : cf_W D s.heap.size (cf_E cT nc ng S P O ad) ad H := hW
  have hR : cf_R i nc ng S P := hR
  have hag : ∀ k, k = 5 ∨ k = 6 ∨ k = 17 ∨ k = 18 → ad k 0 = ad0 k 0 := hag
  have hl : lv_has ls 7 [(4, .int (nI (5 * i))), (3, .ref (ad 18 0)), (2, .ref (ad 6 0)), (1, .ref (ad 5 0)), (0, .ref b)] := by rw [hag 5 (by simp), hag 6 (by simp), hag 18 (by simp)]; exact hl
  refine lv_aload_n hx hb dL_law_759 rfl (lv_at hl 3 rfl) ?_
  refine lv_aload_n hx hb dL_law_760 rfl (lv_at hl 4 rfl) ?_
  refine lv_iload hx hb dL_law_761 (lv_at hl 0 rfl) ?_
  refine lv_iconst (v := 1) hx hb dL_law_763 (by decide) ?_
  refine lv_iadd hx hb dL_law_764 ?_
  refine cf_sld hx hb hX hbl hbA hS (5 * i + 1) (cf_5k 1) (by omega) (by omega) dL_law_765 ?_
  refine lv_aload_n hx hb dL_law_766 rfl (lv_at hl 4 rfl) ?_
  refine lv_iload hx hb dL_law_767 (lv_at hl 0 rfl) ?_
  refine lv_iconst (v := 2) hx hb dL_law_769 (by decide) ?_
  refine lv_iadd hx hb dL_law_770 ?_
  refine cf_sld hx hb hX hbl hbA hS (5 * i + 2) (cf_5k 2) (by omega) (by omega) dL_law_771 ?_
  refine lv_aload_n hx hb dL_law_772 rfl (lv_at hl 1 rfl) ?_
  refine vx_calli (vx_runSX (As := [.ref (ad 5 0), .int (xs (5 * i + 1)), .int (xs (5 * i + 2)), .ref (ad 18 0)]) (rest := []) ⟨hx, hb, hml, hown, hts⟩ (c_L_grow l D cT s.heap.size ad nc ng S P O hl0 (xs (5 * i + 1)) (xs (5 * i + 2)) hR.G (fun j _ => hR.Q j) hR.L) (vx_cwSW 4 hts gL_law_L_grow rfl rfl rfl (by decide +kernel) ⟨Nat.le_of_ble_eq_true rfl, Nat.le_of_ble_eq_true rfl⟩) (cf_preS hT hS hW) rfl rfl hl.1 rfl (lv_room (Nat.le_of_ble_eq_true rfl)) dL_law_773 ⟨(by show _ ≤ 765407; omega), (by show _ ≤ 6799882; omega)⟩) hS (fun _ _ h => h) (fun _ h => h) (fun _ _ h => h) (fun E9 ce q9 u9 t9 H locs ht hvm hu hB hz1 hk1 hS hce hcv hcl => absurd hB.1 id) (fun k1 u1 t9 H locs ht hvm hw hW hz1 hk1 hS => ?_)
  have hW9 := cf_W.er ht hW
  have hpre := cf_pre_grow hR hw
  refine lv_istore (lv' := [(5, .int k1), (4, .int (nI (5 * i))), (3, .ref (ad 18 0)), (2, .ref (ad 6 0)), (1, .ref (ad 5 0)), (0, .ref b)]) hx hb dL_law_776 hl (by decide) rfl (fun ls hl => ?_)
  obtain ⟨hu1, hu2, hag2, hH⟩ := hpre
  obtain ⟨nc2, ng2, S2, P2, O2, ad2⟩ := u1
  have hu1 : nc2 = nc := hu1
  subst hu1
  have hu2 : ng2 = ng := hu2
  subst hu2
  have hW : cf_W D s.heap.size (cf_E cT nc2 ng2 S2 P2 O2 ad2) ad2 H := hW9
  have hag2 : ∀ k, k = 5 ∨ k = 6 ∨ k = 17 ∨ k = 18 → ad2 k 0 = ad k 0 := hag2
  have hH : cf_H nc2 ng2 S2 P2 P := hH
  have hl : lv_has ls 7 [(5, .int k1), (4, .int (nI (5 * i))), (3, .ref (ad2 18 0)), (2, .ref (ad2 6 0)), (1, .ref (ad2 5 0)), (0, .ref b)] := by rw [hag2 5 (by simp), hag2 6 (by simp), hag2 18 (by simp)]; exact hl
  have hag3 : ∀ k, k = 5 ∨ k = 6 ∨ k = 17 ∨ k = 18 → ad2 k 0 = ad0 k 0 := fun k hk => (hag2 k hk).trans (hag k hk)
  refine lv_aload_n hx hb dL_law_778 rfl (lv_at hl 3 rfl) ?_
  refine lv_aload_n hx hb dL_law_779 rfl (lv_at hl 5 rfl) ?_
  refine lv_iload hx hb dL_law_780 (lv_at hl 1 rfl) ?_
  refine lv_iconst (v := 1) hx hb dL_law_782 (by decide) ?_
  refine lv_iadd hx hb dL_law_783 ?_
  refine cf_sld hx hb hX hbl hbA hS (5 * i + 1) (cf_5k 1) (by omega) (by omega) dL_law_784 ?_
  refine lv_aload_n hx hb dL_law_785 rfl (lv_at hl 5 rfl) ?_
  refine lv_iload hx hb dL_law_786 (lv_at hl 1 rfl) ?_
  refine lv_iconst (v := 2) hx hb dL_law_788 (by decide) ?_
  refine lv_iadd hx hb dL_law_789 ?_
  refine cf_sld hx hb hX hbl hbA hS (5 * i + 2) (cf_5k 2) (by omega) (by omega) dL_law_790 ?_
  refine va_calli (va_runV (As := [.int (xs (5 * i + 1)), .int (xs (5 * i + 2))]) (rest := []) ⟨hx, hb, hml, hown, hts⟩ (c_X6_grow l D cT s.heap.size ad2 nc2 ng2 S2 P2 O2 (xs (5 * i + 1)) (xs (5 * i + 2)) hH.2.2.1 hH.2.2.2.1 hH.2.1 (fun j => P 2 j 1) (fun j => P 2 j 0) hH.2.2.2.2.2.1 hH.2.2.2.2.1) (cwV 2 hts gL_law_X6_grow rfl rfl rfl (by decide +kernel) ⟨Nat.le_of_ble_eq_true rfl, Nat.le_of_ble_eq_true rfl⟩) (cf_preV (T := TX6) (N := 24) hT hS hW cf_e6 rfl) rfl rfl hl.1 rfl (lv_room (Nat.le_of_ble_eq_true rfl)) dL_law_791 ⟨(by show _ ≤ 765407; omega), (by show _ ≤ 6799882; omega)⟩) hS (fun _ _ h => h) (fun _ h => h) (fun v2 T9 t9 H locs ht hvm hw2 hW hz1 hk1 hS => ?_)
  have hW := cf_W.er ht hW
  have hsim := cf_sim_grow hR hw hw2
  refine lv_istore (lv' := [(6, .int v2), (5, .int k1), (4, .int (nI (5 * i))), (3, .ref (ad2 18 0)), (2, .ref (ad2 6 0)), (1, .ref (ad2 5 0)), (0, .ref b)]) hx hb dL_law_794 hl (by decide) rfl (fun ls hl => ?_)
  refine lv_aload_n hx hb dL_law_796 rfl (lv_at hl 4 rfl) ?_
  refine va_calli (va_runV (As := []) (rest := []) ⟨hx, hb, hml, hown, hts⟩ (c_X6_thrown l D cT s.heap.size ad2 nc2 ng2 T9 P2 O2) (cwV 0 hts gL_law_X6_thrown rfl rfl rfl (by decide +kernel) ⟨Nat.le_of_ble_eq_true rfl, Nat.le_of_ble_eq_true rfl⟩) (cf_preV (T := TX6) (N := 24) hT hS hW cf_e6 rfl) rfl rfl hl.1 rfl (lv_room (Nat.le_of_ble_eq_true rfl)) dL_law_797 ⟨(by show _ ≤ 765407; omega), (by show _ ≤ 6799882; omega)⟩) hS (fun _ _ h => h) (fun _ h => h) (fun r3 u3 t9 H locs ht hvm hw3 hW hz1 hk1 hS => ?_)
  have hW := cf_W.er ht hW
  have hW : cf_W D s.heap.size (cf_E cT nc2 ng2 T9 P2 O2 ad2) ad2 H := hW
  have e3 : r3 = k1 := hw3.trans hsim.1
  refine lv_iload hx hb dL_law_800 (lv_at hl 1 rfl) ?_
  refine lv_icmp_eq (tgt := 807) hx hb dL_law_802 (by decide) (fun c802_1 => ?_) (fun c802_1 => (by first | exact absurd e3 c802_1 | exact absurd c802_1 e3))
  refine lv_iload hx hb dL_law_807 (lv_at hl 1 rfl) ?_
  refine lv_if_ne (tgt := 824) hx hb dL_law_809 (by decide) (fun c809_2 => ?_) (fun c809_2 => ?_)
  · refine lv_goto (tgt := 1580) hx hb dL_law_824 (by decide) ?_
    refine lv_iinc (v := (nI (5 * (i + 1)))) (lv' := [(4, .int (nI (5 * (i + 1)))), (6, .int v2), (5, .int k1), (3, .ref (ad2 18 0)), (2, .ref (ad2 6 0)), (1, .ref (ad2 5 0)), (0, .ref b)]) hx hb dL_law_1580 hl (k := 2) rfl (cf_5s i) (by decide) rfl (fun ls hl => ?_)
    refine lv_goto (tgt := 23) hx hb dL_law_1583 (by decide) ?_
    refine W.widen (k := 60 + (i + 1) * 4) (n := 800 + (i + 1) * 24) (by omega) (by omega) ?_
    exact ih _ _ _ (nc2, ng2, T9, P2, O2, ad2) ⟨hW, hS, by rw [← hag3 5 (by simp), ← hag3 6 (by simp), ← hag3 18 (by simp)]; exact lv_sub hl [0, 3, 4, 5, 6] rfl, hsim.2.2, hag3⟩
  · have hval := hsim.2.1 c809_2
    refine lv_aload_n hx hb dL_law_812 rfl (lv_at hl 3 rfl) ?_
    refine lv_iconst (v := 0) hx hb dL_law_813 (by decide) ?_
    refine cf_lald (k := 18) (i := 0) (ad := ad2) hx hb hT.1 hW 2 cf_e18 rfl (show vp_in 0 1 from vp_in_nI (show (0 : Nat) < 1 by decide) (by decide)) dL_law_814 ?_
    refine lv_iload hx hb dL_law_815 (lv_at hl 0 rfl) ?_
    refine lv_i2l (v := v2.toInt64) hx hb dL_law_817 rfl ?_
    refine W.lcmp hx hb dL_law_818 ?_
    have ec : lg_cmp (O2 0) v2.toInt64 = 0 := by rw [show O2 0 = v2.toInt64 from hval]; simp [lg_cmp]
    refine lv_if_eq (tgt := 824) hx hb dL_law_819 (by decide) (fun c819_3 => ?_) (fun c819_3 => (by first | exact absurd ec c819_3 | exact absurd c819_3 ec))
    refine lv_goto (tgt := 1580) hx hb dL_law_824 (by decide) ?_
    refine lv_iinc (v := (nI (5 * (i + 1)))) (lv' := [(4, .int (nI (5 * (i + 1)))), (6, .int v2), (5, .int k1), (3, .ref (ad2 18 0)), (2, .ref (ad2 6 0)), (1, .ref (ad2 5 0)), (0, .ref b)]) hx hb dL_law_1580 hl (k := 2) rfl (cf_5s i) (by decide) rfl (fun ls hl => ?_)
    refine lv_goto (tgt := 23) hx hb dL_law_1583 (by decide) ?_
    refine W.widen (k := 60 + (i + 1) * 4) (n := 800 + (i + 1) * 24) (by omega) (by omega) ?_
    exact ih _ _ _ (nc2, ng2, T9, P2, O2, ad2) ⟨hW, hS, by rw [← hag3 5 (by simp), ← hag3 6 (by simp), ← hag3 18 (by simp)]; exact lv_sub hl [0, 3, 4, 5, 6] rfl, hsim.2.2, hag3⟩

set_option maxHeartbeats 4000000 in
set_option maxRecDepth 100000 in
theorem cf_case_go (l : Launch) (hl0 : l.stackTraces = false) {p : Program} {e : Env} {s : State} {m : MethodId} {below : List Frame} {meth : Method} {c : Code} {b L : Nat} {xs : Nat → Int32} (hL : L ≤ 2560) (C0 : lw_At p s m meth c b L xs) {D : va_G} {cT : Nat → ClassId} (hT : cf_Tb D cT s.heap.size s s.heap) {ad0 : cf_Ad} {i : Nat} (hi : i < L / 5) {H : Heap} {locs : List Loc} {ls : Array Slot} {u : cf_St} (hI : cf_LI D cT s b ad0 i H locs ls u) (ih : ∀ (H2 : Heap) (locs2 : List Loc) (ls2 : Array Slot) (u2 : cf_St), cf_LI D cT s b ad0 (i + 1) H2 locs2 ls2 u2 → W p l e room_1 s m #[Value.ref b] below meth c H2 locs2 (60 + (i + 1) * 4) (800 + (i + 1) * 24) (lw_Z below #[Value.ref b] s) (F0 m 23 ls2 [])) : W p l e room_1 s m #[Value.ref b] below meth c H locs (60 + i * 4) (800 + i * 24) (lw_Z below #[Value.ref b] s) (F0 m 827 ls []) := by
  obtain ⟨hx, hb, hr, hml, hown, hts0, hX, hbl, hlocks, hgv⟩ := id C0
  have hts : ∀ w ∈ wsL_law, w.before #[Value.ref b] s = true := fun w h => hts0 w (wsL_law_in w h)
  have hbA : ¬ s.heap.size ≤ b := Nat.not_le.mpr hbl
  obtain ⟨nc, ng, S, P, O, ad⟩ := u
  obtain ⟨hW, hS, hl, hR, hag⟩ := hI
  have hW : cf_W D s.heap.size (cf_E cT nc ng S P O ad) ad H := hW
  have hR : cf_R i nc ng S P := hR
  have hag : ∀ k, k = 5 ∨ k = 6 ∨ k = 17 ∨ k = 18 → ad k 0 = ad0 k 0 := hag
  have hl : lv_has ls 7 [(4, .int (nI (5 * i))), (3, .ref (ad 18 0)), (2, .ref (ad 6 0)), (1, .ref (ad 5 0)), (0, .ref b)] := by rw [hag 5 (by simp), hag 6 (by simp), hag 18 (by simp)]; exact hl
  refine lv_aload_n hx hb dL_law_827 rfl (lv_at hl 3 rfl) ?_
  refine lv_aload_n hx hb dL_law_828 rfl (lv_at hl 4 rfl) ?_
  refine lv_iload hx hb dL_law_829 (lv_at hl 0 rfl) ?_
  refine lv_iconst (v := 1) hx hb dL_law_831 (by decide) ?_
  refine lv_iadd hx hb dL_law_832 ?_
  refine cf_sld hx hb hX hbl hbA hS (5 * i + 1) (cf_5k 1) (by omega) (by omega) dL_law_833 ?_
  refine lv_aload_n hx hb dL_law_834 rfl (lv_at hl 1 rfl) ?_
  refine vx_calli (vx_runSX (As := [.ref (ad 5 0), .int (xs (5 * i + 1)), .ref (ad 18 0)]) (rest := []) ⟨hx, hb, hml, hown, hts⟩ (c_L_go l D cT s.heap.size ad nc ng S P O hl0 (xs (5 * i + 1)) hR.G (fun j _ => hR.Q j) hR.L) (vx_cwSW 3 hts gL_law_L_go rfl rfl rfl (by decide +kernel) ⟨Nat.le_of_ble_eq_true rfl, Nat.le_of_ble_eq_true rfl⟩) (cf_preS hT hS hW) rfl rfl hl.1 rfl (lv_room (Nat.le_of_ble_eq_true rfl)) dL_law_835 ⟨(by show _ ≤ 765407; omega), (by show _ ≤ 6799882; omega)⟩) hS (fun _ _ h => h) (fun _ h => h) (fun _ _ h => h) (fun E9 ce q9 u9 t9 H locs ht hvm hu hB hz1 hk1 hS hce hcv hcl => absurd hB.1 id) (fun k1 u1 t9 H locs ht hvm hw hW hz1 hk1 hS => ?_)
  have hW9 := cf_W.er ht hW
  have hpre := cf_pre_go hR hw
  refine lv_istore (lv' := [(5, .int k1), (4, .int (nI (5 * i))), (3, .ref (ad 18 0)), (2, .ref (ad 6 0)), (1, .ref (ad 5 0)), (0, .ref b)]) hx hb dL_law_838 hl (by decide) rfl (fun ls hl => ?_)
  obtain ⟨hu1, hu2, hag2, hH⟩ := hpre
  obtain ⟨nc2, ng2, S2, P2, O2, ad2⟩ := u1
  have hu1 : nc2 = nc := hu1
  subst hu1
  have hu2 : ng2 = ng := hu2
  subst hu2
  have hW : cf_W D s.heap.size (cf_E cT nc2 ng2 S2 P2 O2 ad2) ad2 H := hW9
  have hag2 : ∀ k, k = 5 ∨ k = 6 ∨ k = 17 ∨ k = 18 → ad2 k 0 = ad k 0 := hag2
  have hH : cf_H nc2 ng2 S2 P2 P := hH
  have hl : lv_has ls 7 [(5, .int k1), (4, .int (nI (5 * i))), (3, .ref (ad2 18 0)), (2, .ref (ad2 6 0)), (1, .ref (ad2 5 0)), (0, .ref b)] := by rw [hag2 5 (by simp), hag2 6 (by simp), hag2 18 (by simp)]; exact hl
  have hag3 : ∀ k, k = 5 ∨ k = 6 ∨ k = 17 ∨ k = 18 → ad2 k 0 = ad0 k 0 := fun k hk => (hag2 k hk).trans (hag k hk)
  refine lv_aload_n hx hb dL_law_840 rfl (lv_at hl 3 rfl) ?_
  refine lv_aload_n hx hb dL_law_841 rfl (lv_at hl 5 rfl) ?_
  refine lv_iload hx hb dL_law_842 (lv_at hl 1 rfl) ?_
  refine lv_iconst (v := 1) hx hb dL_law_844 (by decide) ?_
  refine lv_iadd hx hb dL_law_845 ?_
  refine cf_sld hx hb hX hbl hbA hS (5 * i + 1) (cf_5k 1) (by omega) (by omega) dL_law_846 ?_
  refine va_calli (va_runV (As := [.int (xs (5 * i + 1))]) (rest := []) ⟨hx, hb, hml, hown, hts⟩ (c_X6_go l D cT s.heap.size ad2 nc2 ng2 S2 P2 O2 (xs (5 * i + 1)) hH.2.2.1 hH.2.2.2.1 hH.2.1 (fun j => P 2 j 1) (fun j => P 2 j 0) hH.2.2.2.2.2.1 hH.2.2.2.2.1) (cwV 1 hts gL_law_X6_go rfl rfl rfl (by decide +kernel) ⟨Nat.le_of_ble_eq_true rfl, Nat.le_of_ble_eq_true rfl⟩) (cf_preV (T := TX6) (N := 24) hT hS hW cf_e6 rfl) rfl rfl hl.1 rfl (lv_room (Nat.le_of_ble_eq_true rfl)) dL_law_847 ⟨(by show _ ≤ 765407; omega), (by show _ ≤ 6799882; omega)⟩) hS (fun _ _ h => h) (fun _ h => h) (fun v2 T9 t9 H locs ht hvm hw2 hW hz1 hk1 hS => ?_)
  have hW := cf_W.er ht hW
  have hsim := cf_sim_go hR hw hw2
  refine lv_istore (lv' := [(6, .int v2), (5, .int k1), (4, .int (nI (5 * i))), (3, .ref (ad2 18 0)), (2, .ref (ad2 6 0)), (1, .ref (ad2 5 0)), (0, .ref b)]) hx hb dL_law_850 hl (by decide) rfl (fun ls hl => ?_)
  refine lv_aload_n hx hb dL_law_852 rfl (lv_at hl 4 rfl) ?_
  refine va_calli (va_runV (As := []) (rest := []) ⟨hx, hb, hml, hown, hts⟩ (c_X6_thrown l D cT s.heap.size ad2 nc2 ng2 T9 P2 O2) (cwV 0 hts gL_law_X6_thrown rfl rfl rfl (by decide +kernel) ⟨Nat.le_of_ble_eq_true rfl, Nat.le_of_ble_eq_true rfl⟩) (cf_preV (T := TX6) (N := 24) hT hS hW cf_e6 rfl) rfl rfl hl.1 rfl (lv_room (Nat.le_of_ble_eq_true rfl)) dL_law_853 ⟨(by show _ ≤ 765407; omega), (by show _ ≤ 6799882; omega)⟩) hS (fun _ _ h => h) (fun _ h => h) (fun r3 u3 t9 H locs ht hvm hw3 hW hz1 hk1 hS => ?_)
  have hW := cf_W.er ht hW
  have hW : cf_W D s.heap.size (cf_E cT nc2 ng2 T9 P2 O2 ad2) ad2 H := hW
  have e3 : r3 = k1 := hw3.trans hsim.1
  refine lv_iload hx hb dL_law_856 (lv_at hl 1 rfl) ?_
  refine lv_icmp_eq (tgt := 863) hx hb dL_law_858 (by decide) (fun c858_1 => ?_) (fun c858_1 => (by first | exact absurd e3 c858_1 | exact absurd c858_1 e3))
  refine lv_iload hx hb dL_law_863 (lv_at hl 1 rfl) ?_
  refine lv_if_ne (tgt := 880) hx hb dL_law_865 (by decide) (fun c865_2 => ?_) (fun c865_2 => ?_)
  · refine lv_goto (tgt := 1580) hx hb dL_law_880 (by decide) ?_
    refine lv_iinc (v := (nI (5 * (i + 1)))) (lv' := [(4, .int (nI (5 * (i + 1)))), (6, .int v2), (5, .int k1), (3, .ref (ad2 18 0)), (2, .ref (ad2 6 0)), (1, .ref (ad2 5 0)), (0, .ref b)]) hx hb dL_law_1580 hl (k := 2) rfl (cf_5s i) (by decide) rfl (fun ls hl => ?_)
    refine lv_goto (tgt := 23) hx hb dL_law_1583 (by decide) ?_
    refine W.widen (k := 60 + (i + 1) * 4) (n := 800 + (i + 1) * 24) (by omega) (by omega) ?_
    exact ih _ _ _ (nc2, ng2, T9, P2, O2, ad2) ⟨hW, hS, by rw [← hag3 5 (by simp), ← hag3 6 (by simp), ← hag3 18 (by simp)]; exact lv_sub hl [0, 3, 4, 5, 6] rfl, hsim.2.2, hag3⟩
  · have hval := hsim.2.1 c865_2
    refine lv_aload_n hx hb dL_law_868 rfl (lv_at hl 3 rfl) ?_
    refine lv_iconst (v := 0) hx hb dL_law_869 (by decide) ?_
    refine cf_lald (k := 18) (i := 0) (ad := ad2) hx hb hT.1 hW 2 cf_e18 rfl (show vp_in 0 1 from vp_in_nI (show (0 : Nat) < 1 by decide) (by decide)) dL_law_870 ?_
    refine lv_iload hx hb dL_law_871 (lv_at hl 0 rfl) ?_
    refine lv_i2l (v := v2.toInt64) hx hb dL_law_873 rfl ?_
    refine W.lcmp hx hb dL_law_874 ?_
    have ec : lg_cmp (O2 0) v2.toInt64 = 0 := by rw [show O2 0 = v2.toInt64 from hval]; simp [lg_cmp]
    refine lv_if_eq (tgt := 880) hx hb dL_law_875 (by decide) (fun c875_3 => ?_) (fun c875_3 => (by first | exact absurd ec c875_3 | exact absurd c875_3 ec))
    refine lv_goto (tgt := 1580) hx hb dL_law_880 (by decide) ?_
    refine lv_iinc (v := (nI (5 * (i + 1)))) (lv' := [(4, .int (nI (5 * (i + 1)))), (6, .int v2), (5, .int k1), (3, .ref (ad2 18 0)), (2, .ref (ad2 6 0)), (1, .ref (ad2 5 0)), (0, .ref b)]) hx hb dL_law_1580 hl (k := 2) rfl (cf_5s i) (by decide) rfl (fun ls hl => ?_)
    refine lv_goto (tgt := 23) hx hb dL_law_1583 (by decide) ?_
    refine W.widen (k := 60 + (i + 1) * 4) (n := 800 + (i + 1) * 24) (by omega) (by omega) ?_
    exact ih _ _ _ (nc2, ng2, T9, P2, O2, ad2) ⟨hW, hS, by rw [← hag3 5 (by simp), ← hag3 6 (by simp), ← hag3 18 (by simp)]; exact lv_sub hl [0, 3, 4, 5, 6] rfl, hsim.2.2, hag3⟩

set_option maxHeartbeats 4000000 in
set_option maxRecDepth 100000 in
theorem cf_case_advance (l : Launch) (hl0 : l.stackTraces = false) {p : Program} {e : Env} {s : State} {m : MethodId} {below : List Frame} {meth : Method} {c : Code} {b L : Nat} {xs : Nat → Int32} (hL : L ≤ 2560) (C0 : lw_At p s m meth c b L xs) {D : va_G} {cT : Nat → ClassId} (hT : cf_Tb D cT s.heap.size s s.heap) {ad0 : cf_Ad} {i : Nat} (hi : i < L / 5) {H : Heap} {locs : List Loc} {ls : Array Slot} {u : cf_St} (hI : cf_LI D cT s b ad0 i H locs ls u) (ih : ∀ (H2 : Heap) (locs2 : List Loc) (ls2 : Array Slot) (u2 : cf_St), cf_LI D cT s b ad0 (i + 1) H2 locs2 ls2 u2 → W p l e room_1 s m #[Value.ref b] below meth c H2 locs2 (60 + (i + 1) * 4) (800 + (i + 1) * 24) (lw_Z below #[Value.ref b] s) (F0 m 23 ls2 [])) : W p l e room_1 s m #[Value.ref b] below meth c H locs (60 + i * 4) (800 + i * 24) (lw_Z below #[Value.ref b] s) (F0 m 883 ls []) := by
  obtain ⟨hx, hb, hr, hml, hown, hts0, hX, hbl, hlocks, hgv⟩ := id C0
  have hts : ∀ w ∈ wsL_law, w.before #[Value.ref b] s = true := fun w h => hts0 w (wsL_law_in w h)
  have hbA : ¬ s.heap.size ≤ b := Nat.not_le.mpr hbl
  obtain ⟨nc, ng, S, P, O, ad⟩ := u
  obtain ⟨hW, hS, hl, hR, hag⟩ := hI
  have hW : cf_W D s.heap.size (cf_E cT nc ng S P O ad) ad H := hW
  have hR : cf_R i nc ng S P := hR
  have hag : ∀ k, k = 5 ∨ k = 6 ∨ k = 17 ∨ k = 18 → ad k 0 = ad0 k 0 := hag
  have hl : lv_has ls 7 [(4, .int (nI (5 * i))), (3, .ref (ad 18 0)), (2, .ref (ad 6 0)), (1, .ref (ad 5 0)), (0, .ref b)] := by rw [hag 5 (by simp), hag 6 (by simp), hag 18 (by simp)]; exact hl
  refine lv_aload_n hx hb dL_law_883 rfl (lv_at hl 3 rfl) ?_
  refine lv_aload_n hx hb dL_law_884 rfl (lv_at hl 4 rfl) ?_
  refine lv_iload hx hb dL_law_885 (lv_at hl 0 rfl) ?_
  refine lv_iconst (v := 1) hx hb dL_law_887 (by decide) ?_
  refine lv_iadd hx hb dL_law_888 ?_
  refine cf_sld hx hb hX hbl hbA hS (5 * i + 1) (cf_5k 1) (by omega) (by omega) dL_law_889 ?_
  refine lv_aload_n hx hb dL_law_890 rfl (lv_at hl 1 rfl) ?_
  refine vx_calli (vx_runSX (As := [.ref (ad 5 0), .int (xs (5 * i + 1)), .ref (ad 18 0)]) (rest := []) ⟨hx, hb, hml, hown, hts⟩ (c_L_advance l D cT s.heap.size ad nc ng S P O hl0 (xs (5 * i + 1))) (vx_cwSW 3 hts gL_law_L_advance rfl rfl rfl (by decide +kernel) ⟨Nat.le_of_ble_eq_true rfl, Nat.le_of_ble_eq_true rfl⟩) (cf_preS hT hS hW) rfl rfl hl.1 rfl (lv_room (Nat.le_of_ble_eq_true rfl)) dL_law_891 ⟨(by show _ ≤ 765407; omega), (by show _ ≤ 6799882; omega)⟩) hS (fun _ _ h => h) (fun _ h => h) (fun _ _ h => h) (fun E9 ce q9 u9 t9 H locs ht hvm hu hB hz1 hk1 hS hce hcv hcl => absurd hB.1 id) (fun k1 u1 t9 H locs ht hvm hw hW hz1 hk1 hS => ?_)
  have hW9 := cf_W.er ht hW
  have hpre := cf_pre_advance hR hw
  refine lv_istore (lv' := [(5, .int k1), (4, .int (nI (5 * i))), (3, .ref (ad 18 0)), (2, .ref (ad 6 0)), (1, .ref (ad 5 0)), (0, .ref b)]) hx hb dL_law_894 hl (by decide) rfl (fun ls hl => ?_)
  obtain ⟨hu1, hu2, hag2, hH⟩ := hpre
  obtain ⟨nc2, ng2, S2, P2, O2, ad2⟩ := u1
  have hu1 : nc2 = nc := hu1
  subst hu1
  have hu2 : ng2 = ng := hu2
  subst hu2
  have hW : cf_W D s.heap.size (cf_E cT nc2 ng2 S2 P2 O2 ad2) ad2 H := hW9
  have hag2 : ∀ k, k = 5 ∨ k = 6 ∨ k = 17 ∨ k = 18 → ad2 k 0 = ad k 0 := hag2
  have hH : cf_H nc2 ng2 S2 P2 P := hH
  have hl : lv_has ls 7 [(5, .int k1), (4, .int (nI (5 * i))), (3, .ref (ad2 18 0)), (2, .ref (ad2 6 0)), (1, .ref (ad2 5 0)), (0, .ref b)] := by rw [hag2 5 (by simp), hag2 6 (by simp), hag2 18 (by simp)]; exact hl
  have hag3 : ∀ k, k = 5 ∨ k = 6 ∨ k = 17 ∨ k = 18 → ad2 k 0 = ad0 k 0 := fun k hk => (hag2 k hk).trans (hag k hk)
  refine lv_aload_n hx hb dL_law_896 rfl (lv_at hl 3 rfl) ?_
  refine lv_aload_n hx hb dL_law_897 rfl (lv_at hl 5 rfl) ?_
  refine lv_iload hx hb dL_law_898 (lv_at hl 1 rfl) ?_
  refine lv_iconst (v := 1) hx hb dL_law_900 (by decide) ?_
  refine lv_iadd hx hb dL_law_901 ?_
  refine cf_sld hx hb hX hbl hbA hS (5 * i + 1) (cf_5k 1) (by omega) (by omega) dL_law_902 ?_
  refine va_calli (va_runV (As := [.int (xs (5 * i + 1))]) (rest := []) ⟨hx, hb, hml, hown, hts⟩ (c_X6_advance l D cT s.heap.size ad2 nc2 ng2 S2 P2 O2 (xs (5 * i + 1))) (cwV 1 hts gL_law_X6_advance rfl rfl rfl (by decide +kernel) ⟨Nat.le_of_ble_eq_true rfl, Nat.le_of_ble_eq_true rfl⟩) (cf_preV (T := TX6) (N := 24) hT hS hW cf_e6 rfl) rfl rfl hl.1 rfl (lv_room (Nat.le_of_ble_eq_true rfl)) dL_law_903 ⟨(by show _ ≤ 765407; omega), (by show _ ≤ 6799882; omega)⟩) hS (fun _ _ h => h) (fun _ h => h) (fun v2 T9 t9 H locs ht hvm hw2 hW hz1 hk1 hS => ?_)
  have hW := cf_W.er ht hW
  have hsim := cf_sim_advance hR hw hw2
  refine lv_istore (lv' := [(6, .int v2), (5, .int k1), (4, .int (nI (5 * i))), (3, .ref (ad2 18 0)), (2, .ref (ad2 6 0)), (1, .ref (ad2 5 0)), (0, .ref b)]) hx hb dL_law_906 hl (by decide) rfl (fun ls hl => ?_)
  refine lv_aload_n hx hb dL_law_908 rfl (lv_at hl 4 rfl) ?_
  refine va_calli (va_runV (As := []) (rest := []) ⟨hx, hb, hml, hown, hts⟩ (c_X6_thrown l D cT s.heap.size ad2 nc2 ng2 T9 P2 O2) (cwV 0 hts gL_law_X6_thrown rfl rfl rfl (by decide +kernel) ⟨Nat.le_of_ble_eq_true rfl, Nat.le_of_ble_eq_true rfl⟩) (cf_preV (T := TX6) (N := 24) hT hS hW cf_e6 rfl) rfl rfl hl.1 rfl (lv_room (Nat.le_of_ble_eq_true rfl)) dL_law_909 ⟨(by show _ ≤ 765407; omega), (by show _ ≤ 6799882; omega)⟩) hS (fun _ _ h => h) (fun _ h => h) (fun r3 u3 t9 H locs ht hvm hw3 hW hz1 hk1 hS => ?_)
  have hW := cf_W.er ht hW
  have hW : cf_W D s.heap.size (cf_E cT nc2 ng2 T9 P2 O2 ad2) ad2 H := hW
  have e3 : r3 = k1 := hw3.trans hsim.1
  refine lv_iload hx hb dL_law_912 (lv_at hl 1 rfl) ?_
  refine lv_icmp_eq (tgt := 919) hx hb dL_law_914 (by decide) (fun c914_1 => ?_) (fun c914_1 => (by first | exact absurd e3 c914_1 | exact absurd c914_1 e3))
  refine lv_iload hx hb dL_law_919 (lv_at hl 1 rfl) ?_
  refine lv_if_ne (tgt := 936) hx hb dL_law_921 (by decide) (fun c921_2 => ?_) (fun c921_2 => ?_)
  · refine lv_goto (tgt := 1580) hx hb dL_law_936 (by decide) ?_
    refine lv_iinc (v := (nI (5 * (i + 1)))) (lv' := [(4, .int (nI (5 * (i + 1)))), (6, .int v2), (5, .int k1), (3, .ref (ad2 18 0)), (2, .ref (ad2 6 0)), (1, .ref (ad2 5 0)), (0, .ref b)]) hx hb dL_law_1580 hl (k := 2) rfl (cf_5s i) (by decide) rfl (fun ls hl => ?_)
    refine lv_goto (tgt := 23) hx hb dL_law_1583 (by decide) ?_
    refine W.widen (k := 60 + (i + 1) * 4) (n := 800 + (i + 1) * 24) (by omega) (by omega) ?_
    exact ih _ _ _ (nc2, ng2, T9, P2, O2, ad2) ⟨hW, hS, by rw [← hag3 5 (by simp), ← hag3 6 (by simp), ← hag3 18 (by simp)]; exact lv_sub hl [0, 3, 4, 5, 6] rfl, hsim.2.2, hag3⟩
  · have hval := hsim.2.1 c921_2
    refine lv_aload_n hx hb dL_law_924 rfl (lv_at hl 3 rfl) ?_
    refine lv_iconst (v := 0) hx hb dL_law_925 (by decide) ?_
    refine cf_lald (k := 18) (i := 0) (ad := ad2) hx hb hT.1 hW 2 cf_e18 rfl (show vp_in 0 1 from vp_in_nI (show (0 : Nat) < 1 by decide) (by decide)) dL_law_926 ?_
    refine lv_iload hx hb dL_law_927 (lv_at hl 0 rfl) ?_
    refine lv_i2l (v := v2.toInt64) hx hb dL_law_929 rfl ?_
    refine W.lcmp hx hb dL_law_930 ?_
    have ec : lg_cmp (O2 0) v2.toInt64 = 0 := by rw [show O2 0 = v2.toInt64 from hval]; simp [lg_cmp]
    refine lv_if_eq (tgt := 936) hx hb dL_law_931 (by decide) (fun c931_3 => ?_) (fun c931_3 => (by first | exact absurd ec c931_3 | exact absurd c931_3 ec))
    refine lv_goto (tgt := 1580) hx hb dL_law_936 (by decide) ?_
    refine lv_iinc (v := (nI (5 * (i + 1)))) (lv' := [(4, .int (nI (5 * (i + 1)))), (6, .int v2), (5, .int k1), (3, .ref (ad2 18 0)), (2, .ref (ad2 6 0)), (1, .ref (ad2 5 0)), (0, .ref b)]) hx hb dL_law_1580 hl (k := 2) rfl (cf_5s i) (by decide) rfl (fun ls hl => ?_)
    refine lv_goto (tgt := 23) hx hb dL_law_1583 (by decide) ?_
    refine W.widen (k := 60 + (i + 1) * 4) (n := 800 + (i + 1) * 24) (by omega) (by omega) ?_
    exact ih _ _ _ (nc2, ng2, T9, P2, O2, ad2) ⟨hW, hS, by rw [← hag3 5 (by simp), ← hag3 6 (by simp), ← hag3 18 (by simp)]; exact lv_sub hl [0, 3, 4, 5, 6] rfl, hsim.2.2, hag3⟩

set_option maxHeartbeats 4000000 in
set_option maxRecDepth 100000 in
theorem cf_case_lend (l : Launch) (hl0 : l.stackTraces = false) {p : Program} {e : Env} {s : State} {m : MethodId} {below : List Frame} {meth : Method} {c : Code} {b L : Nat} {xs : Nat → Int32} (hL : L ≤ 2560) (C0 : lw_At p s m meth c b L xs) {D : va_G} {cT : Nat → ClassId} (hT : cf_Tb D cT s.heap.size s s.heap) {ad0 : cf_Ad} {i : Nat} (hi : i < L / 5) {H : Heap} {locs : List Loc} {ls : Array Slot} {u : cf_St} (hI : cf_LI D cT s b ad0 i H locs ls u) (ih : ∀ (H2 : Heap) (locs2 : List Loc) (ls2 : Array Slot) (u2 : cf_St), cf_LI D cT s b ad0 (i + 1) H2 locs2 ls2 u2 → W p l e room_1 s m #[Value.ref b] below meth c H2 locs2 (60 + (i + 1) * 4) (800 + (i + 1) * 24) (lw_Z below #[Value.ref b] s) (F0 m 23 ls2 [])) : W p l e room_1 s m #[Value.ref b] below meth c H locs (60 + i * 4) (800 + i * 24) (lw_Z below #[Value.ref b] s) (F0 m 939 ls []) := by
  obtain ⟨hx, hb, hr, hml, hown, hts0, hX, hbl, hlocks, hgv⟩ := id C0
  have hts : ∀ w ∈ wsL_law, w.before #[Value.ref b] s = true := fun w h => hts0 w (wsL_law_in w h)
  have hbA : ¬ s.heap.size ≤ b := Nat.not_le.mpr hbl
  obtain ⟨nc, ng, S, P, O, ad⟩ := u
  obtain ⟨hW, hS, hl, hR, hag⟩ := hI
  have hW : cf_W D s.heap.size (cf_E cT nc ng S P O ad) ad H := hW
  have hR : cf_R i nc ng S P := hR
  have hag : ∀ k, k = 5 ∨ k = 6 ∨ k = 17 ∨ k = 18 → ad k 0 = ad0 k 0 := hag
  have hl : lv_has ls 7 [(4, .int (nI (5 * i))), (3, .ref (ad 18 0)), (2, .ref (ad 6 0)), (1, .ref (ad 5 0)), (0, .ref b)] := by rw [hag 5 (by simp), hag 6 (by simp), hag 18 (by simp)]; exact hl
  refine lv_aload_n hx hb dL_law_939 rfl (lv_at hl 3 rfl) ?_
  refine lv_aload_n hx hb dL_law_940 rfl (lv_at hl 4 rfl) ?_
  refine lv_iload hx hb dL_law_941 (lv_at hl 0 rfl) ?_
  refine lv_iconst (v := 1) hx hb dL_law_943 (by decide) ?_
  refine lv_iadd hx hb dL_law_944 ?_
  refine cf_sld hx hb hX hbl hbA hS (5 * i + 1) (cf_5k 1) (by omega) (by omega) dL_law_945 ?_
  refine lv_aload_n hx hb dL_law_946 rfl (lv_at hl 4 rfl) ?_
  refine lv_iload hx hb dL_law_947 (lv_at hl 0 rfl) ?_
  refine lv_iconst (v := 2) hx hb dL_law_949 (by decide) ?_
  refine lv_iadd hx hb dL_law_950 ?_
  refine cf_sld hx hb hX hbl hbA hS (5 * i + 2) (cf_5k 2) (by omega) (by omega) dL_law_951 ?_
  refine lv_aload_n hx hb dL_law_952 rfl (lv_at hl 1 rfl) ?_
  refine vx_calli (vx_runSX (As := [.ref (ad 5 0), .int (xs (5 * i + 1)), .int (xs (5 * i + 2)), .ref (ad 18 0)]) (rest := []) ⟨hx, hb, hml, hown, hts⟩ (c_L_lend l D cT s.heap.size ad nc ng S P O hl0 (xs (5 * i + 1)) (xs (5 * i + 2)) hR.1.1 (fun j _ => hR.O j)) (vx_cwSW 4 hts gL_law_L_lend rfl rfl rfl (by decide +kernel) ⟨Nat.le_of_ble_eq_true rfl, Nat.le_of_ble_eq_true rfl⟩) (cf_preS hT hS hW) rfl rfl hl.1 rfl (lv_room (Nat.le_of_ble_eq_true rfl)) dL_law_953 ⟨(by show _ ≤ 765407; omega), (by show _ ≤ 6799882; omega)⟩) hS (fun _ _ h => h) (fun _ h => h) (fun _ _ h => h) (fun E9 ce q9 u9 t9 H locs ht hvm hu hB hz1 hk1 hS hce hcv hcl => absurd hB.1 id) (fun k1 u1 t9 H locs ht hvm hw hW hz1 hk1 hS => ?_)
  have hW9 := cf_W.er ht hW
  have hpre := cf_pre_lend hR hw
  refine lv_istore (lv' := [(5, .int k1), (4, .int (nI (5 * i))), (3, .ref (ad 18 0)), (2, .ref (ad 6 0)), (1, .ref (ad 5 0)), (0, .ref b)]) hx hb dL_law_956 hl (by decide) rfl (fun ls hl => ?_)
  obtain ⟨hu1, hu2, hag2, hH⟩ := hpre
  obtain ⟨nc2, ng2, S2, P2, O2, ad2⟩ := u1
  have hu1 : nc2 = nc := hu1
  subst hu1
  have hu2 : ng2 = ng := hu2
  subst hu2
  have hW : cf_W D s.heap.size (cf_E cT nc2 ng2 S2 P2 O2 ad2) ad2 H := hW9
  have hag2 : ∀ k, k = 5 ∨ k = 6 ∨ k = 17 ∨ k = 18 → ad2 k 0 = ad k 0 := hag2
  have hH : cf_H nc2 ng2 S2 P2 P := hH
  have hl : lv_has ls 7 [(5, .int k1), (4, .int (nI (5 * i))), (3, .ref (ad2 18 0)), (2, .ref (ad2 6 0)), (1, .ref (ad2 5 0)), (0, .ref b)] := by rw [hag2 5 (by simp), hag2 6 (by simp), hag2 18 (by simp)]; exact hl
  have hag3 : ∀ k, k = 5 ∨ k = 6 ∨ k = 17 ∨ k = 18 → ad2 k 0 = ad0 k 0 := fun k hk => (hag2 k hk).trans (hag k hk)
  refine lv_aload_n hx hb dL_law_958 rfl (lv_at hl 3 rfl) ?_
  refine lv_aload_n hx hb dL_law_959 rfl (lv_at hl 5 rfl) ?_
  refine lv_iload hx hb dL_law_960 (lv_at hl 1 rfl) ?_
  refine lv_iconst (v := 1) hx hb dL_law_962 (by decide) ?_
  refine lv_iadd hx hb dL_law_963 ?_
  refine cf_sld hx hb hX hbl hbA hS (5 * i + 1) (cf_5k 1) (by omega) (by omega) dL_law_964 ?_
  refine lv_aload_n hx hb dL_law_965 rfl (lv_at hl 5 rfl) ?_
  refine lv_iload hx hb dL_law_966 (lv_at hl 1 rfl) ?_
  refine lv_iconst (v := 2) hx hb dL_law_968 (by decide) ?_
  refine lv_iadd hx hb dL_law_969 ?_
  refine cf_sld hx hb hX hbl hbA hS (5 * i + 2) (cf_5k 2) (by omega) (by omega) dL_law_970 ?_
  refine va_calli (va_runV (As := [.int (xs (5 * i + 1)), .int (xs (5 * i + 2))]) (rest := []) ⟨hx, hb, hml, hown, hts⟩ (c_X6_lend l D cT s.heap.size ad2 nc2 ng2 S2 P2 O2 (xs (5 * i + 1)) (xs (5 * i + 2)) hH.1 hH.2.1) (cwV 2 hts gL_law_X6_lend rfl rfl rfl (by decide +kernel) ⟨Nat.le_of_ble_eq_true rfl, Nat.le_of_ble_eq_true rfl⟩) (cf_preV (T := TX6) (N := 24) hT hS hW cf_e6 rfl) rfl rfl hl.1 rfl (lv_room (Nat.le_of_ble_eq_true rfl)) dL_law_971 ⟨(by show _ ≤ 765407; omega), (by show _ ≤ 6799882; omega)⟩) hS (fun _ _ h => h) (fun _ h => h) (fun v2 T9 t9 H locs ht hvm hw2 hW hz1 hk1 hS => ?_)
  have hW := cf_W.er ht hW
  have hsim := cf_sim_lend hR hw hw2
  refine lv_istore (lv' := [(6, .int v2), (5, .int k1), (4, .int (nI (5 * i))), (3, .ref (ad2 18 0)), (2, .ref (ad2 6 0)), (1, .ref (ad2 5 0)), (0, .ref b)]) hx hb dL_law_974 hl (by decide) rfl (fun ls hl => ?_)
  refine lv_aload_n hx hb dL_law_976 rfl (lv_at hl 4 rfl) ?_
  refine va_calli (va_runV (As := []) (rest := []) ⟨hx, hb, hml, hown, hts⟩ (c_X6_thrown l D cT s.heap.size ad2 nc2 ng2 T9 P2 O2) (cwV 0 hts gL_law_X6_thrown rfl rfl rfl (by decide +kernel) ⟨Nat.le_of_ble_eq_true rfl, Nat.le_of_ble_eq_true rfl⟩) (cf_preV (T := TX6) (N := 24) hT hS hW cf_e6 rfl) rfl rfl hl.1 rfl (lv_room (Nat.le_of_ble_eq_true rfl)) dL_law_977 ⟨(by show _ ≤ 765407; omega), (by show _ ≤ 6799882; omega)⟩) hS (fun _ _ h => h) (fun _ h => h) (fun r3 u3 t9 H locs ht hvm hw3 hW hz1 hk1 hS => ?_)
  have hW := cf_W.er ht hW
  have hW : cf_W D s.heap.size (cf_E cT nc2 ng2 T9 P2 O2 ad2) ad2 H := hW
  have e3 : r3 = k1 := hw3.trans hsim.1
  refine lv_iload hx hb dL_law_980 (lv_at hl 1 rfl) ?_
  refine lv_icmp_eq (tgt := 987) hx hb dL_law_982 (by decide) (fun c982_1 => ?_) (fun c982_1 => (by first | exact absurd e3 c982_1 | exact absurd c982_1 e3))
  refine lv_iload hx hb dL_law_987 (lv_at hl 1 rfl) ?_
  refine lv_if_ne (tgt := 1004) hx hb dL_law_989 (by decide) (fun c989_2 => ?_) (fun c989_2 => ?_)
  · refine lv_goto (tgt := 1580) hx hb dL_law_1004 (by decide) ?_
    refine lv_iinc (v := (nI (5 * (i + 1)))) (lv' := [(4, .int (nI (5 * (i + 1)))), (6, .int v2), (5, .int k1), (3, .ref (ad2 18 0)), (2, .ref (ad2 6 0)), (1, .ref (ad2 5 0)), (0, .ref b)]) hx hb dL_law_1580 hl (k := 2) rfl (cf_5s i) (by decide) rfl (fun ls hl => ?_)
    refine lv_goto (tgt := 23) hx hb dL_law_1583 (by decide) ?_
    refine W.widen (k := 60 + (i + 1) * 4) (n := 800 + (i + 1) * 24) (by omega) (by omega) ?_
    exact ih _ _ _ (nc2, ng2, T9, P2, O2, ad2) ⟨hW, hS, by rw [← hag3 5 (by simp), ← hag3 6 (by simp), ← hag3 18 (by simp)]; exact lv_sub hl [0, 3, 4, 5, 6] rfl, hsim.2.2, hag3⟩
  · have hval := hsim.2.1 c989_2
    refine lv_aload_n hx hb dL_law_992 rfl (lv_at hl 3 rfl) ?_
    refine lv_iconst (v := 0) hx hb dL_law_993 (by decide) ?_
    refine cf_lald (k := 18) (i := 0) (ad := ad2) hx hb hT.1 hW 2 cf_e18 rfl (show vp_in 0 1 from vp_in_nI (show (0 : Nat) < 1 by decide) (by decide)) dL_law_994 ?_
    refine lv_iload hx hb dL_law_995 (lv_at hl 0 rfl) ?_
    refine lv_i2l (v := v2.toInt64) hx hb dL_law_997 rfl ?_
    refine W.lcmp hx hb dL_law_998 ?_
    have ec : lg_cmp (O2 0) v2.toInt64 = 0 := by rw [show O2 0 = v2.toInt64 from hval]; simp [lg_cmp]
    refine lv_if_eq (tgt := 1004) hx hb dL_law_999 (by decide) (fun c999_3 => ?_) (fun c999_3 => (by first | exact absurd ec c999_3 | exact absurd c999_3 ec))
    refine lv_goto (tgt := 1580) hx hb dL_law_1004 (by decide) ?_
    refine lv_iinc (v := (nI (5 * (i + 1)))) (lv' := [(4, .int (nI (5 * (i + 1)))), (6, .int v2), (5, .int k1), (3, .ref (ad2 18 0)), (2, .ref (ad2 6 0)), (1, .ref (ad2 5 0)), (0, .ref b)]) hx hb dL_law_1580 hl (k := 2) rfl (cf_5s i) (by decide) rfl (fun ls hl => ?_)
    refine lv_goto (tgt := 23) hx hb dL_law_1583 (by decide) ?_
    refine W.widen (k := 60 + (i + 1) * 4) (n := 800 + (i + 1) * 24) (by omega) (by omega) ?_
    exact ih _ _ _ (nc2, ng2, T9, P2, O2, ad2) ⟨hW, hS, by rw [← hag3 5 (by simp), ← hag3 6 (by simp), ← hag3 18 (by simp)]; exact lv_sub hl [0, 3, 4, 5, 6] rfl, hsim.2.2, hag3⟩

set_option maxHeartbeats 4000000 in
set_option maxRecDepth 100000 in
theorem cf_case_giveBack (l : Launch) (hl0 : l.stackTraces = false) {p : Program} {e : Env} {s : State} {m : MethodId} {below : List Frame} {meth : Method} {c : Code} {b L : Nat} {xs : Nat → Int32} (hL : L ≤ 2560) (C0 : lw_At p s m meth c b L xs) {D : va_G} {cT : Nat → ClassId} (hT : cf_Tb D cT s.heap.size s s.heap) {ad0 : cf_Ad} {i : Nat} (hi : i < L / 5) {H : Heap} {locs : List Loc} {ls : Array Slot} {u : cf_St} (hI : cf_LI D cT s b ad0 i H locs ls u) (ih : ∀ (H2 : Heap) (locs2 : List Loc) (ls2 : Array Slot) (u2 : cf_St), cf_LI D cT s b ad0 (i + 1) H2 locs2 ls2 u2 → W p l e room_1 s m #[Value.ref b] below meth c H2 locs2 (60 + (i + 1) * 4) (800 + (i + 1) * 24) (lw_Z below #[Value.ref b] s) (F0 m 23 ls2 [])) : W p l e room_1 s m #[Value.ref b] below meth c H locs (60 + i * 4) (800 + i * 24) (lw_Z below #[Value.ref b] s) (F0 m 1007 ls []) := by
  obtain ⟨hx, hb, hr, hml, hown, hts0, hX, hbl, hlocks, hgv⟩ := id C0
  have hts : ∀ w ∈ wsL_law, w.before #[Value.ref b] s = true := fun w h => hts0 w (wsL_law_in w h)
  have hbA : ¬ s.heap.size ≤ b := Nat.not_le.mpr hbl
  obtain ⟨nc, ng, S, P, O, ad⟩ := u
  obtain ⟨hW, hS, hl, hR, hag⟩ := hI
  have hW : cf_W D s.heap.size (cf_E cT nc ng S P O ad) ad H := hW
  have hR : cf_R i nc ng S P := hR
  have hag : ∀ k, k = 5 ∨ k = 6 ∨ k = 17 ∨ k = 18 → ad k 0 = ad0 k 0 := hag
  have hl : lv_has ls 7 [(4, .int (nI (5 * i))), (3, .ref (ad 18 0)), (2, .ref (ad 6 0)), (1, .ref (ad 5 0)), (0, .ref b)] := by rw [hag 5 (by simp), hag 6 (by simp), hag 18 (by simp)]; exact hl
  refine lv_aload_n hx hb dL_law_1007 rfl (lv_at hl 3 rfl) ?_
  refine lv_aload_n hx hb dL_law_1008 rfl (lv_at hl 4 rfl) ?_
  refine lv_iload hx hb dL_law_1009 (lv_at hl 0 rfl) ?_
  refine lv_iconst (v := 1) hx hb dL_law_1011 (by decide) ?_
  refine lv_iadd hx hb dL_law_1012 ?_
  refine cf_sld hx hb hX hbl hbA hS (5 * i + 1) (cf_5k 1) (by omega) (by omega) dL_law_1013 ?_
  refine lv_aload_n hx hb dL_law_1014 rfl (lv_at hl 4 rfl) ?_
  refine lv_iload hx hb dL_law_1015 (lv_at hl 0 rfl) ?_
  refine lv_iconst (v := 2) hx hb dL_law_1017 (by decide) ?_
  refine lv_iadd hx hb dL_law_1018 ?_
  refine cf_sld hx hb hX hbl hbA hS (5 * i + 2) (cf_5k 2) (by omega) (by omega) dL_law_1019 ?_
  refine lv_aload_n hx hb dL_law_1020 rfl (lv_at hl 4 rfl) ?_
  refine lv_iload hx hb dL_law_1021 (lv_at hl 0 rfl) ?_
  refine lv_iconst (v := 3) hx hb dL_law_1023 (by decide) ?_
  refine lv_iadd hx hb dL_law_1024 ?_
  refine cf_sld hx hb hX hbl hbA hS (5 * i + 3) (cf_5k 3) (by omega) (by omega) dL_law_1025 ?_
  refine lv_aload_n hx hb dL_law_1026 rfl (lv_at hl 1 rfl) ?_
  refine vx_calli (vx_runSX (As := [.ref (ad 5 0), .int (xs (5 * i + 1)), .int (xs (5 * i + 2)), .int (xs (5 * i + 3)), .ref (ad 18 0)]) (rest := []) ⟨hx, hb, hml, hown, hts⟩ (c_L_giveBack l D cT s.heap.size ad nc ng S P O hl0 (xs (5 * i + 1)) (xs (5 * i + 2)) (xs (5 * i + 3)) (fun j _ => hR.B j)) (vx_cwSW 5 hts gL_law_L_giveBack rfl rfl rfl (by decide +kernel) ⟨Nat.le_of_ble_eq_true rfl, Nat.le_of_ble_eq_true rfl⟩) (cf_preS hT hS hW) rfl rfl hl.1 rfl (lv_room (Nat.le_of_ble_eq_true rfl)) dL_law_1027 ⟨(by show _ ≤ 765407; omega), (by show _ ≤ 6799882; omega)⟩) hS (fun _ _ h => h) (fun _ h => h) (fun _ _ h => h) (fun E9 ce q9 u9 t9 H locs ht hvm hu hB hz1 hk1 hS hce hcv hcl => absurd hB.1 id) (fun k1 u1 t9 H locs ht hvm hw hW hz1 hk1 hS => ?_)
  have hW9 := cf_W.er ht hW
  have hpre := cf_pre_giveBack hR hw
  refine lv_istore (lv' := [(5, .int k1), (4, .int (nI (5 * i))), (3, .ref (ad 18 0)), (2, .ref (ad 6 0)), (1, .ref (ad 5 0)), (0, .ref b)]) hx hb dL_law_1030 hl (by decide) rfl (fun ls hl => ?_)
  obtain ⟨hu1, hu2, hag2, hH⟩ := hpre
  obtain ⟨nc2, ng2, S2, P2, O2, ad2⟩ := u1
  have hu1 : nc2 = nc := hu1
  subst hu1
  have hu2 : ng2 = ng := hu2
  subst hu2
  have hW : cf_W D s.heap.size (cf_E cT nc2 ng2 S2 P2 O2 ad2) ad2 H := hW9
  have hag2 : ∀ k, k = 5 ∨ k = 6 ∨ k = 17 ∨ k = 18 → ad2 k 0 = ad k 0 := hag2
  have hH : cf_H nc2 ng2 S2 P2 P := hH
  have hl : lv_has ls 7 [(5, .int k1), (4, .int (nI (5 * i))), (3, .ref (ad2 18 0)), (2, .ref (ad2 6 0)), (1, .ref (ad2 5 0)), (0, .ref b)] := by rw [hag2 5 (by simp), hag2 6 (by simp), hag2 18 (by simp)]; exact hl
  have hag3 : ∀ k, k = 5 ∨ k = 6 ∨ k = 17 ∨ k = 18 → ad2 k 0 = ad0 k 0 := fun k hk => (hag2 k hk).trans (hag k hk)
  refine lv_aload_n hx hb dL_law_1032 rfl (lv_at hl 3 rfl) ?_
  refine lv_aload_n hx hb dL_law_1033 rfl (lv_at hl 5 rfl) ?_
  refine lv_iload hx hb dL_law_1034 (lv_at hl 1 rfl) ?_
  refine lv_iconst (v := 1) hx hb dL_law_1036 (by decide) ?_
  refine lv_iadd hx hb dL_law_1037 ?_
  refine cf_sld hx hb hX hbl hbA hS (5 * i + 1) (cf_5k 1) (by omega) (by omega) dL_law_1038 ?_
  refine lv_aload_n hx hb dL_law_1039 rfl (lv_at hl 5 rfl) ?_
  refine lv_iload hx hb dL_law_1040 (lv_at hl 1 rfl) ?_
  refine lv_iconst (v := 2) hx hb dL_law_1042 (by decide) ?_
  refine lv_iadd hx hb dL_law_1043 ?_
  refine cf_sld hx hb hX hbl hbA hS (5 * i + 2) (cf_5k 2) (by omega) (by omega) dL_law_1044 ?_
  refine lv_aload_n hx hb dL_law_1045 rfl (lv_at hl 5 rfl) ?_
  refine lv_iload hx hb dL_law_1046 (lv_at hl 1 rfl) ?_
  refine lv_iconst (v := 3) hx hb dL_law_1048 (by decide) ?_
  refine lv_iadd hx hb dL_law_1049 ?_
  refine cf_sld hx hb hX hbl hbA hS (5 * i + 3) (cf_5k 3) (by omega) (by omega) dL_law_1050 ?_
  refine va_calli (va_runV (As := [.int (xs (5 * i + 1)), .int (xs (5 * i + 2)), .int (xs (5 * i + 3))]) (rest := []) ⟨hx, hb, hml, hown, hts⟩ (c_X6_giveBack l D cT s.heap.size ad2 nc2 ng2 S2 P2 O2 (xs (5 * i + 1)) (xs (5 * i + 2)) (xs (5 * i + 3)) hH.2.1 hH.2.2.2.2.2.2) (cwV 3 hts gL_law_X6_giveBack rfl rfl rfl (by decide +kernel) ⟨Nat.le_of_ble_eq_true rfl, Nat.le_of_ble_eq_true rfl⟩) (cf_preV (T := TX6) (N := 24) hT hS hW cf_e6 rfl) rfl rfl hl.1 rfl (lv_room (Nat.le_of_ble_eq_true rfl)) dL_law_1051 ⟨(by show _ ≤ 765407; omega), (by show _ ≤ 6799882; omega)⟩) hS (fun _ _ h => h) (fun _ h => h) (fun v2 T9 t9 H locs ht hvm hw2 hW hz1 hk1 hS => ?_)
  have hW := cf_W.er ht hW
  have hsim := cf_sim_giveBack hR hw hw2
  refine lv_istore (lv' := [(6, .int v2), (5, .int k1), (4, .int (nI (5 * i))), (3, .ref (ad2 18 0)), (2, .ref (ad2 6 0)), (1, .ref (ad2 5 0)), (0, .ref b)]) hx hb dL_law_1054 hl (by decide) rfl (fun ls hl => ?_)
  refine lv_aload_n hx hb dL_law_1056 rfl (lv_at hl 4 rfl) ?_
  refine va_calli (va_runV (As := []) (rest := []) ⟨hx, hb, hml, hown, hts⟩ (c_X6_thrown l D cT s.heap.size ad2 nc2 ng2 T9 P2 O2) (cwV 0 hts gL_law_X6_thrown rfl rfl rfl (by decide +kernel) ⟨Nat.le_of_ble_eq_true rfl, Nat.le_of_ble_eq_true rfl⟩) (cf_preV (T := TX6) (N := 24) hT hS hW cf_e6 rfl) rfl rfl hl.1 rfl (lv_room (Nat.le_of_ble_eq_true rfl)) dL_law_1057 ⟨(by show _ ≤ 765407; omega), (by show _ ≤ 6799882; omega)⟩) hS (fun _ _ h => h) (fun _ h => h) (fun r3 u3 t9 H locs ht hvm hw3 hW hz1 hk1 hS => ?_)
  have hW := cf_W.er ht hW
  have hW : cf_W D s.heap.size (cf_E cT nc2 ng2 T9 P2 O2 ad2) ad2 H := hW
  have e3 : r3 = k1 := hw3.trans hsim.1
  refine lv_iload hx hb dL_law_1060 (lv_at hl 1 rfl) ?_
  refine lv_icmp_eq (tgt := 1067) hx hb dL_law_1062 (by decide) (fun c1062_1 => ?_) (fun c1062_1 => (by first | exact absurd e3 c1062_1 | exact absurd c1062_1 e3))
  refine lv_iload hx hb dL_law_1067 (lv_at hl 1 rfl) ?_
  refine lv_if_ne (tgt := 1084) hx hb dL_law_1069 (by decide) (fun c1069_2 => ?_) (fun c1069_2 => ?_)
  · refine lv_goto (tgt := 1580) hx hb dL_law_1084 (by decide) ?_
    refine lv_iinc (v := (nI (5 * (i + 1)))) (lv' := [(4, .int (nI (5 * (i + 1)))), (6, .int v2), (5, .int k1), (3, .ref (ad2 18 0)), (2, .ref (ad2 6 0)), (1, .ref (ad2 5 0)), (0, .ref b)]) hx hb dL_law_1580 hl (k := 2) rfl (cf_5s i) (by decide) rfl (fun ls hl => ?_)
    refine lv_goto (tgt := 23) hx hb dL_law_1583 (by decide) ?_
    refine W.widen (k := 60 + (i + 1) * 4) (n := 800 + (i + 1) * 24) (by omega) (by omega) ?_
    exact ih _ _ _ (nc2, ng2, T9, P2, O2, ad2) ⟨hW, hS, by rw [← hag3 5 (by simp), ← hag3 6 (by simp), ← hag3 18 (by simp)]; exact lv_sub hl [0, 3, 4, 5, 6] rfl, hsim.2.2, hag3⟩
  · have hval := hsim.2.1 c1069_2
    refine lv_aload_n hx hb dL_law_1072 rfl (lv_at hl 3 rfl) ?_
    refine lv_iconst (v := 0) hx hb dL_law_1073 (by decide) ?_
    refine cf_lald (k := 18) (i := 0) (ad := ad2) hx hb hT.1 hW 2 cf_e18 rfl (show vp_in 0 1 from vp_in_nI (show (0 : Nat) < 1 by decide) (by decide)) dL_law_1074 ?_
    refine lv_iload hx hb dL_law_1075 (lv_at hl 0 rfl) ?_
    refine lv_i2l (v := v2.toInt64) hx hb dL_law_1077 rfl ?_
    refine W.lcmp hx hb dL_law_1078 ?_
    have ec : lg_cmp (O2 0) v2.toInt64 = 0 := by rw [show O2 0 = v2.toInt64 from hval]; simp [lg_cmp]
    refine lv_if_eq (tgt := 1084) hx hb dL_law_1079 (by decide) (fun c1079_3 => ?_) (fun c1079_3 => (by first | exact absurd ec c1079_3 | exact absurd c1079_3 ec))
    refine lv_goto (tgt := 1580) hx hb dL_law_1084 (by decide) ?_
    refine lv_iinc (v := (nI (5 * (i + 1)))) (lv' := [(4, .int (nI (5 * (i + 1)))), (6, .int v2), (5, .int k1), (3, .ref (ad2 18 0)), (2, .ref (ad2 6 0)), (1, .ref (ad2 5 0)), (0, .ref b)]) hx hb dL_law_1580 hl (k := 2) rfl (cf_5s i) (by decide) rfl (fun ls hl => ?_)
    refine lv_goto (tgt := 23) hx hb dL_law_1583 (by decide) ?_
    refine W.widen (k := 60 + (i + 1) * 4) (n := 800 + (i + 1) * 24) (by omega) (by omega) ?_
    exact ih _ _ _ (nc2, ng2, T9, P2, O2, ad2) ⟨hW, hS, by rw [← hag3 5 (by simp), ← hag3 6 (by simp), ← hag3 18 (by simp)]; exact lv_sub hl [0, 3, 4, 5, 6] rfl, hsim.2.2, hag3⟩

set_option maxHeartbeats 4000000 in
set_option maxRecDepth 100000 in
theorem cf_case_parts (l : Launch) (hl0 : l.stackTraces = false) {p : Program} {e : Env} {s : State} {m : MethodId} {below : List Frame} {meth : Method} {c : Code} {b L : Nat} {xs : Nat → Int32} (hL : L ≤ 2560) (C0 : lw_At p s m meth c b L xs) {D : va_G} {cT : Nat → ClassId} (hT : cf_Tb D cT s.heap.size s s.heap) {ad0 : cf_Ad} {i : Nat} (hi : i < L / 5) {H : Heap} {locs : List Loc} {ls : Array Slot} {u : cf_St} (hI : cf_LI D cT s b ad0 i H locs ls u) (ih : ∀ (H2 : Heap) (locs2 : List Loc) (ls2 : Array Slot) (u2 : cf_St), cf_LI D cT s b ad0 (i + 1) H2 locs2 ls2 u2 → W p l e room_1 s m #[Value.ref b] below meth c H2 locs2 (60 + (i + 1) * 4) (800 + (i + 1) * 24) (lw_Z below #[Value.ref b] s) (F0 m 23 ls2 [])) : W p l e room_1 s m #[Value.ref b] below meth c H locs (60 + i * 4) (800 + i * 24) (lw_Z below #[Value.ref b] s) (F0 m 1113 ls []) := by
  obtain ⟨hx, hb, hr, hml, hown, hts0, hX, hbl, hlocks, hgv⟩ := id C0
  have hts : ∀ w ∈ wsL_law, w.before #[Value.ref b] s = true := fun w h => hts0 w (wsL_law_in w h)
  have hbA : ¬ s.heap.size ≤ b := Nat.not_le.mpr hbl
  obtain ⟨nc, ng, S, P, O, ad⟩ := u
  obtain ⟨hW, hS, hl, hR, hag⟩ := hI
  have hW : cf_W D s.heap.size (cf_E cT nc ng S P O ad) ad H := hW
  have hR : cf_R i nc ng S P := hR
  have hag : ∀ k, k = 5 ∨ k = 6 ∨ k = 17 ∨ k = 18 → ad k 0 = ad0 k 0 := hag
  have hl : lv_has ls 7 [(4, .int (nI (5 * i))), (3, .ref (ad 18 0)), (2, .ref (ad 6 0)), (1, .ref (ad 5 0)), (0, .ref b)] := by rw [hag 5 (by simp), hag 6 (by simp), hag 18 (by simp)]; exact hl
  refine lv_aload_n hx hb dL_law_1113 rfl (lv_at hl 3 rfl) ?_
  refine lv_aload_n hx hb dL_law_1114 rfl (lv_at hl 4 rfl) ?_
  refine lv_iload hx hb dL_law_1115 (lv_at hl 0 rfl) ?_
  refine lv_iconst (v := 1) hx hb dL_law_1117 (by decide) ?_
  refine lv_iadd hx hb dL_law_1118 ?_
  refine cf_sld hx hb hX hbl hbA hS (5 * i + 1) (cf_5k 1) (by omega) (by omega) dL_law_1119 ?_
  refine lv_aload_n hx hb dL_law_1120 rfl (lv_at hl 4 rfl) ?_
  refine lv_iload hx hb dL_law_1121 (lv_at hl 0 rfl) ?_
  refine lv_iconst (v := 2) hx hb dL_law_1123 (by decide) ?_
  refine lv_iadd hx hb dL_law_1124 ?_
  refine cf_sld hx hb hX hbl hbA hS (5 * i + 2) (cf_5k 2) (by omega) (by omega) dL_law_1125 ?_
  refine lv_aload_n hx hb dL_law_1126 rfl (lv_at hl 1 rfl) ?_
  refine vx_calli (vx_runSX (As := [.ref (ad 5 0), .int (xs (5 * i + 1)), .int (xs (5 * i + 2)), .ref (ad 18 0)]) (rest := []) ⟨hx, hb, hml, hown, hts⟩ (c_L_parts l D cT s.heap.size ad nc ng S P O hl0 (xs (5 * i + 1)) (xs (5 * i + 2)) hR.1.1 (fun j _ => hR.O j)) (vx_cwSW 4 hts gL_law_L_parts rfl rfl rfl (by decide +kernel) ⟨Nat.le_of_ble_eq_true rfl, Nat.le_of_ble_eq_true rfl⟩) (cf_preS hT hS hW) rfl rfl hl.1 rfl (lv_room (Nat.le_of_ble_eq_true rfl)) dL_law_1127 ⟨(by show _ ≤ 765407; omega), (by show _ ≤ 6799882; omega)⟩) hS (fun _ _ h => h) (fun _ h => h) (fun _ _ h => h) (fun E9 ce q9 u9 t9 H locs ht hvm hu hB hz1 hk1 hS hce hcv hcl => absurd hB.1 id) (fun k1 u1 t9 H locs ht hvm hw hW hz1 hk1 hS => ?_)
  have hW9 := cf_W.er ht hW
  have hpre := cf_pre_parts hR hw
  refine lv_istore (lv' := [(5, .int k1), (4, .int (nI (5 * i))), (3, .ref (ad 18 0)), (2, .ref (ad 6 0)), (1, .ref (ad 5 0)), (0, .ref b)]) hx hb dL_law_1130 hl (by decide) rfl (fun ls hl => ?_)
  obtain ⟨hu1, hu2, hag2, hH⟩ := hpre
  obtain ⟨nc2, ng2, S2, P2, O2, ad2⟩ := u1
  have hu1 : nc2 = nc := hu1
  subst hu1
  have hu2 : ng2 = ng := hu2
  subst hu2
  have hW : cf_W D s.heap.size (cf_E cT nc2 ng2 S2 P2 O2 ad2) ad2 H := hW9
  have hag2 : ∀ k, k = 5 ∨ k = 6 ∨ k = 17 ∨ k = 18 → ad2 k 0 = ad k 0 := hag2
  have hH : cf_H nc2 ng2 S2 P2 P := hH
  have hl : lv_has ls 7 [(5, .int k1), (4, .int (nI (5 * i))), (3, .ref (ad2 18 0)), (2, .ref (ad2 6 0)), (1, .ref (ad2 5 0)), (0, .ref b)] := by rw [hag2 5 (by simp), hag2 6 (by simp), hag2 18 (by simp)]; exact hl
  have hag3 : ∀ k, k = 5 ∨ k = 6 ∨ k = 17 ∨ k = 18 → ad2 k 0 = ad0 k 0 := fun k hk => (hag2 k hk).trans (hag k hk)
  refine lv_aload_n hx hb dL_law_1132 rfl (lv_at hl 3 rfl) ?_
  refine lv_aload_n hx hb dL_law_1133 rfl (lv_at hl 5 rfl) ?_
  refine lv_iload hx hb dL_law_1134 (lv_at hl 1 rfl) ?_
  refine lv_iconst (v := 1) hx hb dL_law_1136 (by decide) ?_
  refine lv_iadd hx hb dL_law_1137 ?_
  refine cf_sld hx hb hX hbl hbA hS (5 * i + 1) (cf_5k 1) (by omega) (by omega) dL_law_1138 ?_
  refine lv_aload_n hx hb dL_law_1139 rfl (lv_at hl 5 rfl) ?_
  refine lv_iload hx hb dL_law_1140 (lv_at hl 1 rfl) ?_
  refine lv_iconst (v := 2) hx hb dL_law_1142 (by decide) ?_
  refine lv_iadd hx hb dL_law_1143 ?_
  refine cf_sld hx hb hX hbl hbA hS (5 * i + 2) (cf_5k 2) (by omega) (by omega) dL_law_1144 ?_
  refine va_calli (va_runV (As := [.int (xs (5 * i + 1)), .int (xs (5 * i + 2))]) (rest := []) ⟨hx, hb, hml, hown, hts⟩ (c_X6_parts l D cT s.heap.size ad2 nc2 ng2 S2 P2 O2 (xs (5 * i + 1)) (xs (5 * i + 2)) hH.1 hH.2.1) (cwV 2 hts gL_law_X6_parts rfl rfl rfl (by decide +kernel) ⟨Nat.le_of_ble_eq_true rfl, Nat.le_of_ble_eq_true rfl⟩) (cf_preV (T := TX6) (N := 24) hT hS hW cf_e6 rfl) rfl rfl hl.1 rfl (lv_room (Nat.le_of_ble_eq_true rfl)) dL_law_1145 ⟨(by show _ ≤ 765407; omega), (by show _ ≤ 6799882; omega)⟩) hS (fun _ _ h => h) (fun _ h => h) (fun v2 T9 t9 H locs ht hvm hw2 hW hz1 hk1 hS => ?_)
  have hW := cf_W.er ht hW
  have hsim := cf_sim_parts hR hw hw2
  refine lv_istore (lv' := [(6, .int v2), (5, .int k1), (4, .int (nI (5 * i))), (3, .ref (ad2 18 0)), (2, .ref (ad2 6 0)), (1, .ref (ad2 5 0)), (0, .ref b)]) hx hb dL_law_1148 hl (by decide) rfl (fun ls hl => ?_)
  refine lv_aload_n hx hb dL_law_1150 rfl (lv_at hl 4 rfl) ?_
  refine va_calli (va_runV (As := []) (rest := []) ⟨hx, hb, hml, hown, hts⟩ (c_X6_thrown l D cT s.heap.size ad2 nc2 ng2 T9 P2 O2) (cwV 0 hts gL_law_X6_thrown rfl rfl rfl (by decide +kernel) ⟨Nat.le_of_ble_eq_true rfl, Nat.le_of_ble_eq_true rfl⟩) (cf_preV (T := TX6) (N := 24) hT hS hW cf_e6 rfl) rfl rfl hl.1 rfl (lv_room (Nat.le_of_ble_eq_true rfl)) dL_law_1151 ⟨(by show _ ≤ 765407; omega), (by show _ ≤ 6799882; omega)⟩) hS (fun _ _ h => h) (fun _ h => h) (fun r3 u3 t9 H locs ht hvm hw3 hW hz1 hk1 hS => ?_)
  have hW := cf_W.er ht hW
  have hW : cf_W D s.heap.size (cf_E cT nc2 ng2 T9 P2 O2 ad2) ad2 H := hW
  have e3 : r3 = k1 := hw3.trans hsim.1
  refine lv_iload hx hb dL_law_1154 (lv_at hl 1 rfl) ?_
  refine lv_icmp_eq (tgt := 1161) hx hb dL_law_1156 (by decide) (fun c1156_1 => ?_) (fun c1156_1 => (by first | exact absurd e3 c1156_1 | exact absurd c1156_1 e3))
  refine lv_iload hx hb dL_law_1161 (lv_at hl 1 rfl) ?_
  refine lv_if_ne (tgt := 1178) hx hb dL_law_1163 (by decide) (fun c1163_2 => ?_) (fun c1163_2 => ?_)
  · refine lv_goto (tgt := 1580) hx hb dL_law_1178 (by decide) ?_
    refine lv_iinc (v := (nI (5 * (i + 1)))) (lv' := [(4, .int (nI (5 * (i + 1)))), (6, .int v2), (5, .int k1), (3, .ref (ad2 18 0)), (2, .ref (ad2 6 0)), (1, .ref (ad2 5 0)), (0, .ref b)]) hx hb dL_law_1580 hl (k := 2) rfl (cf_5s i) (by decide) rfl (fun ls hl => ?_)
    refine lv_goto (tgt := 23) hx hb dL_law_1583 (by decide) ?_
    refine W.widen (k := 60 + (i + 1) * 4) (n := 800 + (i + 1) * 24) (by omega) (by omega) ?_
    exact ih _ _ _ (nc2, ng2, T9, P2, O2, ad2) ⟨hW, hS, by rw [← hag3 5 (by simp), ← hag3 6 (by simp), ← hag3 18 (by simp)]; exact lv_sub hl [0, 3, 4, 5, 6] rfl, hsim.2.2, hag3⟩
  · have hval := hsim.2.1 c1163_2
    refine lv_aload_n hx hb dL_law_1166 rfl (lv_at hl 3 rfl) ?_
    refine lv_iconst (v := 0) hx hb dL_law_1167 (by decide) ?_
    refine cf_lald (k := 18) (i := 0) (ad := ad2) hx hb hT.1 hW 2 cf_e18 rfl (show vp_in 0 1 from vp_in_nI (show (0 : Nat) < 1 by decide) (by decide)) dL_law_1168 ?_
    refine lv_iload hx hb dL_law_1169 (lv_at hl 0 rfl) ?_
    refine lv_i2l (v := v2.toInt64) hx hb dL_law_1171 rfl ?_
    refine W.lcmp hx hb dL_law_1172 ?_
    have ec : lg_cmp (O2 0) v2.toInt64 = 0 := by rw [show O2 0 = v2.toInt64 from hval]; simp [lg_cmp]
    refine lv_if_eq (tgt := 1178) hx hb dL_law_1173 (by decide) (fun c1173_3 => ?_) (fun c1173_3 => (by first | exact absurd ec c1173_3 | exact absurd c1173_3 ec))
    refine lv_goto (tgt := 1580) hx hb dL_law_1178 (by decide) ?_
    refine lv_iinc (v := (nI (5 * (i + 1)))) (lv' := [(4, .int (nI (5 * (i + 1)))), (6, .int v2), (5, .int k1), (3, .ref (ad2 18 0)), (2, .ref (ad2 6 0)), (1, .ref (ad2 5 0)), (0, .ref b)]) hx hb dL_law_1580 hl (k := 2) rfl (cf_5s i) (by decide) rfl (fun ls hl => ?_)
    refine lv_goto (tgt := 23) hx hb dL_law_1583 (by decide) ?_
    refine W.widen (k := 60 + (i + 1) * 4) (n := 800 + (i + 1) * 24) (by omega) (by omega) ?_
    exact ih _ _ _ (nc2, ng2, T9, P2, O2, ad2) ⟨hW, hS, by rw [← hag3 5 (by simp), ← hag3 6 (by simp), ← hag3 18 (by simp)]; exact lv_sub hl [0, 3, 4, 5, 6] rfl, hsim.2.2, hag3⟩

set_option maxHeartbeats 4000000 in
set_option maxRecDepth 100000 in
theorem cf_case_whereIs (l : Launch) (hl0 : l.stackTraces = false) {p : Program} {e : Env} {s : State} {m : MethodId} {below : List Frame} {meth : Method} {c : Code} {b L : Nat} {xs : Nat → Int32} (hL : L ≤ 2560) (C0 : lw_At p s m meth c b L xs) {D : va_G} {cT : Nat → ClassId} (hT : cf_Tb D cT s.heap.size s s.heap) {ad0 : cf_Ad} {i : Nat} (hi : i < L / 5) {H : Heap} {locs : List Loc} {ls : Array Slot} {u : cf_St} (hI : cf_LI D cT s b ad0 i H locs ls u) (ih : ∀ (H2 : Heap) (locs2 : List Loc) (ls2 : Array Slot) (u2 : cf_St), cf_LI D cT s b ad0 (i + 1) H2 locs2 ls2 u2 → W p l e room_1 s m #[Value.ref b] below meth c H2 locs2 (60 + (i + 1) * 4) (800 + (i + 1) * 24) (lw_Z below #[Value.ref b] s) (F0 m 23 ls2 [])) : W p l e room_1 s m #[Value.ref b] below meth c H locs (60 + i * 4) (800 + i * 24) (lw_Z below #[Value.ref b] s) (F0 m 1244 ls []) := by
  obtain ⟨hx, hb, hr, hml, hown, hts0, hX, hbl, hlocks, hgv⟩ := id C0
  have hts : ∀ w ∈ wsL_law, w.before #[Value.ref b] s = true := fun w h => hts0 w (wsL_law_in w h)
  have hbA : ¬ s.heap.size ≤ b := Nat.not_le.mpr hbl
  obtain ⟨nc, ng, S, P, O, ad⟩ := u
  obtain ⟨hW, hS, hl, hR, hag⟩ := hI
  have hW : cf_W D s.heap.size (cf_E cT nc ng S P O ad) ad H := hW
  have hR : cf_R i nc ng S P := hR
  have hag : ∀ k, k = 5 ∨ k = 6 ∨ k = 17 ∨ k = 18 → ad k 0 = ad0 k 0 := hag
  have hl : lv_has ls 7 [(4, .int (nI (5 * i))), (3, .ref (ad 18 0)), (2, .ref (ad 6 0)), (1, .ref (ad 5 0)), (0, .ref b)] := by rw [hag 5 (by simp), hag 6 (by simp), hag 18 (by simp)]; exact hl
  refine lv_aload_n hx hb dL_law_1244 rfl (lv_at hl 3 rfl) ?_
  refine lv_aload_n hx hb dL_law_1245 rfl (lv_at hl 4 rfl) ?_
  refine lv_iload hx hb dL_law_1246 (lv_at hl 0 rfl) ?_
  refine lv_iconst (v := 1) hx hb dL_law_1248 (by decide) ?_
  refine lv_iadd hx hb dL_law_1249 ?_
  refine cf_sld hx hb hX hbl hbA hS (5 * i + 1) (cf_5k 1) (by omega) (by omega) dL_law_1250 ?_
  refine lv_aload_n hx hb dL_law_1251 rfl (lv_at hl 1 rfl) ?_
  refine vx_calli (vx_runSX (As := [.ref (ad 5 0), .int (xs (5 * i + 1)), .ref (ad 18 0)]) (rest := []) ⟨hx, hb, hml, hown, hts⟩ (c_L_whereIs l D cT s.heap.size ad nc ng S P O hl0 (xs (5 * i + 1)) hR.1.1 (fun j _ => hR.O j)) (vx_cwSW 3 hts gL_law_L_whereIs rfl rfl rfl (by decide +kernel) ⟨Nat.le_of_ble_eq_true rfl, Nat.le_of_ble_eq_true rfl⟩) (cf_preS hT hS hW) rfl rfl hl.1 rfl (lv_room (Nat.le_of_ble_eq_true rfl)) dL_law_1252 ⟨(by show _ ≤ 765407; omega), (by show _ ≤ 6799882; omega)⟩) hS (fun _ _ h => h) (fun _ h => h) (fun _ _ h => h) (fun E9 ce q9 u9 t9 H locs ht hvm hu hB hz1 hk1 hS hce hcv hcl => absurd hB.1 id) (fun k1 u1 t9 H locs ht hvm hw hW hz1 hk1 hS => ?_)
  have hW9 := cf_W.er ht hW
  have hpre := cf_pre_whereIs hR hw
  refine lv_istore (lv' := [(5, .int k1), (4, .int (nI (5 * i))), (3, .ref (ad 18 0)), (2, .ref (ad 6 0)), (1, .ref (ad 5 0)), (0, .ref b)]) hx hb dL_law_1255 hl (by decide) rfl (fun ls hl => ?_)
  obtain ⟨hu1, hu2, hag2, hH⟩ := hpre
  obtain ⟨nc2, ng2, S2, P2, O2, ad2⟩ := u1
  have hu1 : nc2 = nc := hu1
  subst hu1
  have hu2 : ng2 = ng := hu2
  subst hu2
  have hW : cf_W D s.heap.size (cf_E cT nc2 ng2 S2 P2 O2 ad2) ad2 H := hW9
  have hag2 : ∀ k, k = 5 ∨ k = 6 ∨ k = 17 ∨ k = 18 → ad2 k 0 = ad k 0 := hag2
  have hH : cf_H nc2 ng2 S2 P2 P := hH
  have hl : lv_has ls 7 [(5, .int k1), (4, .int (nI (5 * i))), (3, .ref (ad2 18 0)), (2, .ref (ad2 6 0)), (1, .ref (ad2 5 0)), (0, .ref b)] := by rw [hag2 5 (by simp), hag2 6 (by simp), hag2 18 (by simp)]; exact hl
  have hag3 : ∀ k, k = 5 ∨ k = 6 ∨ k = 17 ∨ k = 18 → ad2 k 0 = ad0 k 0 := fun k hk => (hag2 k hk).trans (hag k hk)
  refine lv_aload_n hx hb dL_law_1257 rfl (lv_at hl 3 rfl) ?_
  refine lv_aload_n hx hb dL_law_1258 rfl (lv_at hl 5 rfl) ?_
  refine lv_iload hx hb dL_law_1259 (lv_at hl 1 rfl) ?_
  refine lv_iconst (v := 1) hx hb dL_law_1261 (by decide) ?_
  refine lv_iadd hx hb dL_law_1262 ?_
  refine cf_sld hx hb hX hbl hbA hS (5 * i + 1) (cf_5k 1) (by omega) (by omega) dL_law_1263 ?_
  refine va_calli (va_runV (As := [.int (xs (5 * i + 1))]) (rest := []) ⟨hx, hb, hml, hown, hts⟩ (c_X6_whereIs l D cT s.heap.size ad2 nc2 ng2 S2 P2 O2 (xs (5 * i + 1)) hH.1 hH.2.1) (cwV 1 hts gL_law_X6_whereIs rfl rfl rfl (by decide +kernel) ⟨Nat.le_of_ble_eq_true rfl, Nat.le_of_ble_eq_true rfl⟩) (cf_preV (T := TX6) (N := 24) hT hS hW cf_e6 rfl) rfl rfl hl.1 rfl (lv_room (Nat.le_of_ble_eq_true rfl)) dL_law_1264 ⟨(by show _ ≤ 765407; omega), (by show _ ≤ 6799882; omega)⟩) hS (fun _ _ h => h) (fun _ h => h) (fun v2 T9 t9 H locs ht hvm hw2 hW hz1 hk1 hS => ?_)
  have hW := cf_W.er ht hW
  have hsim := cf_sim_whereIs hR hw hw2
  refine lv_istore (lv' := [(6, .int v2), (5, .int k1), (4, .int (nI (5 * i))), (3, .ref (ad2 18 0)), (2, .ref (ad2 6 0)), (1, .ref (ad2 5 0)), (0, .ref b)]) hx hb dL_law_1267 hl (by decide) rfl (fun ls hl => ?_)
  refine lv_aload_n hx hb dL_law_1269 rfl (lv_at hl 4 rfl) ?_
  refine va_calli (va_runV (As := []) (rest := []) ⟨hx, hb, hml, hown, hts⟩ (c_X6_thrown l D cT s.heap.size ad2 nc2 ng2 T9 P2 O2) (cwV 0 hts gL_law_X6_thrown rfl rfl rfl (by decide +kernel) ⟨Nat.le_of_ble_eq_true rfl, Nat.le_of_ble_eq_true rfl⟩) (cf_preV (T := TX6) (N := 24) hT hS hW cf_e6 rfl) rfl rfl hl.1 rfl (lv_room (Nat.le_of_ble_eq_true rfl)) dL_law_1270 ⟨(by show _ ≤ 765407; omega), (by show _ ≤ 6799882; omega)⟩) hS (fun _ _ h => h) (fun _ h => h) (fun r3 u3 t9 H locs ht hvm hw3 hW hz1 hk1 hS => ?_)
  have hW := cf_W.er ht hW
  have hW : cf_W D s.heap.size (cf_E cT nc2 ng2 T9 P2 O2 ad2) ad2 H := hW
  have e3 : r3 = k1 := hw3.trans hsim.1
  refine lv_iload hx hb dL_law_1273 (lv_at hl 1 rfl) ?_
  refine lv_icmp_eq (tgt := 1280) hx hb dL_law_1275 (by decide) (fun c1275_1 => ?_) (fun c1275_1 => (by first | exact absurd e3 c1275_1 | exact absurd c1275_1 e3))
  refine lv_iload hx hb dL_law_1280 (lv_at hl 1 rfl) ?_
  refine lv_if_ne (tgt := 1297) hx hb dL_law_1282 (by decide) (fun c1282_2 => ?_) (fun c1282_2 => ?_)
  · refine lv_goto (tgt := 1580) hx hb dL_law_1297 (by decide) ?_
    refine lv_iinc (v := (nI (5 * (i + 1)))) (lv' := [(4, .int (nI (5 * (i + 1)))), (6, .int v2), (5, .int k1), (3, .ref (ad2 18 0)), (2, .ref (ad2 6 0)), (1, .ref (ad2 5 0)), (0, .ref b)]) hx hb dL_law_1580 hl (k := 2) rfl (cf_5s i) (by decide) rfl (fun ls hl => ?_)
    refine lv_goto (tgt := 23) hx hb dL_law_1583 (by decide) ?_
    refine W.widen (k := 60 + (i + 1) * 4) (n := 800 + (i + 1) * 24) (by omega) (by omega) ?_
    exact ih _ _ _ (nc2, ng2, T9, P2, O2, ad2) ⟨hW, hS, by rw [← hag3 5 (by simp), ← hag3 6 (by simp), ← hag3 18 (by simp)]; exact lv_sub hl [0, 3, 4, 5, 6] rfl, hsim.2.2, hag3⟩
  · have hval := hsim.2.1 c1282_2
    refine lv_aload_n hx hb dL_law_1285 rfl (lv_at hl 3 rfl) ?_
    refine lv_iconst (v := 0) hx hb dL_law_1286 (by decide) ?_
    refine cf_lald (k := 18) (i := 0) (ad := ad2) hx hb hT.1 hW 2 cf_e18 rfl (show vp_in 0 1 from vp_in_nI (show (0 : Nat) < 1 by decide) (by decide)) dL_law_1287 ?_
    refine lv_iload hx hb dL_law_1288 (lv_at hl 0 rfl) ?_
    refine lv_i2l (v := v2.toInt64) hx hb dL_law_1290 rfl ?_
    refine W.lcmp hx hb dL_law_1291 ?_
    have ec : lg_cmp (O2 0) v2.toInt64 = 0 := by rw [show O2 0 = v2.toInt64 from hval]; simp [lg_cmp]
    refine lv_if_eq (tgt := 1297) hx hb dL_law_1292 (by decide) (fun c1292_3 => ?_) (fun c1292_3 => (by first | exact absurd ec c1292_3 | exact absurd c1292_3 ec))
    refine lv_goto (tgt := 1580) hx hb dL_law_1297 (by decide) ?_
    refine lv_iinc (v := (nI (5 * (i + 1)))) (lv' := [(4, .int (nI (5 * (i + 1)))), (6, .int v2), (5, .int k1), (3, .ref (ad2 18 0)), (2, .ref (ad2 6 0)), (1, .ref (ad2 5 0)), (0, .ref b)]) hx hb dL_law_1580 hl (k := 2) rfl (cf_5s i) (by decide) rfl (fun ls hl => ?_)
    refine lv_goto (tgt := 23) hx hb dL_law_1583 (by decide) ?_
    refine W.widen (k := 60 + (i + 1) * 4) (n := 800 + (i + 1) * 24) (by omega) (by omega) ?_
    exact ih _ _ _ (nc2, ng2, T9, P2, O2, ad2) ⟨hW, hS, by rw [← hag3 5 (by simp), ← hag3 6 (by simp), ← hag3 18 (by simp)]; exact lv_sub hl [0, 3, 4, 5, 6] rfl, hsim.2.2, hag3⟩

set_option maxHeartbeats 4000000 in
set_option maxRecDepth 100000 in
theorem cf_case_at (l : Launch) (hl0 : l.stackTraces = false) {p : Program} {e : Env} {s : State} {m : MethodId} {below : List Frame} {meth : Method} {c : Code} {b L : Nat} {xs : Nat → Int32} (hL : L ≤ 2560) (C0 : lw_At p s m meth c b L xs) {D : va_G} {cT : Nat → ClassId} (hT : cf_Tb D cT s.heap.size s s.heap) {ad0 : cf_Ad} {i : Nat} (hi : i < L / 5) {H : Heap} {locs : List Loc} {ls : Array Slot} {u : cf_St} (hI : cf_LI D cT s b ad0 i H locs ls u) (ih : ∀ (H2 : Heap) (locs2 : List Loc) (ls2 : Array Slot) (u2 : cf_St), cf_LI D cT s b ad0 (i + 1) H2 locs2 ls2 u2 → W p l e room_1 s m #[Value.ref b] below meth c H2 locs2 (60 + (i + 1) * 4) (800 + (i + 1) * 24) (lw_Z below #[Value.ref b] s) (F0 m 23 ls2 [])) : W p l e room_1 s m #[Value.ref b] below meth c H locs (60 + i * 4) (800 + i * 24) (lw_Z below #[Value.ref b] s) (F0 m 1300 ls []) := by
  obtain ⟨hx, hb, hr, hml, hown, hts0, hX, hbl, hlocks, hgv⟩ := id C0
  have hts : ∀ w ∈ wsL_law, w.before #[Value.ref b] s = true := fun w h => hts0 w (wsL_law_in w h)
  have hbA : ¬ s.heap.size ≤ b := Nat.not_le.mpr hbl
  obtain ⟨nc, ng, S, P, O, ad⟩ := u
  obtain ⟨hW, hS, hl, hR, hag⟩ := hI
  have hW : cf_W D s.heap.size (cf_E cT nc ng S P O ad) ad H := hW
  have hR : cf_R i nc ng S P := hR
  have hag : ∀ k, k = 5 ∨ k = 6 ∨ k = 17 ∨ k = 18 → ad k 0 = ad0 k 0 := hag
  have hl : lv_has ls 7 [(4, .int (nI (5 * i))), (3, .ref (ad 18 0)), (2, .ref (ad 6 0)), (1, .ref (ad 5 0)), (0, .ref b)] := by rw [hag 5 (by simp), hag 6 (by simp), hag 18 (by simp)]; exact hl
  refine lv_aload_n hx hb dL_law_1300 rfl (lv_at hl 3 rfl) ?_
  refine lv_aload_n hx hb dL_law_1301 rfl (lv_at hl 4 rfl) ?_
  refine lv_iload hx hb dL_law_1302 (lv_at hl 0 rfl) ?_
  refine lv_iconst (v := 1) hx hb dL_law_1304 (by decide) ?_
  refine lv_iadd hx hb dL_law_1305 ?_
  refine cf_sld hx hb hX hbl hbA hS (5 * i + 1) (cf_5k 1) (by omega) (by omega) dL_law_1306 ?_
  refine lv_aload_n hx hb dL_law_1307 rfl (lv_at hl 1 rfl) ?_
  refine vx_calli (vx_runSX (As := [.ref (ad 5 0), .int (xs (5 * i + 1)), .ref (ad 18 0)]) (rest := []) ⟨hx, hb, hml, hown, hts⟩ (c_L_at l D cT s.heap.size ad nc ng S P O hl0 (xs (5 * i + 1))) (vx_cwSW 3 hts gL_law_L_at rfl rfl rfl (by decide +kernel) ⟨Nat.le_of_ble_eq_true rfl, Nat.le_of_ble_eq_true rfl⟩) (cf_preS hT hS hW) rfl rfl hl.1 rfl (lv_room (Nat.le_of_ble_eq_true rfl)) dL_law_1308 ⟨(by show _ ≤ 765407; omega), (by show _ ≤ 6799882; omega)⟩) hS (fun _ _ h => h) (fun _ h => h) (fun _ _ h => h) (fun E9 ce q9 u9 t9 H locs ht hvm hu hB hz1 hk1 hS hce hcv hcl => absurd hB.1 id) (fun k1 u1 t9 H locs ht hvm hw hW hz1 hk1 hS => ?_)
  have hW9 := cf_W.er ht hW
  have hpre := cf_pre_at hR hw
  refine lv_istore (lv' := [(5, .int k1), (4, .int (nI (5 * i))), (3, .ref (ad 18 0)), (2, .ref (ad 6 0)), (1, .ref (ad 5 0)), (0, .ref b)]) hx hb dL_law_1311 hl (by decide) rfl (fun ls hl => ?_)
  obtain ⟨hu1, hu2, hag2, hH⟩ := hpre
  obtain ⟨nc2, ng2, S2, P2, O2, ad2⟩ := u1
  have hu1 : nc2 = nc := hu1
  subst hu1
  have hu2 : ng2 = ng := hu2
  subst hu2
  have hW : cf_W D s.heap.size (cf_E cT nc2 ng2 S2 P2 O2 ad2) ad2 H := hW9
  have hag2 : ∀ k, k = 5 ∨ k = 6 ∨ k = 17 ∨ k = 18 → ad2 k 0 = ad k 0 := hag2
  have hH : cf_H nc2 ng2 S2 P2 P := hH
  have hl : lv_has ls 7 [(5, .int k1), (4, .int (nI (5 * i))), (3, .ref (ad2 18 0)), (2, .ref (ad2 6 0)), (1, .ref (ad2 5 0)), (0, .ref b)] := by rw [hag2 5 (by simp), hag2 6 (by simp), hag2 18 (by simp)]; exact hl
  have hag3 : ∀ k, k = 5 ∨ k = 6 ∨ k = 17 ∨ k = 18 → ad2 k 0 = ad0 k 0 := fun k hk => (hag2 k hk).trans (hag k hk)
  refine lv_aload_n hx hb dL_law_1313 rfl (lv_at hl 3 rfl) ?_
  refine lv_aload_n hx hb dL_law_1314 rfl (lv_at hl 5 rfl) ?_
  refine lv_iload hx hb dL_law_1315 (lv_at hl 1 rfl) ?_
  refine lv_iconst (v := 1) hx hb dL_law_1317 (by decide) ?_
  refine lv_iadd hx hb dL_law_1318 ?_
  refine cf_sld hx hb hX hbl hbA hS (5 * i + 1) (cf_5k 1) (by omega) (by omega) dL_law_1319 ?_
  refine va_calli (va_runV (As := [.int (xs (5 * i + 1))]) (rest := []) ⟨hx, hb, hml, hown, hts⟩ (c_X6_at l D cT s.heap.size ad2 nc2 ng2 S2 P2 O2 (xs (5 * i + 1))) (cwV 1 hts gL_law_X6_at rfl rfl rfl (by decide +kernel) ⟨Nat.le_of_ble_eq_true rfl, Nat.le_of_ble_eq_true rfl⟩) (cf_preV (T := TX6) (N := 24) hT hS hW cf_e6 rfl) rfl rfl hl.1 rfl (lv_room (Nat.le_of_ble_eq_true rfl)) dL_law_1320 ⟨(by show _ ≤ 765407; omega), (by show _ ≤ 6799882; omega)⟩) hS (fun _ _ h => h) (fun _ h => h) (fun v2 T9 t9 H locs ht hvm hw2 hW hz1 hk1 hS => ?_)
  have hW := cf_W.er ht hW
  have hsim := cf_sim_at hR hw hw2
  refine lv_istore (lv' := [(6, .int v2), (5, .int k1), (4, .int (nI (5 * i))), (3, .ref (ad2 18 0)), (2, .ref (ad2 6 0)), (1, .ref (ad2 5 0)), (0, .ref b)]) hx hb dL_law_1323 hl (by decide) rfl (fun ls hl => ?_)
  refine lv_aload_n hx hb dL_law_1325 rfl (lv_at hl 4 rfl) ?_
  refine va_calli (va_runV (As := []) (rest := []) ⟨hx, hb, hml, hown, hts⟩ (c_X6_thrown l D cT s.heap.size ad2 nc2 ng2 T9 P2 O2) (cwV 0 hts gL_law_X6_thrown rfl rfl rfl (by decide +kernel) ⟨Nat.le_of_ble_eq_true rfl, Nat.le_of_ble_eq_true rfl⟩) (cf_preV (T := TX6) (N := 24) hT hS hW cf_e6 rfl) rfl rfl hl.1 rfl (lv_room (Nat.le_of_ble_eq_true rfl)) dL_law_1326 ⟨(by show _ ≤ 765407; omega), (by show _ ≤ 6799882; omega)⟩) hS (fun _ _ h => h) (fun _ h => h) (fun r3 u3 t9 H locs ht hvm hw3 hW hz1 hk1 hS => ?_)
  have hW := cf_W.er ht hW
  have hW : cf_W D s.heap.size (cf_E cT nc2 ng2 T9 P2 O2 ad2) ad2 H := hW
  have e3 : r3 = k1 := hw3.trans hsim.1
  refine lv_iload hx hb dL_law_1329 (lv_at hl 1 rfl) ?_
  refine lv_icmp_eq (tgt := 1336) hx hb dL_law_1331 (by decide) (fun c1331_1 => ?_) (fun c1331_1 => (by first | exact absurd e3 c1331_1 | exact absurd c1331_1 e3))
  refine lv_iload hx hb dL_law_1336 (lv_at hl 1 rfl) ?_
  refine lv_if_ne (tgt := 1353) hx hb dL_law_1338 (by decide) (fun c1338_2 => ?_) (fun c1338_2 => ?_)
  · refine lv_goto (tgt := 1580) hx hb dL_law_1353 (by decide) ?_
    refine lv_iinc (v := (nI (5 * (i + 1)))) (lv' := [(4, .int (nI (5 * (i + 1)))), (6, .int v2), (5, .int k1), (3, .ref (ad2 18 0)), (2, .ref (ad2 6 0)), (1, .ref (ad2 5 0)), (0, .ref b)]) hx hb dL_law_1580 hl (k := 2) rfl (cf_5s i) (by decide) rfl (fun ls hl => ?_)
    refine lv_goto (tgt := 23) hx hb dL_law_1583 (by decide) ?_
    refine W.widen (k := 60 + (i + 1) * 4) (n := 800 + (i + 1) * 24) (by omega) (by omega) ?_
    exact ih _ _ _ (nc2, ng2, T9, P2, O2, ad2) ⟨hW, hS, by rw [← hag3 5 (by simp), ← hag3 6 (by simp), ← hag3 18 (by simp)]; exact lv_sub hl [0, 3, 4, 5, 6] rfl, hsim.2.2, hag3⟩
  · have hval := hsim.2.1 c1338_2
    refine lv_aload_n hx hb dL_law_1341 rfl (lv_at hl 3 rfl) ?_
    refine lv_iconst (v := 0) hx hb dL_law_1342 (by decide) ?_
    refine cf_lald (k := 18) (i := 0) (ad := ad2) hx hb hT.1 hW 2 cf_e18 rfl (show vp_in 0 1 from vp_in_nI (show (0 : Nat) < 1 by decide) (by decide)) dL_law_1343 ?_
    refine lv_iload hx hb dL_law_1344 (lv_at hl 0 rfl) ?_
    refine lv_i2l (v := v2.toInt64) hx hb dL_law_1346 rfl ?_
    refine W.lcmp hx hb dL_law_1347 ?_
    have ec : lg_cmp (O2 0) v2.toInt64 = 0 := by rw [show O2 0 = v2.toInt64 from hval]; simp [lg_cmp]
    refine lv_if_eq (tgt := 1353) hx hb dL_law_1348 (by decide) (fun c1348_3 => ?_) (fun c1348_3 => (by first | exact absurd ec c1348_3 | exact absurd c1348_3 ec))
    refine lv_goto (tgt := 1580) hx hb dL_law_1353 (by decide) ?_
    refine lv_iinc (v := (nI (5 * (i + 1)))) (lv' := [(4, .int (nI (5 * (i + 1)))), (6, .int v2), (5, .int k1), (3, .ref (ad2 18 0)), (2, .ref (ad2 6 0)), (1, .ref (ad2 5 0)), (0, .ref b)]) hx hb dL_law_1580 hl (k := 2) rfl (cf_5s i) (by decide) rfl (fun ls hl => ?_)
    refine lv_goto (tgt := 23) hx hb dL_law_1583 (by decide) ?_
    refine W.widen (k := 60 + (i + 1) * 4) (n := 800 + (i + 1) * 24) (by omega) (by omega) ?_
    exact ih _ _ _ (nc2, ng2, T9, P2, O2, ad2) ⟨hW, hS, by rw [← hag3 5 (by simp), ← hag3 6 (by simp), ← hag3 18 (by simp)]; exact lv_sub hl [0, 3, 4, 5, 6] rfl, hsim.2.2, hag3⟩

set_option maxHeartbeats 4000000 in
set_option maxRecDepth 100000 in
theorem cf_case_copyOf (l : Launch) (hl0 : l.stackTraces = false) {p : Program} {e : Env} {s : State} {m : MethodId} {below : List Frame} {meth : Method} {c : Code} {b L : Nat} {xs : Nat → Int32} (hL : L ≤ 2560) (C0 : lw_At p s m meth c b L xs) {D : va_G} {cT : Nat → ClassId} (hT : cf_Tb D cT s.heap.size s s.heap) {ad0 : cf_Ad} {i : Nat} (hi : i < L / 5) {H : Heap} {locs : List Loc} {ls : Array Slot} {u : cf_St} (hI : cf_LI D cT s b ad0 i H locs ls u) (ih : ∀ (H2 : Heap) (locs2 : List Loc) (ls2 : Array Slot) (u2 : cf_St), cf_LI D cT s b ad0 (i + 1) H2 locs2 ls2 u2 → W p l e room_1 s m #[Value.ref b] below meth c H2 locs2 (60 + (i + 1) * 4) (800 + (i + 1) * 24) (lw_Z below #[Value.ref b] s) (F0 m 23 ls2 [])) : W p l e room_1 s m #[Value.ref b] below meth c H locs (60 + i * 4) (800 + i * 24) (lw_Z below #[Value.ref b] s) (F0 m 1356 ls []) := by
  obtain ⟨hx, hb, hr, hml, hown, hts0, hX, hbl, hlocks, hgv⟩ := id C0
  have hts : ∀ w ∈ wsL_law, w.before #[Value.ref b] s = true := fun w h => hts0 w (wsL_law_in w h)
  have hbA : ¬ s.heap.size ≤ b := Nat.not_le.mpr hbl
  obtain ⟨nc, ng, S, P, O, ad⟩ := u
  obtain ⟨hW, hS, hl, hR, hag⟩ := hI
  have hW : cf_W D s.heap.size (cf_E cT nc ng S P O ad) ad H := hW
  have hR : cf_R i nc ng S P := hR
  have hag : ∀ k, k = 5 ∨ k = 6 ∨ k = 17 ∨ k = 18 → ad k 0 = ad0 k 0 := hag
  have hl : lv_has ls 7 [(4, .int (nI (5 * i))), (3, .ref (ad 18 0)), (2, .ref (ad 6 0)), (1, .ref (ad 5 0)), (0, .ref b)] := by rw [hag 5 (by simp), hag 6 (by simp), hag 18 (by simp)]; exact hl
  refine lv_aload_n hx hb dL_law_1356 rfl (lv_at hl 3 rfl) ?_
  refine lv_aload_n hx hb dL_law_1357 rfl (lv_at hl 4 rfl) ?_
  refine lv_iload hx hb dL_law_1358 (lv_at hl 0 rfl) ?_
  refine lv_iconst (v := 1) hx hb dL_law_1360 (by decide) ?_
  refine lv_iadd hx hb dL_law_1361 ?_
  refine cf_sld hx hb hX hbl hbA hS (5 * i + 1) (cf_5k 1) (by omega) (by omega) dL_law_1362 ?_
  refine lv_aload_n hx hb dL_law_1363 rfl (lv_at hl 1 rfl) ?_
  refine vx_calli (vx_runSX (As := [.ref (ad 5 0), .int (xs (5 * i + 1)), .ref (ad 18 0)]) (rest := []) ⟨hx, hb, hml, hown, hts⟩ (c_L_copyOf l D cT s.heap.size ad nc ng S P O hl0 (xs (5 * i + 1)) (fun j _ => hR.Q j) hR.L) (vx_cwSW 3 hts gL_law_L_copyOf rfl rfl rfl (by decide +kernel) ⟨Nat.le_of_ble_eq_true rfl, Nat.le_of_ble_eq_true rfl⟩) (cf_preS hT hS hW) rfl rfl hl.1 rfl (lv_room (Nat.le_of_ble_eq_true rfl)) dL_law_1364 ⟨(by show _ ≤ 765407; omega), (by show _ ≤ 6799882; omega)⟩) hS (fun _ _ h => h) (fun _ h => h) (fun _ _ h => h) (fun E9 ce q9 u9 t9 H locs ht hvm hu hB hz1 hk1 hS hce hcv hcl => absurd hB.1 id) (fun k1 u1 t9 H locs ht hvm hw hW hz1 hk1 hS => ?_)
  have hW9 := cf_W.er ht hW
  have hpre := cf_pre_copyOf hR hw
  refine lv_istore (lv' := [(5, .int k1), (4, .int (nI (5 * i))), (3, .ref (ad 18 0)), (2, .ref (ad 6 0)), (1, .ref (ad 5 0)), (0, .ref b)]) hx hb dL_law_1367 hl (by decide) rfl (fun ls hl => ?_)
  obtain ⟨hu1, hu2, hag2, hH⟩ := hpre
  obtain ⟨nc2, ng2, S2, P2, O2, ad2⟩ := u1
  have hu1 : nc2 = nc := hu1
  subst hu1
  have hu2 : ng2 = ng := hu2
  subst hu2
  have hW : cf_W D s.heap.size (cf_E cT nc2 ng2 S2 P2 O2 ad2) ad2 H := hW9
  have hag2 : ∀ k, k = 5 ∨ k = 6 ∨ k = 17 ∨ k = 18 → ad2 k 0 = ad k 0 := hag2
  have hH : cf_H nc2 ng2 S2 P2 P := hH
  have hl : lv_has ls 7 [(5, .int k1), (4, .int (nI (5 * i))), (3, .ref (ad2 18 0)), (2, .ref (ad2 6 0)), (1, .ref (ad2 5 0)), (0, .ref b)] := by rw [hag2 5 (by simp), hag2 6 (by simp), hag2 18 (by simp)]; exact hl
  have hag3 : ∀ k, k = 5 ∨ k = 6 ∨ k = 17 ∨ k = 18 → ad2 k 0 = ad0 k 0 := fun k hk => (hag2 k hk).trans (hag k hk)
  refine lv_aload_n hx hb dL_law_1369 rfl (lv_at hl 3 rfl) ?_
  refine lv_aload_n hx hb dL_law_1370 rfl (lv_at hl 5 rfl) ?_
  refine lv_iload hx hb dL_law_1371 (lv_at hl 1 rfl) ?_
  refine lv_iconst (v := 1) hx hb dL_law_1373 (by decide) ?_
  refine lv_iadd hx hb dL_law_1374 ?_
  refine cf_sld hx hb hX hbl hbA hS (5 * i + 1) (cf_5k 1) (by omega) (by omega) dL_law_1375 ?_
  refine va_calli (va_runV (As := [.int (xs (5 * i + 1))]) (rest := []) ⟨hx, hb, hml, hown, hts⟩ (c_X6_copyOf l D cT s.heap.size ad2 nc2 ng2 S2 P2 O2 (xs (5 * i + 1)) hH.2.2.1 hH.2.2.2.1) (cwV 1 hts gL_law_X6_copyOf rfl rfl rfl (by decide +kernel) ⟨Nat.le_of_ble_eq_true rfl, Nat.le_of_ble_eq_true rfl⟩) (cf_preV (T := TX6) (N := 24) hT hS hW cf_e6 rfl) rfl rfl hl.1 rfl (lv_room (Nat.le_of_ble_eq_true rfl)) dL_law_1376 ⟨(by show _ ≤ 765407; omega), (by show _ ≤ 6799882; omega)⟩) hS (fun _ _ h => h) (fun _ h => h) (fun v2 T9 t9 H locs ht hvm hw2 hW hz1 hk1 hS => ?_)
  have hW := cf_W.er ht hW
  have hsim := cf_sim_copyOf hR hw hw2
  refine lv_istore (lv' := [(6, .int v2), (5, .int k1), (4, .int (nI (5 * i))), (3, .ref (ad2 18 0)), (2, .ref (ad2 6 0)), (1, .ref (ad2 5 0)), (0, .ref b)]) hx hb dL_law_1379 hl (by decide) rfl (fun ls hl => ?_)
  refine lv_aload_n hx hb dL_law_1381 rfl (lv_at hl 4 rfl) ?_
  refine va_calli (va_runV (As := []) (rest := []) ⟨hx, hb, hml, hown, hts⟩ (c_X6_thrown l D cT s.heap.size ad2 nc2 ng2 T9 P2 O2) (cwV 0 hts gL_law_X6_thrown rfl rfl rfl (by decide +kernel) ⟨Nat.le_of_ble_eq_true rfl, Nat.le_of_ble_eq_true rfl⟩) (cf_preV (T := TX6) (N := 24) hT hS hW cf_e6 rfl) rfl rfl hl.1 rfl (lv_room (Nat.le_of_ble_eq_true rfl)) dL_law_1382 ⟨(by show _ ≤ 765407; omega), (by show _ ≤ 6799882; omega)⟩) hS (fun _ _ h => h) (fun _ h => h) (fun r3 u3 t9 H locs ht hvm hw3 hW hz1 hk1 hS => ?_)
  have hW := cf_W.er ht hW
  have hW : cf_W D s.heap.size (cf_E cT nc2 ng2 T9 P2 O2 ad2) ad2 H := hW
  have e3 : r3 = k1 := hw3.trans hsim.1
  refine lv_iload hx hb dL_law_1385 (lv_at hl 1 rfl) ?_
  refine lv_icmp_eq (tgt := 1392) hx hb dL_law_1387 (by decide) (fun c1387_1 => ?_) (fun c1387_1 => (by first | exact absurd e3 c1387_1 | exact absurd c1387_1 e3))
  refine lv_iload hx hb dL_law_1392 (lv_at hl 1 rfl) ?_
  refine lv_if_ne (tgt := 1409) hx hb dL_law_1394 (by decide) (fun c1394_2 => ?_) (fun c1394_2 => ?_)
  · refine lv_goto (tgt := 1580) hx hb dL_law_1409 (by decide) ?_
    refine lv_iinc (v := (nI (5 * (i + 1)))) (lv' := [(4, .int (nI (5 * (i + 1)))), (6, .int v2), (5, .int k1), (3, .ref (ad2 18 0)), (2, .ref (ad2 6 0)), (1, .ref (ad2 5 0)), (0, .ref b)]) hx hb dL_law_1580 hl (k := 2) rfl (cf_5s i) (by decide) rfl (fun ls hl => ?_)
    refine lv_goto (tgt := 23) hx hb dL_law_1583 (by decide) ?_
    refine W.widen (k := 60 + (i + 1) * 4) (n := 800 + (i + 1) * 24) (by omega) (by omega) ?_
    exact ih _ _ _ (nc2, ng2, T9, P2, O2, ad2) ⟨hW, hS, by rw [← hag3 5 (by simp), ← hag3 6 (by simp), ← hag3 18 (by simp)]; exact lv_sub hl [0, 3, 4, 5, 6] rfl, hsim.2.2, hag3⟩
  · have hval := hsim.2.1 c1394_2
    refine lv_aload_n hx hb dL_law_1397 rfl (lv_at hl 3 rfl) ?_
    refine lv_iconst (v := 0) hx hb dL_law_1398 (by decide) ?_
    refine cf_lald (k := 18) (i := 0) (ad := ad2) hx hb hT.1 hW 2 cf_e18 rfl (show vp_in 0 1 from vp_in_nI (show (0 : Nat) < 1 by decide) (by decide)) dL_law_1399 ?_
    refine lv_iload hx hb dL_law_1400 (lv_at hl 0 rfl) ?_
    refine lv_i2l (v := v2.toInt64) hx hb dL_law_1402 rfl ?_
    refine W.lcmp hx hb dL_law_1403 ?_
    have ec : lg_cmp (O2 0) v2.toInt64 = 0 := by rw [show O2 0 = v2.toInt64 from hval]; simp [lg_cmp]
    refine lv_if_eq (tgt := 1409) hx hb dL_law_1404 (by decide) (fun c1404_3 => ?_) (fun c1404_3 => (by first | exact absurd ec c1404_3 | exact absurd c1404_3 ec))
    refine lv_goto (tgt := 1580) hx hb dL_law_1409 (by decide) ?_
    refine lv_iinc (v := (nI (5 * (i + 1)))) (lv' := [(4, .int (nI (5 * (i + 1)))), (6, .int v2), (5, .int k1), (3, .ref (ad2 18 0)), (2, .ref (ad2 6 0)), (1, .ref (ad2 5 0)), (0, .ref b)]) hx hb dL_law_1580 hl (k := 2) rfl (cf_5s i) (by decide) rfl (fun ls hl => ?_)
    refine lv_goto (tgt := 23) hx hb dL_law_1583 (by decide) ?_
    refine W.widen (k := 60 + (i + 1) * 4) (n := 800 + (i + 1) * 24) (by omega) (by omega) ?_
    exact ih _ _ _ (nc2, ng2, T9, P2, O2, ad2) ⟨hW, hS, by rw [← hag3 5 (by simp), ← hag3 6 (by simp), ← hag3 18 (by simp)]; exact lv_sub hl [0, 3, 4, 5, 6] rfl, hsim.2.2, hag3⟩

set_option maxHeartbeats 4000000 in
set_option maxRecDepth 100000 in
theorem cf_case_teaching (l : Launch) (hl0 : l.stackTraces = false) {p : Program} {e : Env} {s : State} {m : MethodId} {below : List Frame} {meth : Method} {c : Code} {b L : Nat} {xs : Nat → Int32} (hL : L ≤ 2560) (C0 : lw_At p s m meth c b L xs) {D : va_G} {cT : Nat → ClassId} (hT : cf_Tb D cT s.heap.size s s.heap) {ad0 : cf_Ad} {i : Nat} (hi : i < L / 5) {H : Heap} {locs : List Loc} {ls : Array Slot} {u : cf_St} (hI : cf_LI D cT s b ad0 i H locs ls u) (ih : ∀ (H2 : Heap) (locs2 : List Loc) (ls2 : Array Slot) (u2 : cf_St), cf_LI D cT s b ad0 (i + 1) H2 locs2 ls2 u2 → W p l e room_1 s m #[Value.ref b] below meth c H2 locs2 (60 + (i + 1) * 4) (800 + (i + 1) * 24) (lw_Z below #[Value.ref b] s) (F0 m 23 ls2 [])) : W p l e room_1 s m #[Value.ref b] below meth c H locs (60 + i * 4) (800 + i * 24) (lw_Z below #[Value.ref b] s) (F0 m 1412 ls []) := by
  obtain ⟨hx, hb, hr, hml, hown, hts0, hX, hbl, hlocks, hgv⟩ := id C0
  have hts : ∀ w ∈ wsL_law, w.before #[Value.ref b] s = true := fun w h => hts0 w (wsL_law_in w h)
  have hbA : ¬ s.heap.size ≤ b := Nat.not_le.mpr hbl
  obtain ⟨nc, ng, S, P, O, ad⟩ := u
  obtain ⟨hW, hS, hl, hR, hag⟩ := hI
  have hW : cf_W D s.heap.size (cf_E cT nc ng S P O ad) ad H := hW
  have hR : cf_R i nc ng S P := hR
  have hag : ∀ k, k = 5 ∨ k = 6 ∨ k = 17 ∨ k = 18 → ad k 0 = ad0 k 0 := hag
  have hl : lv_has ls 7 [(4, .int (nI (5 * i))), (3, .ref (ad 18 0)), (2, .ref (ad 6 0)), (1, .ref (ad 5 0)), (0, .ref b)] := by rw [hag 5 (by simp), hag 6 (by simp), hag 18 (by simp)]; exact hl
  refine lv_aload_n hx hb dL_law_1412 rfl (lv_at hl 3 rfl) ?_
  refine lv_aload_n hx hb dL_law_1413 rfl (lv_at hl 4 rfl) ?_
  refine lv_iload hx hb dL_law_1414 (lv_at hl 0 rfl) ?_
  refine lv_iconst (v := 1) hx hb dL_law_1416 (by decide) ?_
  refine lv_iadd hx hb dL_law_1417 ?_
  refine cf_sld hx hb hX hbl hbA hS (5 * i + 1) (cf_5k 1) (by omega) (by omega) dL_law_1418 ?_
  refine lv_aload_n hx hb dL_law_1419 rfl (lv_at hl 1 rfl) ?_
  refine vx_calli (vx_runSX (As := [.ref (ad 5 0), .int (xs (5 * i + 1)), .ref (ad 18 0)]) (rest := []) ⟨hx, hb, hml, hown, hts⟩ (c_L_teaching l D cT s.heap.size ad nc ng S P O hl0 (xs (5 * i + 1))) (vx_cwSW 3 hts gL_law_L_teaching rfl rfl rfl (by decide +kernel) ⟨Nat.le_of_ble_eq_true rfl, Nat.le_of_ble_eq_true rfl⟩) (cf_preS hT hS hW) rfl rfl hl.1 rfl (lv_room (Nat.le_of_ble_eq_true rfl)) dL_law_1420 ⟨(by show _ ≤ 765407; omega), (by show _ ≤ 6799882; omega)⟩) hS (fun _ _ h => h) (fun _ h => h) (fun _ _ h => h) (fun E9 ce q9 u9 t9 H locs ht hvm hu hB hz1 hk1 hS hce hcv hcl => absurd hB.1 id) (fun k1 u1 t9 H locs ht hvm hw hW hz1 hk1 hS => ?_)
  have hW9 := cf_W.er ht hW
  have hpre := cf_pre_teaching hR hw
  refine lv_istore (lv' := [(5, .int k1), (4, .int (nI (5 * i))), (3, .ref (ad 18 0)), (2, .ref (ad 6 0)), (1, .ref (ad 5 0)), (0, .ref b)]) hx hb dL_law_1423 hl (by decide) rfl (fun ls hl => ?_)
  obtain ⟨hu1, hu2, hag2, hH⟩ := hpre
  obtain ⟨nc2, ng2, S2, P2, O2, ad2⟩ := u1
  have hu1 : nc2 = nc := hu1
  subst hu1
  have hu2 : ng2 = ng := hu2
  subst hu2
  have hW : cf_W D s.heap.size (cf_E cT nc2 ng2 S2 P2 O2 ad2) ad2 H := hW9
  have hag2 : ∀ k, k = 5 ∨ k = 6 ∨ k = 17 ∨ k = 18 → ad2 k 0 = ad k 0 := hag2
  have hH : cf_H nc2 ng2 S2 P2 P := hH
  have hl : lv_has ls 7 [(5, .int k1), (4, .int (nI (5 * i))), (3, .ref (ad2 18 0)), (2, .ref (ad2 6 0)), (1, .ref (ad2 5 0)), (0, .ref b)] := by rw [hag2 5 (by simp), hag2 6 (by simp), hag2 18 (by simp)]; exact hl
  have hag3 : ∀ k, k = 5 ∨ k = 6 ∨ k = 17 ∨ k = 18 → ad2 k 0 = ad0 k 0 := fun k hk => (hag2 k hk).trans (hag k hk)
  refine lv_aload_n hx hb dL_law_1425 rfl (lv_at hl 3 rfl) ?_
  refine lv_aload_n hx hb dL_law_1426 rfl (lv_at hl 5 rfl) ?_
  refine lv_iload hx hb dL_law_1427 (lv_at hl 1 rfl) ?_
  refine lv_iconst (v := 1) hx hb dL_law_1429 (by decide) ?_
  refine lv_iadd hx hb dL_law_1430 ?_
  refine cf_sld hx hb hX hbl hbA hS (5 * i + 1) (cf_5k 1) (by omega) (by omega) dL_law_1431 ?_
  refine va_calli (va_runV (As := [.int (xs (5 * i + 1))]) (rest := []) ⟨hx, hb, hml, hown, hts⟩ (c_X6_teaching l D cT s.heap.size ad2 nc2 ng2 S2 P2 O2 (xs (5 * i + 1))) (cwV 1 hts gL_law_X6_teaching rfl rfl rfl (by decide +kernel) ⟨Nat.le_of_ble_eq_true rfl, Nat.le_of_ble_eq_true rfl⟩) (cf_preV (T := TX6) (N := 24) hT hS hW cf_e6 rfl) rfl rfl hl.1 rfl (lv_room (Nat.le_of_ble_eq_true rfl)) dL_law_1432 ⟨(by show _ ≤ 765407; omega), (by show _ ≤ 6799882; omega)⟩) hS (fun _ _ h => h) (fun _ h => h) (fun v2 T9 t9 H locs ht hvm hw2 hW hz1 hk1 hS => ?_)
  have hW := cf_W.er ht hW
  have hsim := cf_sim_teaching hR hw hw2
  refine lv_istore (lv' := [(6, .int v2), (5, .int k1), (4, .int (nI (5 * i))), (3, .ref (ad2 18 0)), (2, .ref (ad2 6 0)), (1, .ref (ad2 5 0)), (0, .ref b)]) hx hb dL_law_1435 hl (by decide) rfl (fun ls hl => ?_)
  refine lv_aload_n hx hb dL_law_1437 rfl (lv_at hl 4 rfl) ?_
  refine va_calli (va_runV (As := []) (rest := []) ⟨hx, hb, hml, hown, hts⟩ (c_X6_thrown l D cT s.heap.size ad2 nc2 ng2 T9 P2 O2) (cwV 0 hts gL_law_X6_thrown rfl rfl rfl (by decide +kernel) ⟨Nat.le_of_ble_eq_true rfl, Nat.le_of_ble_eq_true rfl⟩) (cf_preV (T := TX6) (N := 24) hT hS hW cf_e6 rfl) rfl rfl hl.1 rfl (lv_room (Nat.le_of_ble_eq_true rfl)) dL_law_1438 ⟨(by show _ ≤ 765407; omega), (by show _ ≤ 6799882; omega)⟩) hS (fun _ _ h => h) (fun _ h => h) (fun r3 u3 t9 H locs ht hvm hw3 hW hz1 hk1 hS => ?_)
  have hW := cf_W.er ht hW
  have hW : cf_W D s.heap.size (cf_E cT nc2 ng2 T9 P2 O2 ad2) ad2 H := hW
  have e3 : r3 = k1 := hw3.trans hsim.1
  refine lv_iload hx hb dL_law_1441 (lv_at hl 1 rfl) ?_
  refine lv_icmp_eq (tgt := 1448) hx hb dL_law_1443 (by decide) (fun c1443_1 => ?_) (fun c1443_1 => (by first | exact absurd e3 c1443_1 | exact absurd c1443_1 e3))
  refine lv_iload hx hb dL_law_1448 (lv_at hl 1 rfl) ?_
  refine lv_if_ne (tgt := 1465) hx hb dL_law_1450 (by decide) (fun c1450_2 => ?_) (fun c1450_2 => ?_)
  · refine lv_goto (tgt := 1580) hx hb dL_law_1465 (by decide) ?_
    refine lv_iinc (v := (nI (5 * (i + 1)))) (lv' := [(4, .int (nI (5 * (i + 1)))), (6, .int v2), (5, .int k1), (3, .ref (ad2 18 0)), (2, .ref (ad2 6 0)), (1, .ref (ad2 5 0)), (0, .ref b)]) hx hb dL_law_1580 hl (k := 2) rfl (cf_5s i) (by decide) rfl (fun ls hl => ?_)
    refine lv_goto (tgt := 23) hx hb dL_law_1583 (by decide) ?_
    refine W.widen (k := 60 + (i + 1) * 4) (n := 800 + (i + 1) * 24) (by omega) (by omega) ?_
    exact ih _ _ _ (nc2, ng2, T9, P2, O2, ad2) ⟨hW, hS, by rw [← hag3 5 (by simp), ← hag3 6 (by simp), ← hag3 18 (by simp)]; exact lv_sub hl [0, 3, 4, 5, 6] rfl, hsim.2.2, hag3⟩
  · have hval := hsim.2.1 c1450_2
    refine lv_aload_n hx hb dL_law_1453 rfl (lv_at hl 3 rfl) ?_
    refine lv_iconst (v := 0) hx hb dL_law_1454 (by decide) ?_
    refine cf_lald (k := 18) (i := 0) (ad := ad2) hx hb hT.1 hW 2 cf_e18 rfl (show vp_in 0 1 from vp_in_nI (show (0 : Nat) < 1 by decide) (by decide)) dL_law_1455 ?_
    refine lv_iload hx hb dL_law_1456 (lv_at hl 0 rfl) ?_
    refine lv_i2l (v := v2.toInt64) hx hb dL_law_1458 rfl ?_
    refine W.lcmp hx hb dL_law_1459 ?_
    have ec : lg_cmp (O2 0) v2.toInt64 = 0 := by rw [show O2 0 = v2.toInt64 from hval]; simp [lg_cmp]
    refine lv_if_eq (tgt := 1465) hx hb dL_law_1460 (by decide) (fun c1460_3 => ?_) (fun c1460_3 => (by first | exact absurd ec c1460_3 | exact absurd c1460_3 ec))
    refine lv_goto (tgt := 1580) hx hb dL_law_1465 (by decide) ?_
    refine lv_iinc (v := (nI (5 * (i + 1)))) (lv' := [(4, .int (nI (5 * (i + 1)))), (6, .int v2), (5, .int k1), (3, .ref (ad2 18 0)), (2, .ref (ad2 6 0)), (1, .ref (ad2 5 0)), (0, .ref b)]) hx hb dL_law_1580 hl (k := 2) rfl (cf_5s i) (by decide) rfl (fun ls hl => ?_)
    refine lv_goto (tgt := 23) hx hb dL_law_1583 (by decide) ?_
    refine W.widen (k := 60 + (i + 1) * 4) (n := 800 + (i + 1) * 24) (by omega) (by omega) ?_
    exact ih _ _ _ (nc2, ng2, T9, P2, O2, ad2) ⟨hW, hS, by rw [← hag3 5 (by simp), ← hag3 6 (by simp), ← hag3 18 (by simp)]; exact lv_sub hl [0, 3, 4, 5, 6] rfl, hsim.2.2, hag3⟩

set_option maxHeartbeats 4000000 in
set_option maxRecDepth 100000 in
theorem cf_case_plays (l : Launch) (hl0 : l.stackTraces = false) {p : Program} {e : Env} {s : State} {m : MethodId} {below : List Frame} {meth : Method} {c : Code} {b L : Nat} {xs : Nat → Int32} (hL : L ≤ 2560) (C0 : lw_At p s m meth c b L xs) {D : va_G} {cT : Nat → ClassId} (hT : cf_Tb D cT s.heap.size s s.heap) {ad0 : cf_Ad} {i : Nat} (hi : i < L / 5) {H : Heap} {locs : List Loc} {ls : Array Slot} {u : cf_St} (hI : cf_LI D cT s b ad0 i H locs ls u) (ih : ∀ (H2 : Heap) (locs2 : List Loc) (ls2 : Array Slot) (u2 : cf_St), cf_LI D cT s b ad0 (i + 1) H2 locs2 ls2 u2 → W p l e room_1 s m #[Value.ref b] below meth c H2 locs2 (60 + (i + 1) * 4) (800 + (i + 1) * 24) (lw_Z below #[Value.ref b] s) (F0 m 23 ls2 [])) : W p l e room_1 s m #[Value.ref b] below meth c H locs (60 + i * 4) (800 + i * 24) (lw_Z below #[Value.ref b] s) (F0 m 1468 ls []) := by
  obtain ⟨hx, hb, hr, hml, hown, hts0, hX, hbl, hlocks, hgv⟩ := id C0
  have hts : ∀ w ∈ wsL_law, w.before #[Value.ref b] s = true := fun w h => hts0 w (wsL_law_in w h)
  have hbA : ¬ s.heap.size ≤ b := Nat.not_le.mpr hbl
  obtain ⟨nc, ng, S, P, O, ad⟩ := u
  obtain ⟨hW, hS, hl, hR, hag⟩ := hI
  have hW : cf_W D s.heap.size (cf_E cT nc ng S P O ad) ad H := hW
  have hR : cf_R i nc ng S P := hR
  have hag : ∀ k, k = 5 ∨ k = 6 ∨ k = 17 ∨ k = 18 → ad k 0 = ad0 k 0 := hag
  have hl : lv_has ls 7 [(4, .int (nI (5 * i))), (3, .ref (ad 18 0)), (2, .ref (ad 6 0)), (1, .ref (ad 5 0)), (0, .ref b)] := by rw [hag 5 (by simp), hag 6 (by simp), hag 18 (by simp)]; exact hl
  refine lv_aload_n hx hb dL_law_1468 rfl (lv_at hl 3 rfl) ?_
  refine lv_aload_n hx hb dL_law_1469 rfl (lv_at hl 4 rfl) ?_
  refine lv_iload hx hb dL_law_1470 (lv_at hl 0 rfl) ?_
  refine lv_iconst (v := 1) hx hb dL_law_1472 (by decide) ?_
  refine lv_iadd hx hb dL_law_1473 ?_
  refine cf_sld hx hb hX hbl hbA hS (5 * i + 1) (cf_5k 1) (by omega) (by omega) dL_law_1474 ?_
  refine lv_aload_n hx hb dL_law_1475 rfl (lv_at hl 1 rfl) ?_
  refine vx_calli (vx_runSX (As := [.ref (ad 5 0), .int (xs (5 * i + 1)), .ref (ad 18 0)]) (rest := []) ⟨hx, hb, hml, hown, hts⟩ (c_L_plays l D cT s.heap.size ad nc ng S P O hl0 (xs (5 * i + 1))) (vx_cwSW 3 hts gL_law_L_plays rfl rfl rfl (by decide +kernel) ⟨Nat.le_of_ble_eq_true rfl, Nat.le_of_ble_eq_true rfl⟩) (cf_preS hT hS hW) rfl rfl hl.1 rfl (lv_room (Nat.le_of_ble_eq_true rfl)) dL_law_1476 ⟨(by show _ ≤ 765407; omega), (by show _ ≤ 6799882; omega)⟩) hS (fun _ _ h => h) (fun _ h => h) (fun _ _ h => h) (fun E9 ce q9 u9 t9 H locs ht hvm hu hB hz1 hk1 hS hce hcv hcl => absurd hB.1 id) (fun k1 u1 t9 H locs ht hvm hw hW hz1 hk1 hS => ?_)
  have hW9 := cf_W.er ht hW
  have hpre := cf_pre_plays hR hw
  refine lv_istore (lv' := [(5, .int k1), (4, .int (nI (5 * i))), (3, .ref (ad 18 0)), (2, .ref (ad 6 0)), (1, .ref (ad 5 0)), (0, .ref b)]) hx hb dL_law_1479 hl (by decide) rfl (fun ls hl => ?_)
  obtain ⟨hu1, hu2, hag2, hH⟩ := hpre
  obtain ⟨nc2, ng2, S2, P2, O2, ad2⟩ := u1
  have hu1 : nc2 = nc := hu1
  subst hu1
  have hu2 : ng2 = ng := hu2
  subst hu2
  have hW : cf_W D s.heap.size (cf_E cT nc2 ng2 S2 P2 O2 ad2) ad2 H := hW9
  have hag2 : ∀ k, k = 5 ∨ k = 6 ∨ k = 17 ∨ k = 18 → ad2 k 0 = ad k 0 := hag2
  have hH : cf_H nc2 ng2 S2 P2 P := hH
  have hl : lv_has ls 7 [(5, .int k1), (4, .int (nI (5 * i))), (3, .ref (ad2 18 0)), (2, .ref (ad2 6 0)), (1, .ref (ad2 5 0)), (0, .ref b)] := by rw [hag2 5 (by simp), hag2 6 (by simp), hag2 18 (by simp)]; exact hl
  have hag3 : ∀ k, k = 5 ∨ k = 6 ∨ k = 17 ∨ k = 18 → ad2 k 0 = ad0 k 0 := fun k hk => (hag2 k hk).trans (hag k hk)
  refine lv_aload_n hx hb dL_law_1481 rfl (lv_at hl 3 rfl) ?_
  refine lv_aload_n hx hb dL_law_1482 rfl (lv_at hl 5 rfl) ?_
  refine lv_iload hx hb dL_law_1483 (lv_at hl 1 rfl) ?_
  refine lv_iconst (v := 1) hx hb dL_law_1485 (by decide) ?_
  refine lv_iadd hx hb dL_law_1486 ?_
  refine cf_sld hx hb hX hbl hbA hS (5 * i + 1) (cf_5k 1) (by omega) (by omega) dL_law_1487 ?_
  refine va_calli (va_runV (As := [.int (xs (5 * i + 1))]) (rest := []) ⟨hx, hb, hml, hown, hts⟩ (c_X6_plays l D cT s.heap.size ad2 nc2 ng2 S2 P2 O2 (xs (5 * i + 1))) (cwV 1 hts gL_law_X6_plays rfl rfl rfl (by decide +kernel) ⟨Nat.le_of_ble_eq_true rfl, Nat.le_of_ble_eq_true rfl⟩) (cf_preV (T := TX6) (N := 24) hT hS hW cf_e6 rfl) rfl rfl hl.1 rfl (lv_room (Nat.le_of_ble_eq_true rfl)) dL_law_1488 ⟨(by show _ ≤ 765407; omega), (by show _ ≤ 6799882; omega)⟩) hS (fun _ _ h => h) (fun _ h => h) (fun v2 T9 t9 H locs ht hvm hw2 hW hz1 hk1 hS => ?_)
  have hW := cf_W.er ht hW
  have hsim := cf_sim_plays hR hw hw2
  refine lv_istore (lv' := [(6, .int v2), (5, .int k1), (4, .int (nI (5 * i))), (3, .ref (ad2 18 0)), (2, .ref (ad2 6 0)), (1, .ref (ad2 5 0)), (0, .ref b)]) hx hb dL_law_1491 hl (by decide) rfl (fun ls hl => ?_)
  refine lv_aload_n hx hb dL_law_1493 rfl (lv_at hl 4 rfl) ?_
  refine va_calli (va_runV (As := []) (rest := []) ⟨hx, hb, hml, hown, hts⟩ (c_X6_thrown l D cT s.heap.size ad2 nc2 ng2 T9 P2 O2) (cwV 0 hts gL_law_X6_thrown rfl rfl rfl (by decide +kernel) ⟨Nat.le_of_ble_eq_true rfl, Nat.le_of_ble_eq_true rfl⟩) (cf_preV (T := TX6) (N := 24) hT hS hW cf_e6 rfl) rfl rfl hl.1 rfl (lv_room (Nat.le_of_ble_eq_true rfl)) dL_law_1494 ⟨(by show _ ≤ 765407; omega), (by show _ ≤ 6799882; omega)⟩) hS (fun _ _ h => h) (fun _ h => h) (fun r3 u3 t9 H locs ht hvm hw3 hW hz1 hk1 hS => ?_)
  have hW := cf_W.er ht hW
  have hW : cf_W D s.heap.size (cf_E cT nc2 ng2 T9 P2 O2 ad2) ad2 H := hW
  have e3 : r3 = k1 := hw3.trans hsim.1
  refine lv_iload hx hb dL_law_1497 (lv_at hl 1 rfl) ?_
  refine lv_icmp_eq (tgt := 1504) hx hb dL_law_1499 (by decide) (fun c1499_1 => ?_) (fun c1499_1 => (by first | exact absurd e3 c1499_1 | exact absurd c1499_1 e3))
  refine lv_iload hx hb dL_law_1504 (lv_at hl 1 rfl) ?_
  refine lv_if_ne (tgt := 1521) hx hb dL_law_1506 (by decide) (fun c1506_2 => ?_) (fun c1506_2 => ?_)
  · refine lv_goto (tgt := 1580) hx hb dL_law_1521 (by decide) ?_
    refine lv_iinc (v := (nI (5 * (i + 1)))) (lv' := [(4, .int (nI (5 * (i + 1)))), (6, .int v2), (5, .int k1), (3, .ref (ad2 18 0)), (2, .ref (ad2 6 0)), (1, .ref (ad2 5 0)), (0, .ref b)]) hx hb dL_law_1580 hl (k := 2) rfl (cf_5s i) (by decide) rfl (fun ls hl => ?_)
    refine lv_goto (tgt := 23) hx hb dL_law_1583 (by decide) ?_
    refine W.widen (k := 60 + (i + 1) * 4) (n := 800 + (i + 1) * 24) (by omega) (by omega) ?_
    exact ih _ _ _ (nc2, ng2, T9, P2, O2, ad2) ⟨hW, hS, by rw [← hag3 5 (by simp), ← hag3 6 (by simp), ← hag3 18 (by simp)]; exact lv_sub hl [0, 3, 4, 5, 6] rfl, hsim.2.2, hag3⟩
  · have hval := hsim.2.1 c1506_2
    refine lv_aload_n hx hb dL_law_1509 rfl (lv_at hl 3 rfl) ?_
    refine lv_iconst (v := 0) hx hb dL_law_1510 (by decide) ?_
    refine cf_lald (k := 18) (i := 0) (ad := ad2) hx hb hT.1 hW 2 cf_e18 rfl (show vp_in 0 1 from vp_in_nI (show (0 : Nat) < 1 by decide) (by decide)) dL_law_1511 ?_
    refine lv_iload hx hb dL_law_1512 (lv_at hl 0 rfl) ?_
    refine lv_i2l (v := v2.toInt64) hx hb dL_law_1514 rfl ?_
    refine W.lcmp hx hb dL_law_1515 ?_
    have ec : lg_cmp (O2 0) v2.toInt64 = 0 := by rw [show O2 0 = v2.toInt64 from hval]; simp [lg_cmp]
    refine lv_if_eq (tgt := 1521) hx hb dL_law_1516 (by decide) (fun c1516_3 => ?_) (fun c1516_3 => (by first | exact absurd ec c1516_3 | exact absurd c1516_3 ec))
    refine lv_goto (tgt := 1580) hx hb dL_law_1521 (by decide) ?_
    refine lv_iinc (v := (nI (5 * (i + 1)))) (lv' := [(4, .int (nI (5 * (i + 1)))), (6, .int v2), (5, .int k1), (3, .ref (ad2 18 0)), (2, .ref (ad2 6 0)), (1, .ref (ad2 5 0)), (0, .ref b)]) hx hb dL_law_1580 hl (k := 2) rfl (cf_5s i) (by decide) rfl (fun ls hl => ?_)
    refine lv_goto (tgt := 23) hx hb dL_law_1583 (by decide) ?_
    refine W.widen (k := 60 + (i + 1) * 4) (n := 800 + (i + 1) * 24) (by omega) (by omega) ?_
    exact ih _ _ _ (nc2, ng2, T9, P2, O2, ad2) ⟨hW, hS, by rw [← hag3 5 (by simp), ← hag3 6 (by simp), ← hag3 18 (by simp)]; exact lv_sub hl [0, 3, 4, 5, 6] rfl, hsim.2.2, hag3⟩

set_option maxHeartbeats 4000000 in
set_option maxRecDepth 100000 in
theorem cf_case_propose (l : Launch) (hl0 : l.stackTraces = false) {p : Program} {e : Env} {s : State} {m : MethodId} {below : List Frame} {meth : Method} {c : Code} {b L : Nat} {xs : Nat → Int32} (hL : L ≤ 2560) (C0 : lw_At p s m meth c b L xs) {D : va_G} {cT : Nat → ClassId} (hT : cf_Tb D cT s.heap.size s s.heap) {ad0 : cf_Ad} {i : Nat} (hi : i < L / 5) {H : Heap} {locs : List Loc} {ls : Array Slot} {u : cf_St} (hI : cf_LI D cT s b ad0 i H locs ls u) (ih : ∀ (H2 : Heap) (locs2 : List Loc) (ls2 : Array Slot) (u2 : cf_St), cf_LI D cT s b ad0 (i + 1) H2 locs2 ls2 u2 → W p l e room_1 s m #[Value.ref b] below meth c H2 locs2 (60 + (i + 1) * 4) (800 + (i + 1) * 24) (lw_Z below #[Value.ref b] s) (F0 m 23 ls2 [])) : W p l e room_1 s m #[Value.ref b] below meth c H locs (60 + i * 4) (800 + i * 24) (lw_Z below #[Value.ref b] s) (F0 m 1524 ls []) := by
  obtain ⟨hx, hb, hr, hml, hown, hts0, hX, hbl, hlocks, hgv⟩ := id C0
  have hts : ∀ w ∈ wsL_law, w.before #[Value.ref b] s = true := fun w h => hts0 w (wsL_law_in w h)
  have hbA : ¬ s.heap.size ≤ b := Nat.not_le.mpr hbl
  obtain ⟨nc, ng, S, P, O, ad⟩ := u
  obtain ⟨hW, hS, hl, hR, hag⟩ := hI
  have hW : cf_W D s.heap.size (cf_E cT nc ng S P O ad) ad H := hW
  have hR : cf_R i nc ng S P := hR
  have hag : ∀ k, k = 5 ∨ k = 6 ∨ k = 17 ∨ k = 18 → ad k 0 = ad0 k 0 := hag
  have hl : lv_has ls 7 [(4, .int (nI (5 * i))), (3, .ref (ad 18 0)), (2, .ref (ad 6 0)), (1, .ref (ad 5 0)), (0, .ref b)] := by rw [hag 5 (by simp), hag 6 (by simp), hag 18 (by simp)]; exact hl
  refine lv_aload_n hx hb dL_law_1524 rfl (lv_at hl 3 rfl) ?_
  refine lv_aload_n hx hb dL_law_1525 rfl (lv_at hl 4 rfl) ?_
  refine lv_iload hx hb dL_law_1526 (lv_at hl 0 rfl) ?_
  refine lv_iconst (v := 1) hx hb dL_law_1528 (by decide) ?_
  refine lv_iadd hx hb dL_law_1529 ?_
  refine cf_sld hx hb hX hbl hbA hS (5 * i + 1) (cf_5k 1) (by omega) (by omega) dL_law_1530 ?_
  refine lv_aload_n hx hb dL_law_1531 rfl (lv_at hl 1 rfl) ?_
  refine vx_calli (vx_runSX (As := [.ref (ad 5 0), .int (xs (5 * i + 1)), .ref (ad 18 0)]) (rest := []) ⟨hx, hb, hml, hown, hts⟩ (c_L_propose l D cT s.heap.size ad nc ng S P O hl0 (xs (5 * i + 1)) hR.O hR.G (hR.p0 (by omega))) (vx_cwSW 3 hts gL_law_L_propose rfl rfl rfl (by decide +kernel) ⟨Nat.le_of_ble_eq_true rfl, Nat.le_of_ble_eq_true rfl⟩) (cf_preS hT hS hW) rfl rfl hl.1 rfl (lv_room (Nat.le_of_ble_eq_true rfl)) dL_law_1532 ⟨(by show _ ≤ 765407; omega), (by show _ ≤ 6799882; omega)⟩) hS (fun _ _ h => h) (fun _ h => h) (fun _ _ h => h) (fun E9 ce q9 u9 t9 H locs ht hvm hu hB hz1 hk1 hS hce hcv hcl => absurd hB.1 id) (fun k1 u1 t9 H locs ht hvm hw hW hz1 hk1 hS => ?_)
  have hW9 := cf_W.er ht hW
  have hpre := cf_pre_propose hR hw
  refine lv_istore (lv' := [(5, .int k1), (4, .int (nI (5 * i))), (3, .ref (ad 18 0)), (2, .ref (ad 6 0)), (1, .ref (ad 5 0)), (0, .ref b)]) hx hb dL_law_1535 hl (by decide) rfl (fun ls hl => ?_)
  obtain ⟨hu1, hu2, hag2, hH⟩ := hpre
  obtain ⟨nc2, ng2, S2, P2, O2, ad2⟩ := u1
  have hu1 : nc2 = nc := hu1
  subst hu1
  have hu2 : ng2 = ng := hu2
  subst hu2
  have hW : cf_W D s.heap.size (cf_E cT nc2 ng2 S2 P2 O2 ad2) ad2 H := hW9
  have hag2 : ∀ k, k = 5 ∨ k = 6 ∨ k = 17 ∨ k = 18 → ad2 k 0 = ad k 0 := hag2
  have hH : cf_H nc2 ng2 S2 P2 P := hH
  have hl : lv_has ls 7 [(5, .int k1), (4, .int (nI (5 * i))), (3, .ref (ad2 18 0)), (2, .ref (ad2 6 0)), (1, .ref (ad2 5 0)), (0, .ref b)] := by rw [hag2 5 (by simp), hag2 6 (by simp), hag2 18 (by simp)]; exact hl
  have hag3 : ∀ k, k = 5 ∨ k = 6 ∨ k = 17 ∨ k = 18 → ad2 k 0 = ad0 k 0 := fun k hk => (hag2 k hk).trans (hag k hk)
  refine lv_aload_n hx hb dL_law_1537 rfl (lv_at hl 3 rfl) ?_
  refine lv_aload_n hx hb dL_law_1538 rfl (lv_at hl 5 rfl) ?_
  refine lv_iload hx hb dL_law_1539 (lv_at hl 1 rfl) ?_
  refine lv_iconst (v := 1) hx hb dL_law_1541 (by decide) ?_
  refine lv_iadd hx hb dL_law_1542 ?_
  refine cf_sld hx hb hX hbl hbA hS (5 * i + 1) (cf_5k 1) (by omega) (by omega) dL_law_1543 ?_
  refine va_calli (va_runV (As := [.int (xs (5 * i + 1))]) (rest := []) ⟨hx, hb, hml, hown, hts⟩ (c_X6_propose l D cT s.heap.size ad2 nc2 ng2 S2 P2 O2 (xs (5 * i + 1)) hH.2.2.1 hH.2.2.2.1 hH.1 hH.2.1 hH.2.2.2.2.1) (cwV 1 hts gL_law_X6_propose rfl rfl rfl (by decide +kernel) ⟨Nat.le_of_ble_eq_true rfl, Nat.le_of_ble_eq_true rfl⟩) (cf_preV (T := TX6) (N := 24) hT hS hW cf_e6 rfl) rfl rfl hl.1 rfl (lv_room (Nat.le_of_ble_eq_true rfl)) dL_law_1544 ⟨(by show _ ≤ 765407; omega), (by show _ ≤ 6799882; omega)⟩) hS (fun _ _ h => h) (fun _ h => h) (fun v2 T9 t9 H locs ht hvm hw2 hW hz1 hk1 hS => ?_)
  have hW := cf_W.er ht hW
  have hsim := cf_sim_propose hR hw hw2
  refine lv_istore (lv' := [(6, .int v2), (5, .int k1), (4, .int (nI (5 * i))), (3, .ref (ad2 18 0)), (2, .ref (ad2 6 0)), (1, .ref (ad2 5 0)), (0, .ref b)]) hx hb dL_law_1547 hl (by decide) rfl (fun ls hl => ?_)
  refine lv_aload_n hx hb dL_law_1549 rfl (lv_at hl 4 rfl) ?_
  refine va_calli (va_runV (As := []) (rest := []) ⟨hx, hb, hml, hown, hts⟩ (c_X6_thrown l D cT s.heap.size ad2 nc2 ng2 T9 P2 O2) (cwV 0 hts gL_law_X6_thrown rfl rfl rfl (by decide +kernel) ⟨Nat.le_of_ble_eq_true rfl, Nat.le_of_ble_eq_true rfl⟩) (cf_preV (T := TX6) (N := 24) hT hS hW cf_e6 rfl) rfl rfl hl.1 rfl (lv_room (Nat.le_of_ble_eq_true rfl)) dL_law_1550 ⟨(by show _ ≤ 765407; omega), (by show _ ≤ 6799882; omega)⟩) hS (fun _ _ h => h) (fun _ h => h) (fun r3 u3 t9 H locs ht hvm hw3 hW hz1 hk1 hS => ?_)
  have hW := cf_W.er ht hW
  have hW : cf_W D s.heap.size (cf_E cT nc2 ng2 T9 P2 O2 ad2) ad2 H := hW
  have e3 : r3 = k1 := hw3.trans hsim.1
  refine lv_iload hx hb dL_law_1553 (lv_at hl 1 rfl) ?_
  refine lv_icmp_eq (tgt := 1560) hx hb dL_law_1555 (by decide) (fun c1555_1 => ?_) (fun c1555_1 => (by first | exact absurd e3 c1555_1 | exact absurd c1555_1 e3))
  refine lv_iload hx hb dL_law_1560 (lv_at hl 1 rfl) ?_
  refine lv_if_ne (tgt := 1577) hx hb dL_law_1562 (by decide) (fun c1562_2 => ?_) (fun c1562_2 => ?_)
  · refine lv_goto (tgt := 1580) hx hb dL_law_1577 (by decide) ?_
    refine lv_iinc (v := (nI (5 * (i + 1)))) (lv' := [(4, .int (nI (5 * (i + 1)))), (6, .int v2), (5, .int k1), (3, .ref (ad2 18 0)), (2, .ref (ad2 6 0)), (1, .ref (ad2 5 0)), (0, .ref b)]) hx hb dL_law_1580 hl (k := 2) rfl (cf_5s i) (by decide) rfl (fun ls hl => ?_)
    refine lv_goto (tgt := 23) hx hb dL_law_1583 (by decide) ?_
    refine W.widen (k := 60 + (i + 1) * 4) (n := 800 + (i + 1) * 24) (by omega) (by omega) ?_
    exact ih _ _ _ (nc2, ng2, T9, P2, O2, ad2) ⟨hW, hS, by rw [← hag3 5 (by simp), ← hag3 6 (by simp), ← hag3 18 (by simp)]; exact lv_sub hl [0, 3, 4, 5, 6] rfl, hsim.2.2, hag3⟩
  · have hval := hsim.2.1 c1562_2
    refine lv_aload_n hx hb dL_law_1565 rfl (lv_at hl 3 rfl) ?_
    refine lv_iconst (v := 0) hx hb dL_law_1566 (by decide) ?_
    refine cf_lald (k := 18) (i := 0) (ad := ad2) hx hb hT.1 hW 2 cf_e18 rfl (show vp_in 0 1 from vp_in_nI (show (0 : Nat) < 1 by decide) (by decide)) dL_law_1567 ?_
    refine lv_iload hx hb dL_law_1568 (lv_at hl 0 rfl) ?_
    refine lv_i2l (v := v2.toInt64) hx hb dL_law_1570 rfl ?_
    refine W.lcmp hx hb dL_law_1571 ?_
    have ec : lg_cmp (O2 0) v2.toInt64 = 0 := by rw [show O2 0 = v2.toInt64 from hval]; simp [lg_cmp]
    refine lv_if_eq (tgt := 1577) hx hb dL_law_1572 (by decide) (fun c1572_3 => ?_) (fun c1572_3 => (by first | exact absurd ec c1572_3 | exact absurd c1572_3 ec))
    refine lv_goto (tgt := 1580) hx hb dL_law_1577 (by decide) ?_
    refine lv_iinc (v := (nI (5 * (i + 1)))) (lv' := [(4, .int (nI (5 * (i + 1)))), (6, .int v2), (5, .int k1), (3, .ref (ad2 18 0)), (2, .ref (ad2 6 0)), (1, .ref (ad2 5 0)), (0, .ref b)]) hx hb dL_law_1580 hl (k := 2) rfl (cf_5s i) (by decide) rfl (fun ls hl => ?_)
    refine lv_goto (tgt := 23) hx hb dL_law_1583 (by decide) ?_
    refine W.widen (k := 60 + (i + 1) * 4) (n := 800 + (i + 1) * 24) (by omega) (by omega) ?_
    exact ih _ _ _ (nc2, ng2, T9, P2, O2, ad2) ⟨hW, hS, by rw [← hag3 5 (by simp), ← hag3 6 (by simp), ← hag3 18 (by simp)]; exact lv_sub hl [0, 3, 4, 5, 6] rfl, hsim.2.2, hag3⟩
