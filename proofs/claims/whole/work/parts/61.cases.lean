/-! THE LAW'S CASES: each calls the class and the reference with the same numbers of the script, and compares -/
abbrev lw_A (s : State) : Nat → Prop := fun q => s.heap.size ≤ q
abbrev lw_X (p : Program) (s : State) (m : MethodId) (b : Nat) (meth : Method) (c : Code) (D : va_G) (cA : Nat → ClassId) : Prop := zX p s m #[Value.ref b] meth c (lw_A s) D cls (zt cA) GG "WindowPlanLaw" code 4 ret
abbrev lw_L (k : Nat) : List (Nat × zA) := [(3, zI (nI (5 * k))), (2, zR 51), (1, zR 0), (0, zR 77)]
abbrev lw_W (p : Program) (l : Launch) (e : Env) (s : State) (m : MethodId) (b : Nat) (below : List Frame) (meth : Method) (c : Code) (Q : State → Prop) (D : va_G) (cA : Nat → ClassId) (ad : Nat → Nat) (M : zM) (pc k : Nat) (st : List zA) : Prop := zW p l e room_1 s m #[Value.ref b] below meth c 77 699 Q (lw_A s) D cls cA ad EE 4 M pc (lw_L k) st
def lw_S (s : State) (b Ls : Nat) (xs : Nat → Int32) (ad : Nat → Nat) : Prop := va_X b Ls xs s s.heap ∧ b < s.heap.size ∧ ad 77 = b ∧ Ls ≤ 2560
theorem law_d {x : Int32} (h : 1 ≤ x ∧ x ≤ 60) : ∃ d : Nat, 1 ≤ d ∧ d ≤ 60 ∧ x = nI d := by
  have h0 : 0 ≤ x := Int32.le_trans (by decide) h.1
  obtain ⟨e, hd⟩ := kR_ok (c := 60) (N := 60) (by decide) ⟨h0, h.2⟩
  refine ⟨x.toNatClampNeg, ?_, by omega, e⟩
  rcases Nat.eq_zero_or_pos x.toNatClampNeg with q | q
  · rw [q] at e
    rw [e] at h
    exact absurd h.1 (by decide)
  · exact q
section Law
variable {p : Program} {l : Launch} {e : Env} {s : State} {m : MethodId} {below : List Frame} {meth : Method} {c : Code} {Q : State → Prop} {D : va_G} {cA : Nat → ClassId} {ad : Nat → Nat} {b Ls : Nat} {xs : Nat → Int32} {M : zM} {k n w g t : Nat}
theorem law_arg (X : lw_X p s m b meth c D cA) (hs : lw_S s b Ls xs ad) {pc : Nat} {st : List zA} (j : Nat) (hj : 5 * k + j < Ls) {i : Int} (d0 : decode code pc = .ok (.aload_n 0, 1)) (d1 : decode code (pc + 1) = .ok (.iload_n 3, 1)) (d2 : decode code (pc + 2) = .ok (.iconst i, 1)) (hi : Int32.ofInt i = nI j) (d3 : decode code (pc + 3) = .ok (.iadd, 1)) (d4 : decode code (pc + 4) = .ok (.iaload, 1)) (kk : lw_W p l e s m b below meth c Q D cA ad M (pc + 5) k (zI (xs (5 * k + j)) :: st)) : lw_W p l e s m b below meth c Q D cA ad M pc k st := by
  refine z_aload_n X 3 d0 rfl rfl ?_
  refine z_iload_n X 0 d1 rfl rfl ?_
  refine z_iconst X d2 hi ?_
  refine z_iadd X d3 ?_
  exact z_sld X hs.1 hs.2.1 (Nat.not_le.mpr hs.2.1) hs.2.2.1 (5 * k + j) (nI_add (5 * k) j) hj (by have := hs.2.2.2; omega) d4 kk
set_option maxRecDepth 100000 in
set_option maxHeartbeats 4000000 in
theorem lc_window (X : lw_X p s m b meth c D cA) (hs : lw_S s b Ls xs ad) (hk : 5 * k + 5 ≤ Ls) (hJ : sJ n w g t M) (next : ∀ M2 : zM, sK (g + 4860) (t + 60) M2 → lw_W p l e s m b below meth c Q D cA ad M2 452 k []) : lw_W p l e s m b below meth c Q D cA ad M 96 k [] := by
  refine z_aload_n X 2 d_Lw_law_96 rfl rfl ?_
  refine law_arg X hs 1 (by omega) d_Lw_law_97 d_Lw_law_98 d_Lw_law_99 (by decide) d_Lw_law_100 d_Lw_law_101 ?_
  refine law_arg X hs 2 (by omega) d_Lw_law_102 d_Lw_law_103 d_Lw_law_104 (by decide) d_Lw_law_105 d_Lw_law_106 ?_
  refine z_Vi X GG_ok cf_Lw_13 0 [zI (xs (5 * k + 1)), zI (xs (5 * k + 2))] [] (c_A_window l D cA ad M n w hJ.1.1 _ _) ⟨rfl, rfl⟩ (by decide) e_A rfl rfl rfl rfl (Nat.le_of_ble_eq_true rfl) ⟨Nat.le_of_ble_eq_true rfl, Nat.le_of_ble_eq_true rfl⟩ d_Lw_law_107 (fun r1 M1 h1 => ?_)
  have hu := u_window hJ h1
  have hm := sJ_mid hJ hu
  refine z_aload_n X 1 d_Lw_law_110 rfl rfl ?_
  refine law_arg X hs 1 (by omega) d_Lw_law_111 d_Lw_law_112 d_Lw_law_113 (by decide) d_Lw_law_114 d_Lw_law_115 ?_
  refine law_arg X hs 2 (by omega) d_Lw_law_116 d_Lw_law_117 d_Lw_law_118 (by decide) d_Lw_law_119 d_Lw_law_120 ?_
  refine z_Vi X GG_ok cf_Lw_17 51 [zI (xs (5 * k + 1)), zI (xs (5 * k + 2))] [zI r1] (c_B_window l D cA ad M1 n w hm.1.2.1 _ _) ⟨rfl, rfl⟩ (by decide) e_B rfl rfl rfl rfl (Nat.le_of_ble_eq_true rfl) ⟨Nat.le_of_ble_eq_true rfl, Nat.le_of_ble_eq_true rfl⟩ d_Lw_law_121 (fun r2 M2 h2 => ?_)
  have hq := q_window hJ hm h1 h2
  exact z_icmp_eq X 452 d_Lw_law_124 (by decide) (fun _ => next M2 hq.2) (fun z => absurd hq.1 z)
set_option maxRecDepth 100000 in
set_option maxHeartbeats 4000000 in
theorem lc_process (X : lw_X p s m b meth c D cA) (hs : lw_S s b Ls xs ad) (hk : 5 * k + 5 ≤ Ls) (hJ : sJ n w g t M) (next : ∀ M2 : zM, sK (g + 4860) (t + 60) M2 → lw_W p l e s m b below meth c Q D cA ad M2 452 k []) : lw_W p l e s m b below meth c Q D cA ad M 129 k [] := by
  refine z_aload_n X 2 d_Lw_law_129 rfl rfl ?_
  refine law_arg X hs 1 (by omega) d_Lw_law_130 d_Lw_law_131 d_Lw_law_132 (by decide) d_Lw_law_133 d_Lw_law_134 ?_
  refine law_arg X hs 2 (by omega) d_Lw_law_135 d_Lw_law_136 d_Lw_law_137 (by decide) d_Lw_law_138 d_Lw_law_139 ?_
  refine law_arg X hs 3 (by omega) d_Lw_law_140 d_Lw_law_141 d_Lw_law_142 (by decide) d_Lw_law_143 d_Lw_law_144 ?_
  refine law_arg X hs 4 (by omega) d_Lw_law_145 d_Lw_law_146 d_Lw_law_147 (by decide) d_Lw_law_148 d_Lw_law_149 ?_
  refine z_Vi X GG_ok cf_Lw_18 0 [zI (xs (5 * k + 1)), zI (xs (5 * k + 2)), zI (xs (5 * k + 3)), zI (xs (5 * k + 4))] [] (c_A_process l D cA ad M n w hJ.1.1 _ _ _ _) ⟨rfl, rfl⟩ (by decide) e_A rfl rfl rfl rfl (Nat.le_of_ble_eq_true rfl) ⟨Nat.le_of_ble_eq_true rfl, Nat.le_of_ble_eq_true rfl⟩ d_Lw_law_150 (fun r1 M1 h1 => ?_)
  have hu := u_process hJ h1
  have hm := sJ_mid hJ hu
  refine z_aload_n X 1 d_Lw_law_153 rfl rfl ?_
  refine law_arg X hs 1 (by omega) d_Lw_law_154 d_Lw_law_155 d_Lw_law_156 (by decide) d_Lw_law_157 d_Lw_law_158 ?_
  refine law_arg X hs 2 (by omega) d_Lw_law_159 d_Lw_law_160 d_Lw_law_161 (by decide) d_Lw_law_162 d_Lw_law_163 ?_
  refine law_arg X hs 3 (by omega) d_Lw_law_164 d_Lw_law_165 d_Lw_law_166 (by decide) d_Lw_law_167 d_Lw_law_168 ?_
  refine law_arg X hs 4 (by omega) d_Lw_law_169 d_Lw_law_170 d_Lw_law_171 (by decide) d_Lw_law_172 d_Lw_law_173 ?_
  refine z_Vi X GG_ok cf_Lw_22 51 [zI (xs (5 * k + 1)), zI (xs (5 * k + 2)), zI (xs (5 * k + 3)), zI (xs (5 * k + 4))] [zI r1] (c_B_process l D cA ad M1 n w hm.1.2.1 _ _ _ _) ⟨rfl, rfl⟩ (by decide) e_B rfl rfl rfl rfl (Nat.le_of_ble_eq_true rfl) ⟨Nat.le_of_ble_eq_true rfl, Nat.le_of_ble_eq_true rfl⟩ d_Lw_law_174 (fun r2 M2 h2 => ?_)
  have hq := q_process hJ hm h1 h2
  exact z_icmp_eq X 452 d_Lw_law_177 (by decide) (fun _ => next M2 hq.2) (fun z => absurd hq.1 z)
set_option maxRecDepth 100000 in
set_option maxHeartbeats 4000000 in
theorem lc_order (X : lw_X p s m b meth c D cA) (hs : lw_S s b Ls xs ad) (hk : 5 * k + 5 ≤ Ls) (hJ : sJ n w g t M) (next : ∀ M2 : zM, sK (g + 4860) (t + 60) M2 → lw_W p l e s m b below meth c Q D cA ad M2 452 k []) : lw_W p l e s m b below meth c Q D cA ad M 182 k [] := by
  refine z_aload_n X 2 d_Lw_law_182 rfl rfl ?_
  refine law_arg X hs 1 (by omega) d_Lw_law_183 d_Lw_law_184 d_Lw_law_185 (by decide) d_Lw_law_186 d_Lw_law_187 ?_
  refine law_arg X hs 2 (by omega) d_Lw_law_188 d_Lw_law_189 d_Lw_law_190 (by decide) d_Lw_law_191 d_Lw_law_192 ?_
  refine law_arg X hs 3 (by omega) d_Lw_law_193 d_Lw_law_194 d_Lw_law_195 (by decide) d_Lw_law_196 d_Lw_law_197 ?_
  refine z_Vi X GG_ok cf_Lw_23 0 [zI (xs (5 * k + 1)), zI (xs (5 * k + 2)), zI (xs (5 * k + 3))] [] (c_A_order l D cA ad M n w hJ.1.1 _ _ _) ⟨rfl, rfl⟩ (by decide) e_A rfl rfl rfl rfl (Nat.le_of_ble_eq_true rfl) ⟨Nat.le_of_ble_eq_true rfl, Nat.le_of_ble_eq_true rfl⟩ d_Lw_law_198 (fun r1 M1 h1 => ?_)
  have hu := u_order hJ h1
  have hm := sJ_mid hJ hu
  refine z_aload_n X 1 d_Lw_law_201 rfl rfl ?_
  refine law_arg X hs 1 (by omega) d_Lw_law_202 d_Lw_law_203 d_Lw_law_204 (by decide) d_Lw_law_205 d_Lw_law_206 ?_
  refine law_arg X hs 2 (by omega) d_Lw_law_207 d_Lw_law_208 d_Lw_law_209 (by decide) d_Lw_law_210 d_Lw_law_211 ?_
  refine law_arg X hs 3 (by omega) d_Lw_law_212 d_Lw_law_213 d_Lw_law_214 (by decide) d_Lw_law_215 d_Lw_law_216 ?_
  refine z_Vi X GG_ok cf_Lw_27 51 [zI (xs (5 * k + 1)), zI (xs (5 * k + 2)), zI (xs (5 * k + 3))] [zI r1] (c_B_order l D cA ad M1 n w hm.1.2.1 _ _ _) ⟨rfl, rfl⟩ (by decide) e_B rfl rfl rfl rfl (Nat.le_of_ble_eq_true rfl) ⟨Nat.le_of_ble_eq_true rfl, Nat.le_of_ble_eq_true rfl⟩ d_Lw_law_217 (fun r2 M2 h2 => ?_)
  have hq := q_order hJ hm h1 h2
  exact z_icmp_eq X 452 d_Lw_law_220 (by decide) (fun _ => next M2 hq.2) (fun z => absurd hq.1 z)
set_option maxRecDepth 100000 in
set_option maxHeartbeats 4000000 in
theorem lc_action (X : lw_X p s m b meth c D cA) (hs : lw_S s b Ls xs ad) (hk : 5 * k + 5 ≤ Ls) (hJ : sJ n w g t M) (next : ∀ M2 : zM, sK (g + 4860) (t + 60) M2 → lw_W p l e s m b below meth c Q D cA ad M2 452 k []) : lw_W p l e s m b below meth c Q D cA ad M 225 k [] := by
  refine z_aload_n X 2 d_Lw_law_225 rfl rfl ?_
  refine law_arg X hs 1 (by omega) d_Lw_law_226 d_Lw_law_227 d_Lw_law_228 (by decide) d_Lw_law_229 d_Lw_law_230 ?_
  refine law_arg X hs 2 (by omega) d_Lw_law_231 d_Lw_law_232 d_Lw_law_233 (by decide) d_Lw_law_234 d_Lw_law_235 ?_
  refine z_Vi X GG_ok cf_Lw_28 0 [zI (xs (5 * k + 1)), zI (xs (5 * k + 2))] [] (c_A_action l D cA ad M _ _) ⟨rfl, rfl⟩ (by decide) e_A rfl rfl rfl rfl (Nat.le_of_ble_eq_true rfl) ⟨Nat.le_of_ble_eq_true rfl, Nat.le_of_ble_eq_true rfl⟩ d_Lw_law_236 (fun r1 M1 h1 => ?_)
  have hu := u_action hJ h1
  have hm := sJ_mid hJ hu
  refine z_aload_n X 1 d_Lw_law_239 rfl rfl ?_
  refine law_arg X hs 1 (by omega) d_Lw_law_240 d_Lw_law_241 d_Lw_law_242 (by decide) d_Lw_law_243 d_Lw_law_244 ?_
  refine law_arg X hs 2 (by omega) d_Lw_law_245 d_Lw_law_246 d_Lw_law_247 (by decide) d_Lw_law_248 d_Lw_law_249 ?_
  refine z_Vi X GG_ok cf_Lw_31 51 [zI (xs (5 * k + 1)), zI (xs (5 * k + 2))] [zI r1] (c_B_action l D cA ad M1 _ _) ⟨rfl, rfl⟩ (by decide) e_B rfl rfl rfl rfl (Nat.le_of_ble_eq_true rfl) ⟨Nat.le_of_ble_eq_true rfl, Nat.le_of_ble_eq_true rfl⟩ d_Lw_law_250 (fun r2 M2 h2 => ?_)
  have hq := q_action hJ hm h1 h2
  exact z_icmp_eq X 452 d_Lw_law_253 (by decide) (fun _ => next M2 hq.2) (fun z => absurd hq.1 z)
set_option maxRecDepth 100000 in
set_option maxHeartbeats 4000000 in
theorem lc_on (X : lw_X p s m b meth c D cA) (hs : lw_S s b Ls xs ad) (hk : 5 * k + 5 ≤ Ls) (hJ : sJ n w g t M) (next : ∀ M2 : zM, sK (g + 4860) (t + 60) M2 → lw_W p l e s m b below meth c Q D cA ad M2 452 k []) : lw_W p l e s m b below meth c Q D cA ad M 258 k [] := by
  refine z_aload_n X 2 d_Lw_law_258 rfl rfl ?_
  refine law_arg X hs 1 (by omega) d_Lw_law_259 d_Lw_law_260 d_Lw_law_261 (by decide) d_Lw_law_262 d_Lw_law_263 ?_
  refine z_Vi X GG_ok cf_Lw_32 0 [zI (xs (5 * k + 1))] [] (c_A_on l D cA ad M n w hJ.1.1 _) ⟨rfl, rfl⟩ (by decide) e_A rfl rfl rfl rfl (Nat.le_of_ble_eq_true rfl) ⟨Nat.le_of_ble_eq_true rfl, Nat.le_of_ble_eq_true rfl⟩ d_Lw_law_264 (fun r1 M1 h1 => ?_)
  have hu := u_on hJ h1
  have hm := sJ_mid hJ hu
  refine z_aload_n X 1 d_Lw_law_267 rfl rfl ?_
  refine law_arg X hs 1 (by omega) d_Lw_law_268 d_Lw_law_269 d_Lw_law_270 (by decide) d_Lw_law_271 d_Lw_law_272 ?_
  refine z_Vi X GG_ok cf_Lw_36 51 [zI (xs (5 * k + 1))] [zI r1] (c_B_on l D cA ad M1 n w hm.1.2.1 _) ⟨rfl, rfl⟩ (by decide) e_B rfl rfl rfl rfl (Nat.le_of_ble_eq_true rfl) ⟨Nat.le_of_ble_eq_true rfl, Nat.le_of_ble_eq_true rfl⟩ d_Lw_law_273 (fun r2 M2 h2 => ?_)
  have hq := q_on hJ hm h1 h2
  exact z_icmp_eq X 452 d_Lw_law_276 (by decide) (fun _ => next M2 hq.2) (fun z => absurd hq.1 z)
set_option maxRecDepth 100000 in
set_option maxHeartbeats 4000000 in
theorem lc_start (X : lw_X p s m b meth c D cA) (hs : lw_S s b Ls xs ad) (hk : 5 * k + 5 ≤ Ls) (hJ : sJ n w g t M) (next : ∀ M2 : zM, sK (g + 4860) (t + 60) M2 → lw_W p l e s m b below meth c Q D cA ad M2 452 k []) : lw_W p l e s m b below meth c Q D cA ad M 281 k [] := by
  refine z_aload_n X 2 d_Lw_law_281 rfl rfl ?_
  refine law_arg X hs 1 (by omega) d_Lw_law_282 d_Lw_law_283 d_Lw_law_284 (by decide) d_Lw_law_285 d_Lw_law_286 ?_
  refine z_Vi X GG_ok cf_Lw_37 0 [zI (xs (5 * k + 1))] [] (c_A_start l D cA ad M n w hJ.1.1 _) ⟨rfl, rfl⟩ (by decide) e_A rfl rfl rfl rfl (Nat.le_of_ble_eq_true rfl) ⟨Nat.le_of_ble_eq_true rfl, Nat.le_of_ble_eq_true rfl⟩ d_Lw_law_287 (fun r1 M1 h1 => ?_)
  have hu := u_start hJ h1
  have hm := sJ_mid hJ hu
  refine z_aload_n X 1 d_Lw_law_290 rfl rfl ?_
  refine law_arg X hs 1 (by omega) d_Lw_law_291 d_Lw_law_292 d_Lw_law_293 (by decide) d_Lw_law_294 d_Lw_law_295 ?_
  refine z_Vi X GG_ok cf_Lw_40 51 [zI (xs (5 * k + 1))] [zI r1] (c_B_start l D cA ad M1 n w hm.1.2.1 _) ⟨rfl, rfl⟩ (by decide) e_B rfl rfl rfl rfl (Nat.le_of_ble_eq_true rfl) ⟨Nat.le_of_ble_eq_true rfl, Nat.le_of_ble_eq_true rfl⟩ d_Lw_law_296 (fun r2 M2 h2 => ?_)
  have hq := q_start hJ hm h1 h2
  exact z_icmp_eq X 452 d_Lw_law_299 (by decide) (fun _ => next M2 hq.2) (fun z => absurd hq.1 z)
set_option maxRecDepth 100000 in
set_option maxHeartbeats 4000000 in
theorem lc_run (X : lw_X p s m b meth c D cA) (hs : lw_S s b Ls xs ad) (hk : 5 * k + 5 ≤ Ls) (hJ : sJ n w g t M) (hg : g ≤ 3000000) (ht : t ≤ 40000) (next : ∀ M2 : zM, sK (g + 4860) (t + 60) M2 → lw_W p l e s m b below meth c Q D cA ad M2 452 k []) : lw_W p l e s m b below meth c Q D cA ad M 304 k [] := by
  refine z_aload_n X 2 d_Lw_law_304 rfl rfl ?_
  refine law_arg X hs 1 (by omega) d_Lw_law_305 d_Lw_law_306 d_Lw_law_307 (by decide) d_Lw_law_308 d_Lw_law_309 ?_
  by_cases hx : 1 ≤ xs (5 * k + 1) ∧ xs (5 * k + 1) ≤ 60
  · obtain ⟨d, hd1, hd2, ed⟩ := law_d hx
    refine z_Vi X GG_ok cf_Lw_41 0 [zI (xs (5 * k + 1))] [] (show Ci l D cA ad y_A_run b_A_run 3 (some (.int)) (zr 6 136) [zR 0, zI (xs (5 * k + 1))] M (fun r M' => M' = kTicks n w d M ∧ r = M'.1 0 6) from by rw [ed]; exact c_A_run l D cA ad M n w hJ.1.1 d hd1 hd2) ⟨rfl, rfl⟩ (by decide) e_A rfl rfl rfl rfl (Nat.le_of_ble_eq_true rfl) ⟨Nat.le_of_ble_eq_true rfl, Nat.le_of_ble_eq_true rfl⟩ d_Lw_law_310 (fun r1 M1 h1 => ?_)
    have hu := u_run hJ h1
    have hm := sJ_mid hJ hu
    refine z_aload_n X 1 d_Lw_law_313 rfl rfl ?_
    refine law_arg X hs 1 (by omega) d_Lw_law_314 d_Lw_law_315 d_Lw_law_316 (by decide) d_Lw_law_317 d_Lw_law_318 ?_
    refine z_Vi X GG_ok cf_Lw_44 51 [zI (xs (5 * k + 1))] [zI r1] (show Ci l D cA ad y_B_run b_B_run 6 (some (.int)) (zr 5 110) [zR 51, zI (xs (5 * k + 1))] M1 (fun r M' => M' = mTicks n w d M1 ∧ r = M'.1 51 28) from by rw [ed]; exact c_B_run l D cA ad M1 n w hm.1.2.1 t (by omega) hm.2 d hd1 hd2) ⟨rfl, rfl⟩ (by decide) e_B rfl rfl rfl rfl (Nat.le_of_ble_eq_true rfl) ⟨Nat.le_of_ble_eq_true rfl, Nat.le_of_ble_eq_true rfl⟩ d_Lw_law_319 (fun r2 M2 h2 => ?_)
    have hq := q_run hJ hm hg ht hd2 h1 h2
    exact z_icmp_eq X 452 d_Lw_law_322 (by decide) (fun _ => next M2 hq.2) (fun z => absurd hq.1 z)
  · skip
    refine z_Vi X GG_ok cf_Lw_41 0 [zI (xs (5 * k + 1))] [] (c_A_run_no l D cA ad M _ hx) ⟨rfl, rfl⟩ (by decide) e_A rfl rfl rfl rfl (Nat.le_of_ble_eq_true rfl) ⟨Nat.le_of_ble_eq_true rfl, Nat.le_of_ble_eq_true rfl⟩ d_Lw_law_310 (fun r1 M1 h1 => ?_)
    have hu := u_run_no hJ h1
    have hm := sJ_mid hJ hu
    refine z_aload_n X 1 d_Lw_law_313 rfl rfl ?_
    refine law_arg X hs 1 (by omega) d_Lw_law_314 d_Lw_law_315 d_Lw_law_316 (by decide) d_Lw_law_317 d_Lw_law_318 ?_
    refine z_Vi X GG_ok cf_Lw_44 51 [zI (xs (5 * k + 1))] [zI r1] (c_B_run_no l D cA ad M1 _ hx) ⟨rfl, rfl⟩ (by decide) e_B rfl rfl rfl rfl (Nat.le_of_ble_eq_true rfl) ⟨Nat.le_of_ble_eq_true rfl, Nat.le_of_ble_eq_true rfl⟩ d_Lw_law_319 (fun r2 M2 h2 => ?_)
    have hq := q_run_no hJ hm h1 h2
    exact z_icmp_eq X 452 d_Lw_law_322 (by decide) (fun _ => next M2 hq.2) (fun z => absurd hq.1 z)
set_option maxRecDepth 100000 in
set_option maxHeartbeats 4000000 in
theorem lc_partition (X : lw_X p s m b meth c D cA) (hs : lw_S s b Ls xs ad) (hk : 5 * k + 5 ≤ Ls) (hJ : sJ n w g t M) (next : ∀ M2 : zM, sK (g + 4860) (t + 60) M2 → lw_W p l e s m b below meth c Q D cA ad M2 452 k []) : lw_W p l e s m b below meth c Q D cA ad M 327 k [] := by
  refine z_aload_n X 2 d_Lw_law_327 rfl rfl ?_
  refine law_arg X hs 1 (by omega) d_Lw_law_328 d_Lw_law_329 d_Lw_law_330 (by decide) d_Lw_law_331 d_Lw_law_332 ?_
  refine z_Vi X GG_ok cf_Lw_45 0 [zI (xs (5 * k + 1))] [] (c_A_partition l D cA ad M _) ⟨rfl, rfl⟩ (by decide) e_A rfl rfl rfl rfl (Nat.le_of_ble_eq_true rfl) ⟨Nat.le_of_ble_eq_true rfl, Nat.le_of_ble_eq_true rfl⟩ d_Lw_law_333 (fun r1 M1 h1 => ?_)
  have hu := u_partition hJ h1
  have hm := sJ_mid hJ hu
  refine z_aload_n X 1 d_Lw_law_336 rfl rfl ?_
  refine law_arg X hs 1 (by omega) d_Lw_law_337 d_Lw_law_338 d_Lw_law_339 (by decide) d_Lw_law_340 d_Lw_law_341 ?_
  refine z_Vi X GG_ok cf_Lw_48 51 [zI (xs (5 * k + 1))] [zI r1] (c_B_partition l D cA ad M1 _) ⟨rfl, rfl⟩ (by decide) e_B rfl rfl rfl rfl (Nat.le_of_ble_eq_true rfl) ⟨Nat.le_of_ble_eq_true rfl, Nat.le_of_ble_eq_true rfl⟩ d_Lw_law_342 (fun r2 M2 h2 => ?_)
  have hq := q_partition hJ hm h1 h2
  exact z_icmp_eq X 452 d_Lw_law_345 (by decide) (fun _ => next M2 hq.2) (fun z => absurd hq.1 z)
set_option maxRecDepth 100000 in
set_option maxHeartbeats 4000000 in
theorem lc_state (X : lw_X p s m b meth c D cA) (hs : lw_S s b Ls xs ad) (hk : 5 * k + 5 ≤ Ls) (hJ : sJ n w g t M) (next : ∀ M2 : zM, sK (g + 4860) (t + 60) M2 → lw_W p l e s m b below meth c Q D cA ad M2 452 k []) : lw_W p l e s m b below meth c Q D cA ad M 350 k [] := by
  refine z_aload_n X 2 d_Lw_law_350 rfl rfl ?_
  refine law_arg X hs 1 (by omega) d_Lw_law_351 d_Lw_law_352 d_Lw_law_353 (by decide) d_Lw_law_354 d_Lw_law_355 ?_
  refine law_arg X hs 2 (by omega) d_Lw_law_356 d_Lw_law_357 d_Lw_law_358 (by decide) d_Lw_law_359 d_Lw_law_360 ?_
  refine z_Vi X GG_ok cf_Lw_49 0 [zI (xs (5 * k + 1)), zI (xs (5 * k + 2))] [] (c_A_state l D cA ad M n w hJ.1.1 _ _) ⟨rfl, rfl⟩ (by decide) e_A rfl rfl rfl rfl (Nat.le_of_ble_eq_true rfl) ⟨Nat.le_of_ble_eq_true rfl, Nat.le_of_ble_eq_true rfl⟩ d_Lw_law_361 (fun r1 M1 h1 => ?_)
  have hu := u_state hJ h1
  have hm := sJ_mid hJ hu
  refine z_aload_n X 1 d_Lw_law_364 rfl rfl ?_
  refine law_arg X hs 1 (by omega) d_Lw_law_365 d_Lw_law_366 d_Lw_law_367 (by decide) d_Lw_law_368 d_Lw_law_369 ?_
  refine law_arg X hs 2 (by omega) d_Lw_law_370 d_Lw_law_371 d_Lw_law_372 (by decide) d_Lw_law_373 d_Lw_law_374 ?_
  refine z_Vi X GG_ok cf_Lw_52 51 [zI (xs (5 * k + 1)), zI (xs (5 * k + 2))] [zI r1] (c_B_state l D cA ad M1 n w hm.1.2.1 _ _) ⟨rfl, rfl⟩ (by decide) e_B rfl rfl rfl rfl (Nat.le_of_ble_eq_true rfl) ⟨Nat.le_of_ble_eq_true rfl, Nat.le_of_ble_eq_true rfl⟩ d_Lw_law_375 (fun r2 M2 h2 => ?_)
  have hq := q_state hJ hm h1 h2
  exact z_icmp_eq X 452 d_Lw_law_378 (by decide) (fun _ => next M2 hq.2) (fun z => absurd hq.1 z)
set_option maxRecDepth 100000 in
set_option maxHeartbeats 4000000 in
theorem lc_port (X : lw_X p s m b meth c D cA) (hs : lw_S s b Ls xs ad) (hk : 5 * k + 5 ≤ Ls) (hJ : sJ n w g t M) (next : ∀ M2 : zM, sK (g + 4860) (t + 60) M2 → lw_W p l e s m b below meth c Q D cA ad M2 452 k []) : lw_W p l e s m b below meth c Q D cA ad M 383 k [] := by
  refine z_aload_n X 2 d_Lw_law_383 rfl rfl ?_
  refine law_arg X hs 1 (by omega) d_Lw_law_384 d_Lw_law_385 d_Lw_law_386 (by decide) d_Lw_law_387 d_Lw_law_388 ?_
  refine z_Vi X GG_ok cf_Lw_53 0 [zI (xs (5 * k + 1))] [] (c_A_port l D cA ad M _) ⟨rfl, rfl⟩ (by decide) e_A rfl rfl rfl rfl (Nat.le_of_ble_eq_true rfl) ⟨Nat.le_of_ble_eq_true rfl, Nat.le_of_ble_eq_true rfl⟩ d_Lw_law_389 (fun r1 M1 h1 => ?_)
  have hu := u_port hJ h1
  have hm := sJ_mid hJ hu
  refine z_aload_n X 1 d_Lw_law_392 rfl rfl ?_
  refine law_arg X hs 1 (by omega) d_Lw_law_393 d_Lw_law_394 d_Lw_law_395 (by decide) d_Lw_law_396 d_Lw_law_397 ?_
  refine z_Vi X GG_ok cf_Lw_56 51 [zI (xs (5 * k + 1))] [zI r1] (c_B_port l D cA ad M1 _) ⟨rfl, rfl⟩ (by decide) e_B rfl rfl rfl rfl (Nat.le_of_ble_eq_true rfl) ⟨Nat.le_of_ble_eq_true rfl, Nat.le_of_ble_eq_true rfl⟩ d_Lw_law_398 (fun r2 M2 h2 => ?_)
  have hq := q_port hJ hm h1 h2
  exact z_icmp_eq X 452 d_Lw_law_401 (by decide) (fun _ => next M2 hq.2) (fun z => absurd hq.1 z)
set_option maxRecDepth 100000 in
set_option maxHeartbeats 4000000 in
theorem lc_semaphore (X : lw_X p s m b meth c D cA) (hs : lw_S s b Ls xs ad) (hk : 5 * k + 5 ≤ Ls) (hJ : sJ n w g t M) (next : ∀ M2 : zM, sK (g + 4860) (t + 60) M2 → lw_W p l e s m b below meth c Q D cA ad M2 452 k []) : lw_W p l e s m b below meth c Q D cA ad M 406 k [] := by
  refine z_aload_n X 2 d_Lw_law_406 rfl rfl ?_
  refine law_arg X hs 1 (by omega) d_Lw_law_407 d_Lw_law_408 d_Lw_law_409 (by decide) d_Lw_law_410 d_Lw_law_411 ?_
  refine z_Vi X GG_ok cf_Lw_57 0 [zI (xs (5 * k + 1))] [] (c_A_semaphore l D cA ad M _) ⟨rfl, rfl⟩ (by decide) e_A rfl rfl rfl rfl (Nat.le_of_ble_eq_true rfl) ⟨Nat.le_of_ble_eq_true rfl, Nat.le_of_ble_eq_true rfl⟩ d_Lw_law_412 (fun r1 M1 h1 => ?_)
  have hu := u_semaphore hJ h1
  have hm := sJ_mid hJ hu
  refine z_aload_n X 1 d_Lw_law_415 rfl rfl ?_
  refine law_arg X hs 1 (by omega) d_Lw_law_416 d_Lw_law_417 d_Lw_law_418 (by decide) d_Lw_law_419 d_Lw_law_420 ?_
  refine z_Vi X GG_ok cf_Lw_60 51 [zI (xs (5 * k + 1))] [zI r1] (c_B_semaphore l D cA ad M1 _) ⟨rfl, rfl⟩ (by decide) e_B rfl rfl rfl rfl (Nat.le_of_ble_eq_true rfl) ⟨Nat.le_of_ble_eq_true rfl, Nat.le_of_ble_eq_true rfl⟩ d_Lw_law_421 (fun r2 M2 h2 => ?_)
  have hq := q_semaphore hJ hm h1 h2
  exact z_icmp_eq X 452 d_Lw_law_424 (by decide) (fun _ => next M2 hq.2) (fun z => absurd hq.1 z)
set_option maxRecDepth 100000 in
set_option maxHeartbeats 4000000 in
theorem lc_count (X : lw_X p s m b meth c D cA) (hs : lw_S s b Ls xs ad) (hk : 5 * k + 5 ≤ Ls) (hJ : sJ n w g t M) (hg : g ≤ 3000000) (ht : t ≤ 40000) (next : ∀ M2 : zM, sK (g + 4860) (t + 60) M2 → lw_W p l e s m b below meth c Q D cA ad M2 452 k []) : lw_W p l e s m b below meth c Q D cA ad M 429 k [] := by
  refine z_aload_n X 2 d_Lw_law_429 rfl rfl ?_
  refine law_arg X hs 1 (by omega) d_Lw_law_430 d_Lw_law_431 d_Lw_law_432 (by decide) d_Lw_law_433 d_Lw_law_434 ?_
  refine z_Vi X GG_ok cf_Lw_61 0 [zI (xs (5 * k + 1))] [] (c_A_count l D cA ad M n w hJ.1.1 _) ⟨rfl, rfl⟩ (by decide) e_A rfl rfl rfl rfl (Nat.le_of_ble_eq_true rfl) ⟨Nat.le_of_ble_eq_true rfl, Nat.le_of_ble_eq_true rfl⟩ d_Lw_law_435 (fun r1 M1 h1 => ?_)
  have hu := u_count hJ h1
  have hm := sJ_mid hJ hu
  refine z_aload_n X 1 d_Lw_law_438 rfl rfl ?_
  refine law_arg X hs 1 (by omega) d_Lw_law_439 d_Lw_law_440 d_Lw_law_441 (by decide) d_Lw_law_442 d_Lw_law_443 ?_
  refine z_Vi X GG_ok cf_Lw_64 51 [zI (xs (5 * k + 1))] [zI r1] (c_B_count l D cA ad M1 n w hm.1.2.1 t (by omega) hm.2 _) ⟨rfl, rfl⟩ (by decide) e_B rfl rfl rfl rfl (Nat.le_of_ble_eq_true rfl) ⟨Nat.le_of_ble_eq_true rfl, Nat.le_of_ble_eq_true rfl⟩ d_Lw_law_444 (fun r2 M2 h2 => ?_)
  have hq := q_count hJ hm ht h1 h2
  exact z_icmp_eq X 452 d_Lw_law_447 (by decide) (fun _ => next M2 hq.2) (fun z => absurd hq.1 z)
end Law
