/-! ===== the law's cases and loop, over any invariant between the two states ===== -/
def lLv (Y : gY) (i : Nat) : List (Nat × Value) := [(0, .ref Y.2.2.2.2.2.2.2.2.1), (1, .ref (Y.2.2.2.2.2.2.2.2.2.2.2.2.1.1 0)), (2, .ref (Y.2.2.2.2.2.2.2.2.2.2.2.2.2.1 0)), (3, .int (nI i))]
theorem scIn {i k N : Nat} {v : Int32} (hv : v = nI k) (h : i + k < N) (hN : N ≤ 3072) : vp_in (nI i + v) N := by
  subst hv
  rw [nI_add]
  exact vp_in_nI h (by omega)
def Op_judge (Inv : St → St → Prop) : Prop := ∀ σ μ : St, Inv σ μ → ∀ (a1 : Int32) (a2 : Int32), ∃ (r : Int32) (σ' μ' : St), fX8_judge σ a1 a2 = some (r, σ') ∧ fX9_judge μ a1 a2 = some (r, μ') ∧ Inv σ' μ'
set_option maxHeartbeats 4000000 in
set_option maxRecDepth 100000 in
theorem lcase_judge {Y : gY} (E : lE Y) {Inv : St → St → Prop} (h : Op_judge Inv) {σ μ : St} (hI : Inv σ μ) {i : Nat} (hi : i + 6 ≤ Y.2.2.2.2.2.2.2.2.2.1) (hL : Y.2.2.2.2.2.2.2.2.2.1 ≤ 3072) (nx : ∀ σ' μ', Inv σ' μ' → GL Y σ' μ' (lLv Y i) [] 1017) : GL Y σ μ (lLv Y i) [] 152 := by
  obtain ⟨r, σ', μ', h1, h2, h3⟩ := h σ μ hI (Y.2.2.2.2.2.2.2.2.2.2.1 (nI i + (1 : Int32)).toNatClampNeg) (Y.2.2.2.2.2.2.2.2.2.2.1 (nI i + (2 : Int32)).toNatClampNeg)
  refine y_aload_n E 1 dL_law_152 rfl rfl ?_
  refine y_aload_n E 0 dL_law_153 rfl rfl ?_
  refine y_iload_n E 3 dL_law_154 rfl rfl ?_
  refine y_iconst (v := 1) E dL_law_155 (by decide) ?_
  refine y_iadd E dL_law_156 ?_
  refine y_sld E (scIn (k := 1) rfl (by omega) hL) dL_law_157 ?_
  refine y_aload_n E 0 dL_law_158 rfl rfl ?_
  refine y_iload_n E 3 dL_law_159 rfl rfl ?_
  refine y_iconst (v := 2) E dL_law_160 (by decide) ?_
  refine y_iadd E dL_law_161 ?_
  refine y_sld E (scIn (k := 2) rfl (by omega) hL) dL_law_162 ?_
  refine y_callC (v := .int r) (As := [.int (Y.2.2.2.2.2.2.2.2.2.2.1 (nI i + (1 : Int32)).toNatClampNeg), .int (Y.2.2.2.2.2.2.2.2.2.2.1 (nI i + (2 : Int32)).toNatClampNeg)]) (rest := []) (n := 2) E (fX8_judge_c (Y.1, Y.2.2.2.2.2.2.2.2.2.2.2.1, Ac Y.2.2.2.2.2.2.2.2.2.2.2.2.1, Y.2.2.2.2.2.2.2.2.2.2.2.2.1) σ (Y.2.2.2.2.2.2.2.2.2.2.1 (nI i + (1 : Int32)).toNatClampNeg) (Y.2.2.2.2.2.2.2.2.2.2.1 (nI i + (2 : Int32)).toNatClampNeg) (r, σ') h1) gL_law_X8_judge rfl rfl rfl (by decide +kernel) ⟨Nat.le_of_ble_eq_true rfl, Nat.le_of_ble_eq_true rfl⟩ rfl rfl (Nat.le_of_ble_eq_true rfl) dL_law_163 ?_
  refine y_aload_n E 2 dL_law_166 rfl rfl ?_
  refine y_aload_n E 0 dL_law_167 rfl rfl ?_
  refine y_iload_n E 3 dL_law_168 rfl rfl ?_
  refine y_iconst (v := 1) E dL_law_169 (by decide) ?_
  refine y_iadd E dL_law_170 ?_
  refine y_sld E (scIn (k := 1) rfl (by omega) hL) dL_law_171 ?_
  refine y_aload_n E 0 dL_law_172 rfl rfl ?_
  refine y_iload_n E 3 dL_law_173 rfl rfl ?_
  refine y_iconst (v := 2) E dL_law_174 (by decide) ?_
  refine y_iadd E dL_law_175 ?_
  refine y_sld E (scIn (k := 2) rfl (by omega) hL) dL_law_176 ?_
  refine y_callM (v := .int r) (As := [.int (Y.2.2.2.2.2.2.2.2.2.2.1 (nI i + (1 : Int32)).toNatClampNeg), .int (Y.2.2.2.2.2.2.2.2.2.2.1 (nI i + (2 : Int32)).toNatClampNeg)]) (rest := [.int r]) (n := 2) E (fX9_judge_c (Y.1, Y.2.2.2.2.2.2.2.2.2.2.2.1, Am Y.2.2.2.2.2.2.2.2.2.2.2.2.2, Y.2.2.2.2.2.2.2.2.2.2.2.2.2) μ (Y.2.2.2.2.2.2.2.2.2.2.1 (nI i + (1 : Int32)).toNatClampNeg) (Y.2.2.2.2.2.2.2.2.2.2.1 (nI i + (2 : Int32)).toNatClampNeg) (r, μ') h2) gL_law_X9_judge rfl rfl rfl (by decide +kernel) ⟨Nat.le_of_ble_eq_true rfl, Nat.le_of_ble_eq_true rfl⟩ rfl rfl (Nat.le_of_ble_eq_true rfl) dL_law_177 ?_
  refine y_icmp_eqT (tgt := 1017) E rfl dL_law_180 (by decide) ?_
  exact nx σ' μ' h3
def Op_paper (Inv : St → St → Prop) : Prop := ∀ σ μ : St, Inv σ μ → ∀ (a1 : Int32) (a2 : Int32), ∃ (r : Int32) (σ' μ' : St), fX8_paper σ a1 a2 = some (r, σ') ∧ fX9_paper μ a1 a2 = some (r, μ') ∧ Inv σ' μ'
set_option maxHeartbeats 4000000 in
set_option maxRecDepth 100000 in
theorem lcase_paper {Y : gY} (E : lE Y) {Inv : St → St → Prop} (h : Op_paper Inv) {σ μ : St} (hI : Inv σ μ) {i : Nat} (hi : i + 6 ≤ Y.2.2.2.2.2.2.2.2.2.1) (hL : Y.2.2.2.2.2.2.2.2.2.1 ≤ 3072) (nx : ∀ σ' μ', Inv σ' μ' → GL Y σ' μ' (lLv Y i) [] 1017) : GL Y σ μ (lLv Y i) [] 185 := by
  obtain ⟨r, σ', μ', h1, h2, h3⟩ := h σ μ hI (Y.2.2.2.2.2.2.2.2.2.2.1 (nI i + (1 : Int32)).toNatClampNeg) (Y.2.2.2.2.2.2.2.2.2.2.1 (nI i + (2 : Int32)).toNatClampNeg)
  refine y_aload_n E 1 dL_law_185 rfl rfl ?_
  refine y_aload_n E 0 dL_law_186 rfl rfl ?_
  refine y_iload_n E 3 dL_law_187 rfl rfl ?_
  refine y_iconst (v := 1) E dL_law_188 (by decide) ?_
  refine y_iadd E dL_law_189 ?_
  refine y_sld E (scIn (k := 1) rfl (by omega) hL) dL_law_190 ?_
  refine y_aload_n E 0 dL_law_191 rfl rfl ?_
  refine y_iload_n E 3 dL_law_192 rfl rfl ?_
  refine y_iconst (v := 2) E dL_law_193 (by decide) ?_
  refine y_iadd E dL_law_194 ?_
  refine y_sld E (scIn (k := 2) rfl (by omega) hL) dL_law_195 ?_
  refine y_callC (v := .int r) (As := [.int (Y.2.2.2.2.2.2.2.2.2.2.1 (nI i + (1 : Int32)).toNatClampNeg), .int (Y.2.2.2.2.2.2.2.2.2.2.1 (nI i + (2 : Int32)).toNatClampNeg)]) (rest := []) (n := 2) E (fX8_paper_c (Y.1, Y.2.2.2.2.2.2.2.2.2.2.2.1, Ac Y.2.2.2.2.2.2.2.2.2.2.2.2.1, Y.2.2.2.2.2.2.2.2.2.2.2.2.1) σ (Y.2.2.2.2.2.2.2.2.2.2.1 (nI i + (1 : Int32)).toNatClampNeg) (Y.2.2.2.2.2.2.2.2.2.2.1 (nI i + (2 : Int32)).toNatClampNeg) (r, σ') h1) gL_law_X8_paper rfl rfl rfl (by decide +kernel) ⟨Nat.le_of_ble_eq_true rfl, Nat.le_of_ble_eq_true rfl⟩ rfl rfl (Nat.le_of_ble_eq_true rfl) dL_law_196 ?_
  refine y_aload_n E 2 dL_law_199 rfl rfl ?_
  refine y_aload_n E 0 dL_law_200 rfl rfl ?_
  refine y_iload_n E 3 dL_law_201 rfl rfl ?_
  refine y_iconst (v := 1) E dL_law_202 (by decide) ?_
  refine y_iadd E dL_law_203 ?_
  refine y_sld E (scIn (k := 1) rfl (by omega) hL) dL_law_204 ?_
  refine y_aload_n E 0 dL_law_205 rfl rfl ?_
  refine y_iload_n E 3 dL_law_206 rfl rfl ?_
  refine y_iconst (v := 2) E dL_law_207 (by decide) ?_
  refine y_iadd E dL_law_208 ?_
  refine y_sld E (scIn (k := 2) rfl (by omega) hL) dL_law_209 ?_
  refine y_callM (v := .int r) (As := [.int (Y.2.2.2.2.2.2.2.2.2.2.1 (nI i + (1 : Int32)).toNatClampNeg), .int (Y.2.2.2.2.2.2.2.2.2.2.1 (nI i + (2 : Int32)).toNatClampNeg)]) (rest := [.int r]) (n := 2) E (fX9_paper_c (Y.1, Y.2.2.2.2.2.2.2.2.2.2.2.1, Am Y.2.2.2.2.2.2.2.2.2.2.2.2.2, Y.2.2.2.2.2.2.2.2.2.2.2.2.2) μ (Y.2.2.2.2.2.2.2.2.2.2.1 (nI i + (1 : Int32)).toNatClampNeg) (Y.2.2.2.2.2.2.2.2.2.2.1 (nI i + (2 : Int32)).toNatClampNeg) (r, μ') h2) gL_law_X9_paper rfl rfl rfl (by decide +kernel) ⟨Nat.le_of_ble_eq_true rfl, Nat.le_of_ble_eq_true rfl⟩ rfl rfl (Nat.le_of_ble_eq_true rfl) dL_law_210 ?_
  refine y_icmp_eqT (tgt := 1017) E rfl dL_law_213 (by decide) ?_
  exact nx σ' μ' h3
def Op_tie (Inv : St → St → Prop) : Prop := ∀ σ μ : St, Inv σ μ → ∀ (a1 : Int32) (a2 : Int32) (a3 : Int32), ∃ (r : Int32) (σ' μ' : St), fX8_tie σ a1 a2 a3 = some (r, σ') ∧ fX9_tie μ a1 a2 a3 = some (r, μ') ∧ Inv σ' μ'
set_option maxHeartbeats 4000000 in
set_option maxRecDepth 100000 in
theorem lcase_tie {Y : gY} (E : lE Y) {Inv : St → St → Prop} (h : Op_tie Inv) {σ μ : St} (hI : Inv σ μ) {i : Nat} (hi : i + 6 ≤ Y.2.2.2.2.2.2.2.2.2.1) (hL : Y.2.2.2.2.2.2.2.2.2.1 ≤ 3072) (nx : ∀ σ' μ', Inv σ' μ' → GL Y σ' μ' (lLv Y i) [] 1017) : GL Y σ μ (lLv Y i) [] 218 := by
  obtain ⟨r, σ', μ', h1, h2, h3⟩ := h σ μ hI (Y.2.2.2.2.2.2.2.2.2.2.1 (nI i + (1 : Int32)).toNatClampNeg) (Y.2.2.2.2.2.2.2.2.2.2.1 (nI i + (2 : Int32)).toNatClampNeg) (Y.2.2.2.2.2.2.2.2.2.2.1 (nI i + (3 : Int32)).toNatClampNeg)
  refine y_aload_n E 1 dL_law_218 rfl rfl ?_
  refine y_aload_n E 0 dL_law_219 rfl rfl ?_
  refine y_iload_n E 3 dL_law_220 rfl rfl ?_
  refine y_iconst (v := 1) E dL_law_221 (by decide) ?_
  refine y_iadd E dL_law_222 ?_
  refine y_sld E (scIn (k := 1) rfl (by omega) hL) dL_law_223 ?_
  refine y_aload_n E 0 dL_law_224 rfl rfl ?_
  refine y_iload_n E 3 dL_law_225 rfl rfl ?_
  refine y_iconst (v := 2) E dL_law_226 (by decide) ?_
  refine y_iadd E dL_law_227 ?_
  refine y_sld E (scIn (k := 2) rfl (by omega) hL) dL_law_228 ?_
  refine y_aload_n E 0 dL_law_229 rfl rfl ?_
  refine y_iload_n E 3 dL_law_230 rfl rfl ?_
  refine y_iconst (v := 3) E dL_law_231 (by decide) ?_
  refine y_iadd E dL_law_232 ?_
  refine y_sld E (scIn (k := 3) rfl (by omega) hL) dL_law_233 ?_
  refine y_callC (v := .int r) (As := [.int (Y.2.2.2.2.2.2.2.2.2.2.1 (nI i + (1 : Int32)).toNatClampNeg), .int (Y.2.2.2.2.2.2.2.2.2.2.1 (nI i + (2 : Int32)).toNatClampNeg), .int (Y.2.2.2.2.2.2.2.2.2.2.1 (nI i + (3 : Int32)).toNatClampNeg)]) (rest := []) (n := 3) E (fX8_tie_c (Y.1, Y.2.2.2.2.2.2.2.2.2.2.2.1, Ac Y.2.2.2.2.2.2.2.2.2.2.2.2.1, Y.2.2.2.2.2.2.2.2.2.2.2.2.1) σ (Y.2.2.2.2.2.2.2.2.2.2.1 (nI i + (1 : Int32)).toNatClampNeg) (Y.2.2.2.2.2.2.2.2.2.2.1 (nI i + (2 : Int32)).toNatClampNeg) (Y.2.2.2.2.2.2.2.2.2.2.1 (nI i + (3 : Int32)).toNatClampNeg) (r, σ') h1) gL_law_X8_tie rfl rfl rfl (by decide +kernel) ⟨Nat.le_of_ble_eq_true rfl, Nat.le_of_ble_eq_true rfl⟩ rfl rfl (Nat.le_of_ble_eq_true rfl) dL_law_234 ?_
  refine y_aload_n E 2 dL_law_237 rfl rfl ?_
  refine y_aload_n E 0 dL_law_238 rfl rfl ?_
  refine y_iload_n E 3 dL_law_239 rfl rfl ?_
  refine y_iconst (v := 1) E dL_law_240 (by decide) ?_
  refine y_iadd E dL_law_241 ?_
  refine y_sld E (scIn (k := 1) rfl (by omega) hL) dL_law_242 ?_
  refine y_aload_n E 0 dL_law_243 rfl rfl ?_
  refine y_iload_n E 3 dL_law_244 rfl rfl ?_
  refine y_iconst (v := 2) E dL_law_245 (by decide) ?_
  refine y_iadd E dL_law_246 ?_
  refine y_sld E (scIn (k := 2) rfl (by omega) hL) dL_law_247 ?_
  refine y_aload_n E 0 dL_law_248 rfl rfl ?_
  refine y_iload_n E 3 dL_law_249 rfl rfl ?_
  refine y_iconst (v := 3) E dL_law_250 (by decide) ?_
  refine y_iadd E dL_law_251 ?_
  refine y_sld E (scIn (k := 3) rfl (by omega) hL) dL_law_252 ?_
  refine y_callM (v := .int r) (As := [.int (Y.2.2.2.2.2.2.2.2.2.2.1 (nI i + (1 : Int32)).toNatClampNeg), .int (Y.2.2.2.2.2.2.2.2.2.2.1 (nI i + (2 : Int32)).toNatClampNeg), .int (Y.2.2.2.2.2.2.2.2.2.2.1 (nI i + (3 : Int32)).toNatClampNeg)]) (rest := [.int r]) (n := 3) E (fX9_tie_c (Y.1, Y.2.2.2.2.2.2.2.2.2.2.2.1, Am Y.2.2.2.2.2.2.2.2.2.2.2.2.2, Y.2.2.2.2.2.2.2.2.2.2.2.2.2) μ (Y.2.2.2.2.2.2.2.2.2.2.1 (nI i + (1 : Int32)).toNatClampNeg) (Y.2.2.2.2.2.2.2.2.2.2.1 (nI i + (2 : Int32)).toNatClampNeg) (Y.2.2.2.2.2.2.2.2.2.2.1 (nI i + (3 : Int32)).toNatClampNeg) (r, μ') h2) gL_law_X9_tie rfl rfl rfl (by decide +kernel) ⟨Nat.le_of_ble_eq_true rfl, Nat.le_of_ble_eq_true rfl⟩ rfl rfl (Nat.le_of_ble_eq_true rfl) dL_law_253 ?_
  refine y_icmp_eqT (tgt := 1017) E rfl dL_law_256 (by decide) ?_
  exact nx σ' μ' h3
def Op_mark (Inv : St → St → Prop) : Prop := ∀ σ μ : St, Inv σ μ → ∀ (a1 : Int32) (a2 : Int32) (a3 : Int32), ∃ (r : Int32) (σ' μ' : St), fX8_mark σ a1 a2 a3 = some (r, σ') ∧ fX9_mark μ a1 a2 a3 = some (r, μ') ∧ Inv σ' μ'
set_option maxHeartbeats 4000000 in
set_option maxRecDepth 100000 in
theorem lcase_mark {Y : gY} (E : lE Y) {Inv : St → St → Prop} (h : Op_mark Inv) {σ μ : St} (hI : Inv σ μ) {i : Nat} (hi : i + 6 ≤ Y.2.2.2.2.2.2.2.2.2.1) (hL : Y.2.2.2.2.2.2.2.2.2.1 ≤ 3072) (nx : ∀ σ' μ', Inv σ' μ' → GL Y σ' μ' (lLv Y i) [] 1017) : GL Y σ μ (lLv Y i) [] 261 := by
  obtain ⟨r, σ', μ', h1, h2, h3⟩ := h σ μ hI (Y.2.2.2.2.2.2.2.2.2.2.1 (nI i + (1 : Int32)).toNatClampNeg) (Y.2.2.2.2.2.2.2.2.2.2.1 (nI i + (2 : Int32)).toNatClampNeg) (Y.2.2.2.2.2.2.2.2.2.2.1 (nI i + (3 : Int32)).toNatClampNeg)
  refine y_aload_n E 1 dL_law_261 rfl rfl ?_
  refine y_aload_n E 0 dL_law_262 rfl rfl ?_
  refine y_iload_n E 3 dL_law_263 rfl rfl ?_
  refine y_iconst (v := 1) E dL_law_264 (by decide) ?_
  refine y_iadd E dL_law_265 ?_
  refine y_sld E (scIn (k := 1) rfl (by omega) hL) dL_law_266 ?_
  refine y_aload_n E 0 dL_law_267 rfl rfl ?_
  refine y_iload_n E 3 dL_law_268 rfl rfl ?_
  refine y_iconst (v := 2) E dL_law_269 (by decide) ?_
  refine y_iadd E dL_law_270 ?_
  refine y_sld E (scIn (k := 2) rfl (by omega) hL) dL_law_271 ?_
  refine y_aload_n E 0 dL_law_272 rfl rfl ?_
  refine y_iload_n E 3 dL_law_273 rfl rfl ?_
  refine y_iconst (v := 3) E dL_law_274 (by decide) ?_
  refine y_iadd E dL_law_275 ?_
  refine y_sld E (scIn (k := 3) rfl (by omega) hL) dL_law_276 ?_
  refine y_callC (v := .int r) (As := [.int (Y.2.2.2.2.2.2.2.2.2.2.1 (nI i + (1 : Int32)).toNatClampNeg), .int (Y.2.2.2.2.2.2.2.2.2.2.1 (nI i + (2 : Int32)).toNatClampNeg), .int (Y.2.2.2.2.2.2.2.2.2.2.1 (nI i + (3 : Int32)).toNatClampNeg)]) (rest := []) (n := 3) E (fX8_mark_c (Y.1, Y.2.2.2.2.2.2.2.2.2.2.2.1, Ac Y.2.2.2.2.2.2.2.2.2.2.2.2.1, Y.2.2.2.2.2.2.2.2.2.2.2.2.1) σ (Y.2.2.2.2.2.2.2.2.2.2.1 (nI i + (1 : Int32)).toNatClampNeg) (Y.2.2.2.2.2.2.2.2.2.2.1 (nI i + (2 : Int32)).toNatClampNeg) (Y.2.2.2.2.2.2.2.2.2.2.1 (nI i + (3 : Int32)).toNatClampNeg) (r, σ') h1) gL_law_X8_mark rfl rfl rfl (by decide +kernel) ⟨Nat.le_of_ble_eq_true rfl, Nat.le_of_ble_eq_true rfl⟩ rfl rfl (Nat.le_of_ble_eq_true rfl) dL_law_277 ?_
  refine y_aload_n E 2 dL_law_280 rfl rfl ?_
  refine y_aload_n E 0 dL_law_281 rfl rfl ?_
  refine y_iload_n E 3 dL_law_282 rfl rfl ?_
  refine y_iconst (v := 1) E dL_law_283 (by decide) ?_
  refine y_iadd E dL_law_284 ?_
  refine y_sld E (scIn (k := 1) rfl (by omega) hL) dL_law_285 ?_
  refine y_aload_n E 0 dL_law_286 rfl rfl ?_
  refine y_iload_n E 3 dL_law_287 rfl rfl ?_
  refine y_iconst (v := 2) E dL_law_288 (by decide) ?_
  refine y_iadd E dL_law_289 ?_
  refine y_sld E (scIn (k := 2) rfl (by omega) hL) dL_law_290 ?_
  refine y_aload_n E 0 dL_law_291 rfl rfl ?_
  refine y_iload_n E 3 dL_law_292 rfl rfl ?_
  refine y_iconst (v := 3) E dL_law_293 (by decide) ?_
  refine y_iadd E dL_law_294 ?_
  refine y_sld E (scIn (k := 3) rfl (by omega) hL) dL_law_295 ?_
  refine y_callM (v := .int r) (As := [.int (Y.2.2.2.2.2.2.2.2.2.2.1 (nI i + (1 : Int32)).toNatClampNeg), .int (Y.2.2.2.2.2.2.2.2.2.2.1 (nI i + (2 : Int32)).toNatClampNeg), .int (Y.2.2.2.2.2.2.2.2.2.2.1 (nI i + (3 : Int32)).toNatClampNeg)]) (rest := [.int r]) (n := 3) E (fX9_mark_c (Y.1, Y.2.2.2.2.2.2.2.2.2.2.2.1, Am Y.2.2.2.2.2.2.2.2.2.2.2.2.2, Y.2.2.2.2.2.2.2.2.2.2.2.2.2) μ (Y.2.2.2.2.2.2.2.2.2.2.1 (nI i + (1 : Int32)).toNatClampNeg) (Y.2.2.2.2.2.2.2.2.2.2.1 (nI i + (2 : Int32)).toNatClampNeg) (Y.2.2.2.2.2.2.2.2.2.2.1 (nI i + (3 : Int32)).toNatClampNeg) (r, μ') h2) gL_law_X9_mark rfl rfl rfl (by decide +kernel) ⟨Nat.le_of_ble_eq_true rfl, Nat.le_of_ble_eq_true rfl⟩ rfl rfl (Nat.le_of_ble_eq_true rfl) dL_law_296 ?_
  refine y_icmp_eqT (tgt := 1017) E rfl dL_law_299 (by decide) ?_
  exact nx σ' μ' h3
def Op_set (Inv : St → St → Prop) : Prop := ∀ σ μ : St, Inv σ μ → ∀ (a1 : Int32) (a2 : Int32) (a3 : Int32), ∃ (r : Int32) (σ' μ' : St), fX8_set σ a1 a2 a3 = some (r, σ') ∧ fX9_set μ a1 a2 a3 = some (r, μ') ∧ Inv σ' μ'
set_option maxHeartbeats 4000000 in
set_option maxRecDepth 100000 in
theorem lcase_set {Y : gY} (E : lE Y) {Inv : St → St → Prop} (h : Op_set Inv) {σ μ : St} (hI : Inv σ μ) {i : Nat} (hi : i + 6 ≤ Y.2.2.2.2.2.2.2.2.2.1) (hL : Y.2.2.2.2.2.2.2.2.2.1 ≤ 3072) (nx : ∀ σ' μ', Inv σ' μ' → GL Y σ' μ' (lLv Y i) [] 1017) : GL Y σ μ (lLv Y i) [] 304 := by
  obtain ⟨r, σ', μ', h1, h2, h3⟩ := h σ μ hI (Y.2.2.2.2.2.2.2.2.2.2.1 (nI i + (1 : Int32)).toNatClampNeg) (Y.2.2.2.2.2.2.2.2.2.2.1 (nI i + (2 : Int32)).toNatClampNeg) (Y.2.2.2.2.2.2.2.2.2.2.1 (nI i + (3 : Int32)).toNatClampNeg)
  refine y_aload_n E 1 dL_law_304 rfl rfl ?_
  refine y_aload_n E 0 dL_law_305 rfl rfl ?_
  refine y_iload_n E 3 dL_law_306 rfl rfl ?_
  refine y_iconst (v := 1) E dL_law_307 (by decide) ?_
  refine y_iadd E dL_law_308 ?_
  refine y_sld E (scIn (k := 1) rfl (by omega) hL) dL_law_309 ?_
  refine y_aload_n E 0 dL_law_310 rfl rfl ?_
  refine y_iload_n E 3 dL_law_311 rfl rfl ?_
  refine y_iconst (v := 2) E dL_law_312 (by decide) ?_
  refine y_iadd E dL_law_313 ?_
  refine y_sld E (scIn (k := 2) rfl (by omega) hL) dL_law_314 ?_
  refine y_aload_n E 0 dL_law_315 rfl rfl ?_
  refine y_iload_n E 3 dL_law_316 rfl rfl ?_
  refine y_iconst (v := 3) E dL_law_317 (by decide) ?_
  refine y_iadd E dL_law_318 ?_
  refine y_sld E (scIn (k := 3) rfl (by omega) hL) dL_law_319 ?_
  refine y_callC (v := .int r) (As := [.int (Y.2.2.2.2.2.2.2.2.2.2.1 (nI i + (1 : Int32)).toNatClampNeg), .int (Y.2.2.2.2.2.2.2.2.2.2.1 (nI i + (2 : Int32)).toNatClampNeg), .int (Y.2.2.2.2.2.2.2.2.2.2.1 (nI i + (3 : Int32)).toNatClampNeg)]) (rest := []) (n := 3) E (fX8_set_c (Y.1, Y.2.2.2.2.2.2.2.2.2.2.2.1, Ac Y.2.2.2.2.2.2.2.2.2.2.2.2.1, Y.2.2.2.2.2.2.2.2.2.2.2.2.1) σ (Y.2.2.2.2.2.2.2.2.2.2.1 (nI i + (1 : Int32)).toNatClampNeg) (Y.2.2.2.2.2.2.2.2.2.2.1 (nI i + (2 : Int32)).toNatClampNeg) (Y.2.2.2.2.2.2.2.2.2.2.1 (nI i + (3 : Int32)).toNatClampNeg) (r, σ') h1) gL_law_X8_set rfl rfl rfl (by decide +kernel) ⟨Nat.le_of_ble_eq_true rfl, Nat.le_of_ble_eq_true rfl⟩ rfl rfl (Nat.le_of_ble_eq_true rfl) dL_law_320 ?_
  refine y_aload_n E 2 dL_law_323 rfl rfl ?_
  refine y_aload_n E 0 dL_law_324 rfl rfl ?_
  refine y_iload_n E 3 dL_law_325 rfl rfl ?_
  refine y_iconst (v := 1) E dL_law_326 (by decide) ?_
  refine y_iadd E dL_law_327 ?_
  refine y_sld E (scIn (k := 1) rfl (by omega) hL) dL_law_328 ?_
  refine y_aload_n E 0 dL_law_329 rfl rfl ?_
  refine y_iload_n E 3 dL_law_330 rfl rfl ?_
  refine y_iconst (v := 2) E dL_law_331 (by decide) ?_
  refine y_iadd E dL_law_332 ?_
  refine y_sld E (scIn (k := 2) rfl (by omega) hL) dL_law_333 ?_
  refine y_aload_n E 0 dL_law_334 rfl rfl ?_
  refine y_iload_n E 3 dL_law_335 rfl rfl ?_
  refine y_iconst (v := 3) E dL_law_336 (by decide) ?_
  refine y_iadd E dL_law_337 ?_
  refine y_sld E (scIn (k := 3) rfl (by omega) hL) dL_law_338 ?_
  refine y_callM (v := .int r) (As := [.int (Y.2.2.2.2.2.2.2.2.2.2.1 (nI i + (1 : Int32)).toNatClampNeg), .int (Y.2.2.2.2.2.2.2.2.2.2.1 (nI i + (2 : Int32)).toNatClampNeg), .int (Y.2.2.2.2.2.2.2.2.2.2.1 (nI i + (3 : Int32)).toNatClampNeg)]) (rest := [.int r]) (n := 3) E (fX9_set_c (Y.1, Y.2.2.2.2.2.2.2.2.2.2.2.1, Am Y.2.2.2.2.2.2.2.2.2.2.2.2.2, Y.2.2.2.2.2.2.2.2.2.2.2.2.2) μ (Y.2.2.2.2.2.2.2.2.2.2.1 (nI i + (1 : Int32)).toNatClampNeg) (Y.2.2.2.2.2.2.2.2.2.2.1 (nI i + (2 : Int32)).toNatClampNeg) (Y.2.2.2.2.2.2.2.2.2.2.1 (nI i + (3 : Int32)).toNatClampNeg) (r, μ') h2) gL_law_X9_set rfl rfl rfl (by decide +kernel) ⟨Nat.le_of_ble_eq_true rfl, Nat.le_of_ble_eq_true rfl⟩ rfl rfl (Nat.le_of_ble_eq_true rfl) dL_law_339 ?_
  refine y_icmp_eqT (tgt := 1017) E rfl dL_law_342 (by decide) ?_
  exact nx σ' μ' h3
def Op_say (Inv : St → St → Prop) : Prop := ∀ σ μ : St, Inv σ μ → ∀ (a1 : Int32), ∃ (r : Int32) (σ' μ' : St), fX8_say σ a1 = some (r, σ') ∧ fX9_say μ a1 = some (r, μ') ∧ Inv σ' μ'
set_option maxHeartbeats 4000000 in
set_option maxRecDepth 100000 in
theorem lcase_say {Y : gY} (E : lE Y) {Inv : St → St → Prop} (h : Op_say Inv) {σ μ : St} (hI : Inv σ μ) {i : Nat} (hi : i + 6 ≤ Y.2.2.2.2.2.2.2.2.2.1) (hL : Y.2.2.2.2.2.2.2.2.2.1 ≤ 3072) (nx : ∀ σ' μ', Inv σ' μ' → GL Y σ' μ' (lLv Y i) [] 1017) : GL Y σ μ (lLv Y i) [] 347 := by
  obtain ⟨r, σ', μ', h1, h2, h3⟩ := h σ μ hI (Y.2.2.2.2.2.2.2.2.2.2.1 (nI i + (1 : Int32)).toNatClampNeg)
  refine y_aload_n E 1 dL_law_347 rfl rfl ?_
  refine y_aload_n E 0 dL_law_348 rfl rfl ?_
  refine y_iload_n E 3 dL_law_349 rfl rfl ?_
  refine y_iconst (v := 1) E dL_law_350 (by decide) ?_
  refine y_iadd E dL_law_351 ?_
  refine y_sld E (scIn (k := 1) rfl (by omega) hL) dL_law_352 ?_
  refine y_callC (v := .int r) (As := [.int (Y.2.2.2.2.2.2.2.2.2.2.1 (nI i + (1 : Int32)).toNatClampNeg)]) (rest := []) (n := 1) E (fX8_say_c (Y.1, Y.2.2.2.2.2.2.2.2.2.2.2.1, Ac Y.2.2.2.2.2.2.2.2.2.2.2.2.1, Y.2.2.2.2.2.2.2.2.2.2.2.2.1) σ (Y.2.2.2.2.2.2.2.2.2.2.1 (nI i + (1 : Int32)).toNatClampNeg) (r, σ') h1) gL_law_X8_say rfl rfl rfl (by decide +kernel) ⟨Nat.le_of_ble_eq_true rfl, Nat.le_of_ble_eq_true rfl⟩ rfl rfl (Nat.le_of_ble_eq_true rfl) dL_law_353 ?_
  refine y_aload_n E 2 dL_law_356 rfl rfl ?_
  refine y_aload_n E 0 dL_law_357 rfl rfl ?_
  refine y_iload_n E 3 dL_law_358 rfl rfl ?_
  refine y_iconst (v := 1) E dL_law_359 (by decide) ?_
  refine y_iadd E dL_law_360 ?_
  refine y_sld E (scIn (k := 1) rfl (by omega) hL) dL_law_361 ?_
  refine y_callM (v := .int r) (As := [.int (Y.2.2.2.2.2.2.2.2.2.2.1 (nI i + (1 : Int32)).toNatClampNeg)]) (rest := [.int r]) (n := 1) E (fX9_say_c (Y.1, Y.2.2.2.2.2.2.2.2.2.2.2.1, Am Y.2.2.2.2.2.2.2.2.2.2.2.2.2, Y.2.2.2.2.2.2.2.2.2.2.2.2.2) μ (Y.2.2.2.2.2.2.2.2.2.2.1 (nI i + (1 : Int32)).toNatClampNeg) (r, μ') h2) gL_law_X9_say rfl rfl rfl (by decide +kernel) ⟨Nat.le_of_ble_eq_true rfl, Nat.le_of_ble_eq_true rfl⟩ rfl rfl (Nat.le_of_ble_eq_true rfl) dL_law_362 ?_
  refine y_icmp_eqT (tgt := 1017) E rfl dL_law_365 (by decide) ?_
  exact nx σ' μ' h3
def Op_wipe (Inv : St → St → Prop) : Prop := ∀ σ μ : St, Inv σ μ → ∃ (r : Int32) (σ' μ' : St), fX8_wipe σ = some (r, σ') ∧ fX9_wipe μ = some (r, μ') ∧ Inv σ' μ'
set_option maxHeartbeats 4000000 in
set_option maxRecDepth 100000 in
theorem lcase_wipe {Y : gY} (E : lE Y) {Inv : St → St → Prop} (h : Op_wipe Inv) {σ μ : St} (hI : Inv σ μ) {i : Nat} (hi : i + 6 ≤ Y.2.2.2.2.2.2.2.2.2.1) (hL : Y.2.2.2.2.2.2.2.2.2.1 ≤ 3072) (nx : ∀ σ' μ', Inv σ' μ' → GL Y σ' μ' (lLv Y i) [] 1017) : GL Y σ μ (lLv Y i) [] 370 := by
  obtain ⟨r, σ', μ', h1, h2, h3⟩ := h σ μ hI 
  refine y_aload_n E 1 dL_law_370 rfl rfl ?_
  refine y_callC (v := .int r) (As := []) (rest := []) (n := 0) E (fX8_wipe_c (Y.1, Y.2.2.2.2.2.2.2.2.2.2.2.1, Ac Y.2.2.2.2.2.2.2.2.2.2.2.2.1, Y.2.2.2.2.2.2.2.2.2.2.2.2.1) σ (r, σ') h1) gL_law_X8_wipe rfl rfl rfl (by decide +kernel) ⟨Nat.le_of_ble_eq_true rfl, Nat.le_of_ble_eq_true rfl⟩ rfl rfl (Nat.le_of_ble_eq_true rfl) dL_law_371 ?_
  refine y_aload_n E 2 dL_law_374 rfl rfl ?_
  refine y_callM (v := .int r) (As := []) (rest := [.int r]) (n := 0) E (fX9_wipe_c (Y.1, Y.2.2.2.2.2.2.2.2.2.2.2.1, Am Y.2.2.2.2.2.2.2.2.2.2.2.2.2, Y.2.2.2.2.2.2.2.2.2.2.2.2.2) μ (r, μ') h2) gL_law_X9_wipe rfl rfl rfl (by decide +kernel) ⟨Nat.le_of_ble_eq_true rfl, Nat.le_of_ble_eq_true rfl⟩ rfl rfl (Nat.le_of_ble_eq_true rfl) dL_law_375 ?_
  refine y_icmp_eqT (tgt := 1017) E rfl dL_law_378 (by decide) ?_
  exact nx σ' μ' h3
def Op_fault (Inv : St → St → Prop) : Prop := ∀ σ μ : St, Inv σ μ → ∃ (r : Int32) (σ' μ' : St), fX8_fault σ = some (r, σ') ∧ fX9_fault μ = some (r, μ') ∧ Inv σ' μ'
set_option maxHeartbeats 4000000 in
set_option maxRecDepth 100000 in
theorem lcase_fault {Y : gY} (E : lE Y) {Inv : St → St → Prop} (h : Op_fault Inv) {σ μ : St} (hI : Inv σ μ) {i : Nat} (hi : i + 6 ≤ Y.2.2.2.2.2.2.2.2.2.1) (hL : Y.2.2.2.2.2.2.2.2.2.1 ≤ 3072) (nx : ∀ σ' μ', Inv σ' μ' → GL Y σ' μ' (lLv Y i) [] 1017) : GL Y σ μ (lLv Y i) [] 383 := by
  obtain ⟨r, σ', μ', h1, h2, h3⟩ := h σ μ hI 
  refine y_aload_n E 1 dL_law_383 rfl rfl ?_
  refine y_callC (v := .int r) (As := []) (rest := []) (n := 0) E (fX8_fault_c (Y.1, Y.2.2.2.2.2.2.2.2.2.2.2.1, Ac Y.2.2.2.2.2.2.2.2.2.2.2.2.1, Y.2.2.2.2.2.2.2.2.2.2.2.2.1) σ (r, σ') h1) gL_law_X8_fault rfl rfl rfl (by decide +kernel) ⟨Nat.le_of_ble_eq_true rfl, Nat.le_of_ble_eq_true rfl⟩ rfl rfl (Nat.le_of_ble_eq_true rfl) dL_law_384 ?_
  refine y_aload_n E 2 dL_law_387 rfl rfl ?_
  refine y_callM (v := .int r) (As := []) (rest := [.int r]) (n := 0) E (fX9_fault_c (Y.1, Y.2.2.2.2.2.2.2.2.2.2.2.1, Am Y.2.2.2.2.2.2.2.2.2.2.2.2.2, Y.2.2.2.2.2.2.2.2.2.2.2.2.2) μ (r, μ') h2) gL_law_X9_fault rfl rfl rfl (by decide +kernel) ⟨Nat.le_of_ble_eq_true rfl, Nat.le_of_ble_eq_true rfl⟩ rfl rfl (Nat.le_of_ble_eq_true rfl) dL_law_388 ?_
  refine y_icmp_eqT (tgt := 1017) E rfl dL_law_391 (by decide) ?_
  exact nx σ' μ' h3
def Op_rule (Inv : St → St → Prop) : Prop := ∀ σ μ : St, Inv σ μ → ∃ (r : Int32) (σ' μ' : St), fX8_rule σ = some (r, σ') ∧ fX9_rule μ = some (r, μ') ∧ Inv σ' μ'
set_option maxHeartbeats 4000000 in
set_option maxRecDepth 100000 in
theorem lcase_rule {Y : gY} (E : lE Y) {Inv : St → St → Prop} (h : Op_rule Inv) {σ μ : St} (hI : Inv σ μ) {i : Nat} (hi : i + 6 ≤ Y.2.2.2.2.2.2.2.2.2.1) (hL : Y.2.2.2.2.2.2.2.2.2.1 ≤ 3072) (nx : ∀ σ' μ', Inv σ' μ' → GL Y σ' μ' (lLv Y i) [] 1017) : GL Y σ μ (lLv Y i) [] 396 := by
  obtain ⟨r, σ', μ', h1, h2, h3⟩ := h σ μ hI 
  refine y_aload_n E 1 dL_law_396 rfl rfl ?_
  refine y_callC (v := .int r) (As := []) (rest := []) (n := 0) E (fX8_rule_c (Y.1, Y.2.2.2.2.2.2.2.2.2.2.2.1, Ac Y.2.2.2.2.2.2.2.2.2.2.2.2.1, Y.2.2.2.2.2.2.2.2.2.2.2.2.1) σ (r, σ') h1) gL_law_X8_rule rfl rfl rfl (by decide +kernel) ⟨Nat.le_of_ble_eq_true rfl, Nat.le_of_ble_eq_true rfl⟩ rfl rfl (Nat.le_of_ble_eq_true rfl) dL_law_397 ?_
  refine y_aload_n E 2 dL_law_400 rfl rfl ?_
  refine y_callM (v := .int r) (As := []) (rest := [.int r]) (n := 0) E (fX9_rule_c (Y.1, Y.2.2.2.2.2.2.2.2.2.2.2.1, Am Y.2.2.2.2.2.2.2.2.2.2.2.2.2, Y.2.2.2.2.2.2.2.2.2.2.2.2.2) μ (r, μ') h2) gL_law_X9_rule rfl rfl rfl (by decide +kernel) ⟨Nat.le_of_ble_eq_true rfl, Nat.le_of_ble_eq_true rfl⟩ rfl rfl (Nat.le_of_ble_eq_true rfl) dL_law_401 ?_
  refine y_icmp_eqT (tgt := 1017) E rfl dL_law_404 (by decide) ?_
  exact nx σ' μ' h3
def Op_yes (Inv : St → St → Prop) : Prop := ∀ σ μ : St, Inv σ μ → ∀ (a1 : Int32), ∃ (r : Int32) (σ' μ' : St), fX8_yes σ a1 = some (r, σ') ∧ fX9_yes μ a1 = some (r, μ') ∧ Inv σ' μ'
set_option maxHeartbeats 4000000 in
set_option maxRecDepth 100000 in
theorem lcase_yes {Y : gY} (E : lE Y) {Inv : St → St → Prop} (h : Op_yes Inv) {σ μ : St} (hI : Inv σ μ) {i : Nat} (hi : i + 6 ≤ Y.2.2.2.2.2.2.2.2.2.1) (hL : Y.2.2.2.2.2.2.2.2.2.1 ≤ 3072) (nx : ∀ σ' μ', Inv σ' μ' → GL Y σ' μ' (lLv Y i) [] 1017) : GL Y σ μ (lLv Y i) [] 409 := by
  obtain ⟨r, σ', μ', h1, h2, h3⟩ := h σ μ hI (Y.2.2.2.2.2.2.2.2.2.2.1 (nI i + (1 : Int32)).toNatClampNeg)
  refine y_aload_n E 1 dL_law_409 rfl rfl ?_
  refine y_aload_n E 0 dL_law_410 rfl rfl ?_
  refine y_iload_n E 3 dL_law_411 rfl rfl ?_
  refine y_iconst (v := 1) E dL_law_412 (by decide) ?_
  refine y_iadd E dL_law_413 ?_
  refine y_sld E (scIn (k := 1) rfl (by omega) hL) dL_law_414 ?_
  refine y_callC (v := .int r) (As := [.int (Y.2.2.2.2.2.2.2.2.2.2.1 (nI i + (1 : Int32)).toNatClampNeg)]) (rest := []) (n := 1) E (fX8_yes_c (Y.1, Y.2.2.2.2.2.2.2.2.2.2.2.1, Ac Y.2.2.2.2.2.2.2.2.2.2.2.2.1, Y.2.2.2.2.2.2.2.2.2.2.2.2.1) σ (Y.2.2.2.2.2.2.2.2.2.2.1 (nI i + (1 : Int32)).toNatClampNeg) (r, σ') h1) gL_law_X8_yes rfl rfl rfl (by decide +kernel) ⟨Nat.le_of_ble_eq_true rfl, Nat.le_of_ble_eq_true rfl⟩ rfl rfl (Nat.le_of_ble_eq_true rfl) dL_law_415 ?_
  refine y_aload_n E 2 dL_law_418 rfl rfl ?_
  refine y_aload_n E 0 dL_law_419 rfl rfl ?_
  refine y_iload_n E 3 dL_law_420 rfl rfl ?_
  refine y_iconst (v := 1) E dL_law_421 (by decide) ?_
  refine y_iadd E dL_law_422 ?_
  refine y_sld E (scIn (k := 1) rfl (by omega) hL) dL_law_423 ?_
  refine y_callM (v := .int r) (As := [.int (Y.2.2.2.2.2.2.2.2.2.2.1 (nI i + (1 : Int32)).toNatClampNeg)]) (rest := [.int r]) (n := 1) E (fX9_yes_c (Y.1, Y.2.2.2.2.2.2.2.2.2.2.2.1, Am Y.2.2.2.2.2.2.2.2.2.2.2.2.2, Y.2.2.2.2.2.2.2.2.2.2.2.2.2) μ (Y.2.2.2.2.2.2.2.2.2.2.1 (nI i + (1 : Int32)).toNatClampNeg) (r, μ') h2) gL_law_X9_yes rfl rfl rfl (by decide +kernel) ⟨Nat.le_of_ble_eq_true rfl, Nat.le_of_ble_eq_true rfl⟩ rfl rfl (Nat.le_of_ble_eq_true rfl) dL_law_424 ?_
  refine y_icmp_eqT (tgt := 1017) E rfl dL_law_427 (by decide) ?_
  exact nx σ' μ' h3
def Op_taken (Inv : St → St → Prop) : Prop := ∀ σ μ : St, Inv σ μ → ∀ (a1 : Int32) (a2 : Int32) (a3 : Int32), ∃ (r : Int64) (σ' μ' : St), fX8_taken σ a1 a2 a3 = some (r, σ') ∧ fX9_taken μ a1 a2 a3 = some (r, μ') ∧ Inv σ' μ'
set_option maxHeartbeats 4000000 in
set_option maxRecDepth 100000 in
theorem lcase_taken {Y : gY} (E : lE Y) {Inv : St → St → Prop} (h : Op_taken Inv) {σ μ : St} (hI : Inv σ μ) {i : Nat} (hi : i + 6 ≤ Y.2.2.2.2.2.2.2.2.2.1) (hL : Y.2.2.2.2.2.2.2.2.2.1 ≤ 3072) (nx : ∀ σ' μ', Inv σ' μ' → GL Y σ' μ' (lLv Y i) [] 1017) : GL Y σ μ (lLv Y i) [] 432 := by
  obtain ⟨r, σ', μ', h1, h2, h3⟩ := h σ μ hI (Y.2.2.2.2.2.2.2.2.2.2.1 (nI i + (1 : Int32)).toNatClampNeg) (Y.2.2.2.2.2.2.2.2.2.2.1 (nI i + (2 : Int32)).toNatClampNeg) (Y.2.2.2.2.2.2.2.2.2.2.1 (nI i + (3 : Int32)).toNatClampNeg)
  refine y_aload_n E 1 dL_law_432 rfl rfl ?_
  refine y_aload_n E 0 dL_law_433 rfl rfl ?_
  refine y_iload_n E 3 dL_law_434 rfl rfl ?_
  refine y_iconst (v := 1) E dL_law_435 (by decide) ?_
  refine y_iadd E dL_law_436 ?_
  refine y_sld E (scIn (k := 1) rfl (by omega) hL) dL_law_437 ?_
  refine y_aload_n E 0 dL_law_438 rfl rfl ?_
  refine y_iload_n E 3 dL_law_439 rfl rfl ?_
  refine y_iconst (v := 2) E dL_law_440 (by decide) ?_
  refine y_iadd E dL_law_441 ?_
  refine y_sld E (scIn (k := 2) rfl (by omega) hL) dL_law_442 ?_
  refine y_aload_n E 0 dL_law_443 rfl rfl ?_
  refine y_iload_n E 3 dL_law_444 rfl rfl ?_
  refine y_iconst (v := 3) E dL_law_445 (by decide) ?_
  refine y_iadd E dL_law_446 ?_
  refine y_sld E (scIn (k := 3) rfl (by omega) hL) dL_law_447 ?_
  refine y_callC (v := .long r) (As := [.int (Y.2.2.2.2.2.2.2.2.2.2.1 (nI i + (1 : Int32)).toNatClampNeg), .int (Y.2.2.2.2.2.2.2.2.2.2.1 (nI i + (2 : Int32)).toNatClampNeg), .int (Y.2.2.2.2.2.2.2.2.2.2.1 (nI i + (3 : Int32)).toNatClampNeg)]) (rest := []) (n := 3) E (fX8_taken_c (Y.1, Y.2.2.2.2.2.2.2.2.2.2.2.1, Ac Y.2.2.2.2.2.2.2.2.2.2.2.2.1, Y.2.2.2.2.2.2.2.2.2.2.2.2.1) σ (Y.2.2.2.2.2.2.2.2.2.2.1 (nI i + (1 : Int32)).toNatClampNeg) (Y.2.2.2.2.2.2.2.2.2.2.1 (nI i + (2 : Int32)).toNatClampNeg) (Y.2.2.2.2.2.2.2.2.2.2.1 (nI i + (3 : Int32)).toNatClampNeg) (r, σ') h1) gL_law_X8_taken rfl rfl rfl (by decide +kernel) ⟨Nat.le_of_ble_eq_true rfl, Nat.le_of_ble_eq_true rfl⟩ rfl rfl (Nat.le_of_ble_eq_true rfl) dL_law_448 ?_
  refine y_aload_n E 2 dL_law_451 rfl rfl ?_
  refine y_aload_n E 0 dL_law_452 rfl rfl ?_
  refine y_iload_n E 3 dL_law_453 rfl rfl ?_
  refine y_iconst (v := 1) E dL_law_454 (by decide) ?_
  refine y_iadd E dL_law_455 ?_
  refine y_sld E (scIn (k := 1) rfl (by omega) hL) dL_law_456 ?_
  refine y_aload_n E 0 dL_law_457 rfl rfl ?_
  refine y_iload_n E 3 dL_law_458 rfl rfl ?_
  refine y_iconst (v := 2) E dL_law_459 (by decide) ?_
  refine y_iadd E dL_law_460 ?_
  refine y_sld E (scIn (k := 2) rfl (by omega) hL) dL_law_461 ?_
  refine y_aload_n E 0 dL_law_462 rfl rfl ?_
  refine y_iload_n E 3 dL_law_463 rfl rfl ?_
  refine y_iconst (v := 3) E dL_law_464 (by decide) ?_
  refine y_iadd E dL_law_465 ?_
  refine y_sld E (scIn (k := 3) rfl (by omega) hL) dL_law_466 ?_
  refine y_callM (v := .long r) (As := [.int (Y.2.2.2.2.2.2.2.2.2.2.1 (nI i + (1 : Int32)).toNatClampNeg), .int (Y.2.2.2.2.2.2.2.2.2.2.1 (nI i + (2 : Int32)).toNatClampNeg), .int (Y.2.2.2.2.2.2.2.2.2.2.1 (nI i + (3 : Int32)).toNatClampNeg)]) (rest := [.long r]) (n := 3) E (fX9_taken_c (Y.1, Y.2.2.2.2.2.2.2.2.2.2.2.1, Am Y.2.2.2.2.2.2.2.2.2.2.2.2.2, Y.2.2.2.2.2.2.2.2.2.2.2.2.2) μ (Y.2.2.2.2.2.2.2.2.2.2.1 (nI i + (1 : Int32)).toNatClampNeg) (Y.2.2.2.2.2.2.2.2.2.2.1 (nI i + (2 : Int32)).toNatClampNeg) (Y.2.2.2.2.2.2.2.2.2.2.1 (nI i + (3 : Int32)).toNatClampNeg) (r, μ') h2) gL_law_X9_taken rfl rfl rfl (by decide +kernel) ⟨Nat.le_of_ble_eq_true rfl, Nat.le_of_ble_eq_true rfl⟩ rfl rfl (Nat.le_of_ble_eq_true rfl) dL_law_467 ?_
  refine y_lcmp E dL_law_470 ?_
  refine y_if_eqT (tgt := 1017) E (by simp [lg_cmp, Int64.lt_irrefl]) dL_law_471 (by decide) ?_
  exact nx σ' μ' h3
def Op_lot (Inv : St → St → Prop) : Prop := ∀ σ μ : St, Inv σ μ → ∀ (a1 : Int32) (a2 : Int32) (a3 : Int32) (a4 : Int32), ∃ (r : Int64) (σ' μ' : St), fX8_lot σ a1 a2 a3 a4 = some (r, σ') ∧ fX9_lot μ a1 a2 a3 a4 = some (r, μ') ∧ Inv σ' μ'
set_option maxHeartbeats 4000000 in
set_option maxRecDepth 100000 in
theorem lcase_lot {Y : gY} (E : lE Y) {Inv : St → St → Prop} (h : Op_lot Inv) {σ μ : St} (hI : Inv σ μ) {i : Nat} (hi : i + 6 ≤ Y.2.2.2.2.2.2.2.2.2.1) (hL : Y.2.2.2.2.2.2.2.2.2.1 ≤ 3072) (nx : ∀ σ' μ', Inv σ' μ' → GL Y σ' μ' (lLv Y i) [] 1017) : GL Y σ μ (lLv Y i) [] 476 := by
  obtain ⟨r, σ', μ', h1, h2, h3⟩ := h σ μ hI (Y.2.2.2.2.2.2.2.2.2.2.1 (nI i + (1 : Int32)).toNatClampNeg) (Y.2.2.2.2.2.2.2.2.2.2.1 (nI i + (2 : Int32)).toNatClampNeg) (Y.2.2.2.2.2.2.2.2.2.2.1 (nI i + (3 : Int32)).toNatClampNeg) (Y.2.2.2.2.2.2.2.2.2.2.1 (nI i + (4 : Int32)).toNatClampNeg)
  refine y_aload_n E 1 dL_law_476 rfl rfl ?_
  refine y_aload_n E 0 dL_law_477 rfl rfl ?_
  refine y_iload_n E 3 dL_law_478 rfl rfl ?_
  refine y_iconst (v := 1) E dL_law_479 (by decide) ?_
  refine y_iadd E dL_law_480 ?_
  refine y_sld E (scIn (k := 1) rfl (by omega) hL) dL_law_481 ?_
  refine y_aload_n E 0 dL_law_482 rfl rfl ?_
  refine y_iload_n E 3 dL_law_483 rfl rfl ?_
  refine y_iconst (v := 2) E dL_law_484 (by decide) ?_
  refine y_iadd E dL_law_485 ?_
  refine y_sld E (scIn (k := 2) rfl (by omega) hL) dL_law_486 ?_
  refine y_aload_n E 0 dL_law_487 rfl rfl ?_
  refine y_iload_n E 3 dL_law_488 rfl rfl ?_
  refine y_iconst (v := 3) E dL_law_489 (by decide) ?_
  refine y_iadd E dL_law_490 ?_
  refine y_sld E (scIn (k := 3) rfl (by omega) hL) dL_law_491 ?_
  refine y_aload_n E 0 dL_law_492 rfl rfl ?_
  refine y_iload_n E 3 dL_law_493 rfl rfl ?_
  refine y_iconst (v := 4) E dL_law_494 (by decide) ?_
  refine y_iadd E dL_law_495 ?_
  refine y_sld E (scIn (k := 4) rfl (by omega) hL) dL_law_496 ?_
  refine y_callC (v := .long r) (As := [.int (Y.2.2.2.2.2.2.2.2.2.2.1 (nI i + (1 : Int32)).toNatClampNeg), .int (Y.2.2.2.2.2.2.2.2.2.2.1 (nI i + (2 : Int32)).toNatClampNeg), .int (Y.2.2.2.2.2.2.2.2.2.2.1 (nI i + (3 : Int32)).toNatClampNeg), .int (Y.2.2.2.2.2.2.2.2.2.2.1 (nI i + (4 : Int32)).toNatClampNeg)]) (rest := []) (n := 4) E (fX8_lot_c (Y.1, Y.2.2.2.2.2.2.2.2.2.2.2.1, Ac Y.2.2.2.2.2.2.2.2.2.2.2.2.1, Y.2.2.2.2.2.2.2.2.2.2.2.2.1) σ (Y.2.2.2.2.2.2.2.2.2.2.1 (nI i + (1 : Int32)).toNatClampNeg) (Y.2.2.2.2.2.2.2.2.2.2.1 (nI i + (2 : Int32)).toNatClampNeg) (Y.2.2.2.2.2.2.2.2.2.2.1 (nI i + (3 : Int32)).toNatClampNeg) (Y.2.2.2.2.2.2.2.2.2.2.1 (nI i + (4 : Int32)).toNatClampNeg) (r, σ') h1) gL_law_X8_lot rfl rfl rfl (by decide +kernel) ⟨Nat.le_of_ble_eq_true rfl, Nat.le_of_ble_eq_true rfl⟩ rfl rfl (Nat.le_of_ble_eq_true rfl) dL_law_497 ?_
  refine y_aload_n E 2 dL_law_500 rfl rfl ?_
  refine y_aload_n E 0 dL_law_501 rfl rfl ?_
  refine y_iload_n E 3 dL_law_502 rfl rfl ?_
  refine y_iconst (v := 1) E dL_law_503 (by decide) ?_
  refine y_iadd E dL_law_504 ?_
  refine y_sld E (scIn (k := 1) rfl (by omega) hL) dL_law_505 ?_
  refine y_aload_n E 0 dL_law_506 rfl rfl ?_
  refine y_iload_n E 3 dL_law_507 rfl rfl ?_
  refine y_iconst (v := 2) E dL_law_508 (by decide) ?_
  refine y_iadd E dL_law_509 ?_
  refine y_sld E (scIn (k := 2) rfl (by omega) hL) dL_law_510 ?_
  refine y_aload_n E 0 dL_law_511 rfl rfl ?_
  refine y_iload_n E 3 dL_law_512 rfl rfl ?_
  refine y_iconst (v := 3) E dL_law_513 (by decide) ?_
  refine y_iadd E dL_law_514 ?_
  refine y_sld E (scIn (k := 3) rfl (by omega) hL) dL_law_515 ?_
  refine y_aload_n E 0 dL_law_516 rfl rfl ?_
  refine y_iload_n E 3 dL_law_517 rfl rfl ?_
  refine y_iconst (v := 4) E dL_law_518 (by decide) ?_
  refine y_iadd E dL_law_519 ?_
  refine y_sld E (scIn (k := 4) rfl (by omega) hL) dL_law_520 ?_
  refine y_callM (v := .long r) (As := [.int (Y.2.2.2.2.2.2.2.2.2.2.1 (nI i + (1 : Int32)).toNatClampNeg), .int (Y.2.2.2.2.2.2.2.2.2.2.1 (nI i + (2 : Int32)).toNatClampNeg), .int (Y.2.2.2.2.2.2.2.2.2.2.1 (nI i + (3 : Int32)).toNatClampNeg), .int (Y.2.2.2.2.2.2.2.2.2.2.1 (nI i + (4 : Int32)).toNatClampNeg)]) (rest := [.long r]) (n := 4) E (fX9_lot_c (Y.1, Y.2.2.2.2.2.2.2.2.2.2.2.1, Am Y.2.2.2.2.2.2.2.2.2.2.2.2.2, Y.2.2.2.2.2.2.2.2.2.2.2.2.2) μ (Y.2.2.2.2.2.2.2.2.2.2.1 (nI i + (1 : Int32)).toNatClampNeg) (Y.2.2.2.2.2.2.2.2.2.2.1 (nI i + (2 : Int32)).toNatClampNeg) (Y.2.2.2.2.2.2.2.2.2.2.1 (nI i + (3 : Int32)).toNatClampNeg) (Y.2.2.2.2.2.2.2.2.2.2.1 (nI i + (4 : Int32)).toNatClampNeg) (r, μ') h2) gL_law_X9_lot rfl rfl rfl (by decide +kernel) ⟨Nat.le_of_ble_eq_true rfl, Nat.le_of_ble_eq_true rfl⟩ rfl rfl (Nat.le_of_ble_eq_true rfl) dL_law_521 ?_
  refine y_lcmp E dL_law_524 ?_
  refine y_if_eqT (tgt := 1017) E (by simp [lg_cmp, Int64.lt_irrefl]) dL_law_525 (by decide) ?_
  exact nx σ' μ' h3
def Op_right (Inv : St → St → Prop) : Prop := ∀ σ μ : St, Inv σ μ → ∀ (a1 : Int32) (a2 : Int32) (a3 : Int32), ∃ (r : Int64) (σ' μ' : St), fX8_right σ a1 a2 a3 = some (r, σ') ∧ fX9_right μ a1 a2 a3 = some (r, μ') ∧ Inv σ' μ'
set_option maxHeartbeats 4000000 in
set_option maxRecDepth 100000 in
theorem lcase_right {Y : gY} (E : lE Y) {Inv : St → St → Prop} (h : Op_right Inv) {σ μ : St} (hI : Inv σ μ) {i : Nat} (hi : i + 6 ≤ Y.2.2.2.2.2.2.2.2.2.1) (hL : Y.2.2.2.2.2.2.2.2.2.1 ≤ 3072) (nx : ∀ σ' μ', Inv σ' μ' → GL Y σ' μ' (lLv Y i) [] 1017) : GL Y σ μ (lLv Y i) [] 530 := by
  obtain ⟨r, σ', μ', h1, h2, h3⟩ := h σ μ hI (Y.2.2.2.2.2.2.2.2.2.2.1 (nI i + (1 : Int32)).toNatClampNeg) (Y.2.2.2.2.2.2.2.2.2.2.1 (nI i + (2 : Int32)).toNatClampNeg) (Y.2.2.2.2.2.2.2.2.2.2.1 (nI i + (3 : Int32)).toNatClampNeg)
  refine y_aload_n E 1 dL_law_530 rfl rfl ?_
  refine y_aload_n E 0 dL_law_531 rfl rfl ?_
  refine y_iload_n E 3 dL_law_532 rfl rfl ?_
  refine y_iconst (v := 1) E dL_law_533 (by decide) ?_
  refine y_iadd E dL_law_534 ?_
  refine y_sld E (scIn (k := 1) rfl (by omega) hL) dL_law_535 ?_
  refine y_aload_n E 0 dL_law_536 rfl rfl ?_
  refine y_iload_n E 3 dL_law_537 rfl rfl ?_
  refine y_iconst (v := 2) E dL_law_538 (by decide) ?_
  refine y_iadd E dL_law_539 ?_
  refine y_sld E (scIn (k := 2) rfl (by omega) hL) dL_law_540 ?_
  refine y_aload_n E 0 dL_law_541 rfl rfl ?_
  refine y_iload_n E 3 dL_law_542 rfl rfl ?_
  refine y_iconst (v := 3) E dL_law_543 (by decide) ?_
  refine y_iadd E dL_law_544 ?_
  refine y_sld E (scIn (k := 3) rfl (by omega) hL) dL_law_545 ?_
  refine y_callC (v := .long r) (As := [.int (Y.2.2.2.2.2.2.2.2.2.2.1 (nI i + (1 : Int32)).toNatClampNeg), .int (Y.2.2.2.2.2.2.2.2.2.2.1 (nI i + (2 : Int32)).toNatClampNeg), .int (Y.2.2.2.2.2.2.2.2.2.2.1 (nI i + (3 : Int32)).toNatClampNeg)]) (rest := []) (n := 3) E (fX8_right_c (Y.1, Y.2.2.2.2.2.2.2.2.2.2.2.1, Ac Y.2.2.2.2.2.2.2.2.2.2.2.2.1, Y.2.2.2.2.2.2.2.2.2.2.2.2.1) σ (Y.2.2.2.2.2.2.2.2.2.2.1 (nI i + (1 : Int32)).toNatClampNeg) (Y.2.2.2.2.2.2.2.2.2.2.1 (nI i + (2 : Int32)).toNatClampNeg) (Y.2.2.2.2.2.2.2.2.2.2.1 (nI i + (3 : Int32)).toNatClampNeg) (r, σ') h1) gL_law_X8_right rfl rfl rfl (by decide +kernel) ⟨Nat.le_of_ble_eq_true rfl, Nat.le_of_ble_eq_true rfl⟩ rfl rfl (Nat.le_of_ble_eq_true rfl) dL_law_546 ?_
  refine y_aload_n E 2 dL_law_549 rfl rfl ?_
  refine y_aload_n E 0 dL_law_550 rfl rfl ?_
  refine y_iload_n E 3 dL_law_551 rfl rfl ?_
  refine y_iconst (v := 1) E dL_law_552 (by decide) ?_
  refine y_iadd E dL_law_553 ?_
  refine y_sld E (scIn (k := 1) rfl (by omega) hL) dL_law_554 ?_
  refine y_aload_n E 0 dL_law_555 rfl rfl ?_
  refine y_iload_n E 3 dL_law_556 rfl rfl ?_
  refine y_iconst (v := 2) E dL_law_557 (by decide) ?_
  refine y_iadd E dL_law_558 ?_
  refine y_sld E (scIn (k := 2) rfl (by omega) hL) dL_law_559 ?_
  refine y_aload_n E 0 dL_law_560 rfl rfl ?_
  refine y_iload_n E 3 dL_law_561 rfl rfl ?_
  refine y_iconst (v := 3) E dL_law_562 (by decide) ?_
  refine y_iadd E dL_law_563 ?_
  refine y_sld E (scIn (k := 3) rfl (by omega) hL) dL_law_564 ?_
  refine y_callM (v := .long r) (As := [.int (Y.2.2.2.2.2.2.2.2.2.2.1 (nI i + (1 : Int32)).toNatClampNeg), .int (Y.2.2.2.2.2.2.2.2.2.2.1 (nI i + (2 : Int32)).toNatClampNeg), .int (Y.2.2.2.2.2.2.2.2.2.2.1 (nI i + (3 : Int32)).toNatClampNeg)]) (rest := [.long r]) (n := 3) E (fX9_right_c (Y.1, Y.2.2.2.2.2.2.2.2.2.2.2.1, Am Y.2.2.2.2.2.2.2.2.2.2.2.2.2, Y.2.2.2.2.2.2.2.2.2.2.2.2.2) μ (Y.2.2.2.2.2.2.2.2.2.2.1 (nI i + (1 : Int32)).toNatClampNeg) (Y.2.2.2.2.2.2.2.2.2.2.1 (nI i + (2 : Int32)).toNatClampNeg) (Y.2.2.2.2.2.2.2.2.2.2.1 (nI i + (3 : Int32)).toNatClampNeg) (r, μ') h2) gL_law_X9_right rfl rfl rfl (by decide +kernel) ⟨Nat.le_of_ble_eq_true rfl, Nat.le_of_ble_eq_true rfl⟩ rfl rfl (Nat.le_of_ble_eq_true rfl) dL_law_565 ?_
  refine y_lcmp E dL_law_568 ?_
  refine y_if_eqT (tgt := 1017) E (by simp [lg_cmp, Int64.lt_irrefl]) dL_law_569 (by decide) ?_
  exact nx σ' μ' h3
def Op_more (Inv : St → St → Prop) : Prop := ∀ σ μ : St, Inv σ μ → ∀ (a1 : Int32) (a2 : Int32) (a3 : Int32) (a4 : Int32), ∃ (r : Int64) (σ' μ' : St), fX8_more σ a1 a2 a3 a4 = some (r, σ') ∧ fX9_more μ a1 a2 a3 a4 = some (r, μ') ∧ Inv σ' μ'
set_option maxHeartbeats 4000000 in
set_option maxRecDepth 100000 in
theorem lcase_more {Y : gY} (E : lE Y) {Inv : St → St → Prop} (h : Op_more Inv) {σ μ : St} (hI : Inv σ μ) {i : Nat} (hi : i + 6 ≤ Y.2.2.2.2.2.2.2.2.2.1) (hL : Y.2.2.2.2.2.2.2.2.2.1 ≤ 3072) (nx : ∀ σ' μ', Inv σ' μ' → GL Y σ' μ' (lLv Y i) [] 1017) : GL Y σ μ (lLv Y i) [] 574 := by
  obtain ⟨r, σ', μ', h1, h2, h3⟩ := h σ μ hI (Y.2.2.2.2.2.2.2.2.2.2.1 (nI i + (1 : Int32)).toNatClampNeg) (Y.2.2.2.2.2.2.2.2.2.2.1 (nI i + (2 : Int32)).toNatClampNeg) (Y.2.2.2.2.2.2.2.2.2.2.1 (nI i + (3 : Int32)).toNatClampNeg) (Y.2.2.2.2.2.2.2.2.2.2.1 (nI i + (4 : Int32)).toNatClampNeg)
  refine y_aload_n E 1 dL_law_574 rfl rfl ?_
  refine y_aload_n E 0 dL_law_575 rfl rfl ?_
  refine y_iload_n E 3 dL_law_576 rfl rfl ?_
  refine y_iconst (v := 1) E dL_law_577 (by decide) ?_
  refine y_iadd E dL_law_578 ?_
  refine y_sld E (scIn (k := 1) rfl (by omega) hL) dL_law_579 ?_
  refine y_aload_n E 0 dL_law_580 rfl rfl ?_
  refine y_iload_n E 3 dL_law_581 rfl rfl ?_
  refine y_iconst (v := 2) E dL_law_582 (by decide) ?_
  refine y_iadd E dL_law_583 ?_
  refine y_sld E (scIn (k := 2) rfl (by omega) hL) dL_law_584 ?_
  refine y_aload_n E 0 dL_law_585 rfl rfl ?_
  refine y_iload_n E 3 dL_law_586 rfl rfl ?_
  refine y_iconst (v := 3) E dL_law_587 (by decide) ?_
  refine y_iadd E dL_law_588 ?_
  refine y_sld E (scIn (k := 3) rfl (by omega) hL) dL_law_589 ?_
  refine y_aload_n E 0 dL_law_590 rfl rfl ?_
  refine y_iload_n E 3 dL_law_591 rfl rfl ?_
  refine y_iconst (v := 4) E dL_law_592 (by decide) ?_
  refine y_iadd E dL_law_593 ?_
  refine y_sld E (scIn (k := 4) rfl (by omega) hL) dL_law_594 ?_
  refine y_callC (v := .long r) (As := [.int (Y.2.2.2.2.2.2.2.2.2.2.1 (nI i + (1 : Int32)).toNatClampNeg), .int (Y.2.2.2.2.2.2.2.2.2.2.1 (nI i + (2 : Int32)).toNatClampNeg), .int (Y.2.2.2.2.2.2.2.2.2.2.1 (nI i + (3 : Int32)).toNatClampNeg), .int (Y.2.2.2.2.2.2.2.2.2.2.1 (nI i + (4 : Int32)).toNatClampNeg)]) (rest := []) (n := 4) E (fX8_more_c (Y.1, Y.2.2.2.2.2.2.2.2.2.2.2.1, Ac Y.2.2.2.2.2.2.2.2.2.2.2.2.1, Y.2.2.2.2.2.2.2.2.2.2.2.2.1) σ (Y.2.2.2.2.2.2.2.2.2.2.1 (nI i + (1 : Int32)).toNatClampNeg) (Y.2.2.2.2.2.2.2.2.2.2.1 (nI i + (2 : Int32)).toNatClampNeg) (Y.2.2.2.2.2.2.2.2.2.2.1 (nI i + (3 : Int32)).toNatClampNeg) (Y.2.2.2.2.2.2.2.2.2.2.1 (nI i + (4 : Int32)).toNatClampNeg) (r, σ') h1) gL_law_X8_more rfl rfl rfl (by decide +kernel) ⟨Nat.le_of_ble_eq_true rfl, Nat.le_of_ble_eq_true rfl⟩ rfl rfl (Nat.le_of_ble_eq_true rfl) dL_law_595 ?_
  refine y_aload_n E 2 dL_law_598 rfl rfl ?_
  refine y_aload_n E 0 dL_law_599 rfl rfl ?_
  refine y_iload_n E 3 dL_law_600 rfl rfl ?_
  refine y_iconst (v := 1) E dL_law_601 (by decide) ?_
  refine y_iadd E dL_law_602 ?_
  refine y_sld E (scIn (k := 1) rfl (by omega) hL) dL_law_603 ?_
  refine y_aload_n E 0 dL_law_604 rfl rfl ?_
  refine y_iload_n E 3 dL_law_605 rfl rfl ?_
  refine y_iconst (v := 2) E dL_law_606 (by decide) ?_
  refine y_iadd E dL_law_607 ?_
  refine y_sld E (scIn (k := 2) rfl (by omega) hL) dL_law_608 ?_
  refine y_aload_n E 0 dL_law_609 rfl rfl ?_
  refine y_iload_n E 3 dL_law_610 rfl rfl ?_
  refine y_iconst (v := 3) E dL_law_611 (by decide) ?_
  refine y_iadd E dL_law_612 ?_
  refine y_sld E (scIn (k := 3) rfl (by omega) hL) dL_law_613 ?_
  refine y_aload_n E 0 dL_law_614 rfl rfl ?_
  refine y_iload_n E 3 dL_law_615 rfl rfl ?_
  refine y_iconst (v := 4) E dL_law_616 (by decide) ?_
  refine y_iadd E dL_law_617 ?_
  refine y_sld E (scIn (k := 4) rfl (by omega) hL) dL_law_618 ?_
  refine y_callM (v := .long r) (As := [.int (Y.2.2.2.2.2.2.2.2.2.2.1 (nI i + (1 : Int32)).toNatClampNeg), .int (Y.2.2.2.2.2.2.2.2.2.2.1 (nI i + (2 : Int32)).toNatClampNeg), .int (Y.2.2.2.2.2.2.2.2.2.2.1 (nI i + (3 : Int32)).toNatClampNeg), .int (Y.2.2.2.2.2.2.2.2.2.2.1 (nI i + (4 : Int32)).toNatClampNeg)]) (rest := [.long r]) (n := 4) E (fX9_more_c (Y.1, Y.2.2.2.2.2.2.2.2.2.2.2.1, Am Y.2.2.2.2.2.2.2.2.2.2.2.2.2, Y.2.2.2.2.2.2.2.2.2.2.2.2.2) μ (Y.2.2.2.2.2.2.2.2.2.2.1 (nI i + (1 : Int32)).toNatClampNeg) (Y.2.2.2.2.2.2.2.2.2.2.1 (nI i + (2 : Int32)).toNatClampNeg) (Y.2.2.2.2.2.2.2.2.2.2.1 (nI i + (3 : Int32)).toNatClampNeg) (Y.2.2.2.2.2.2.2.2.2.2.1 (nI i + (4 : Int32)).toNatClampNeg) (r, μ') h2) gL_law_X9_more rfl rfl rfl (by decide +kernel) ⟨Nat.le_of_ble_eq_true rfl, Nat.le_of_ble_eq_true rfl⟩ rfl rfl (Nat.le_of_ble_eq_true rfl) dL_law_619 ?_
  refine y_lcmp E dL_law_622 ?_
  refine y_if_eqT (tgt := 1017) E (by simp [lg_cmp, Int64.lt_irrefl]) dL_law_623 (by decide) ?_
  exact nx σ' μ' h3
def Op_rounds (Inv : St → St → Prop) : Prop := ∀ σ μ : St, Inv σ μ → ∀ (a1 : Int32) (a2 : Int32) (a3 : Int32) (a4 : Int32) (a5 : Int32), ∃ (r : Int64) (σ' μ' : St), fX8_rounds σ a1 a2 a3 a4 a5 = some (r, σ') ∧ fX9_rounds μ a1 a2 a3 a4 a5 = some (r, μ') ∧ Inv σ' μ'
set_option maxHeartbeats 4000000 in
set_option maxRecDepth 100000 in
theorem lcase_rounds {Y : gY} (E : lE Y) {Inv : St → St → Prop} (h : Op_rounds Inv) {σ μ : St} (hI : Inv σ μ) {i : Nat} (hi : i + 6 ≤ Y.2.2.2.2.2.2.2.2.2.1) (hL : Y.2.2.2.2.2.2.2.2.2.1 ≤ 3072) (nx : ∀ σ' μ', Inv σ' μ' → GL Y σ' μ' (lLv Y i) [] 1017) : GL Y σ μ (lLv Y i) [] 628 := by
  obtain ⟨r, σ', μ', h1, h2, h3⟩ := h σ μ hI (Y.2.2.2.2.2.2.2.2.2.2.1 (nI i + (1 : Int32)).toNatClampNeg) (Y.2.2.2.2.2.2.2.2.2.2.1 (nI i + (2 : Int32)).toNatClampNeg) (Y.2.2.2.2.2.2.2.2.2.2.1 (nI i + (3 : Int32)).toNatClampNeg) (Y.2.2.2.2.2.2.2.2.2.2.1 (nI i + (4 : Int32)).toNatClampNeg) (Y.2.2.2.2.2.2.2.2.2.2.1 (nI i + (5 : Int32)).toNatClampNeg)
  refine y_aload_n E 1 dL_law_628 rfl rfl ?_
  refine y_aload_n E 0 dL_law_629 rfl rfl ?_
  refine y_iload_n E 3 dL_law_630 rfl rfl ?_
  refine y_iconst (v := 1) E dL_law_631 (by decide) ?_
  refine y_iadd E dL_law_632 ?_
  refine y_sld E (scIn (k := 1) rfl (by omega) hL) dL_law_633 ?_
  refine y_aload_n E 0 dL_law_634 rfl rfl ?_
  refine y_iload_n E 3 dL_law_635 rfl rfl ?_
  refine y_iconst (v := 2) E dL_law_636 (by decide) ?_
  refine y_iadd E dL_law_637 ?_
  refine y_sld E (scIn (k := 2) rfl (by omega) hL) dL_law_638 ?_
  refine y_aload_n E 0 dL_law_639 rfl rfl ?_
  refine y_iload_n E 3 dL_law_640 rfl rfl ?_
  refine y_iconst (v := 3) E dL_law_641 (by decide) ?_
  refine y_iadd E dL_law_642 ?_
  refine y_sld E (scIn (k := 3) rfl (by omega) hL) dL_law_643 ?_
  refine y_aload_n E 0 dL_law_644 rfl rfl ?_
  refine y_iload_n E 3 dL_law_645 rfl rfl ?_
  refine y_iconst (v := 4) E dL_law_646 (by decide) ?_
  refine y_iadd E dL_law_647 ?_
  refine y_sld E (scIn (k := 4) rfl (by omega) hL) dL_law_648 ?_
  refine y_aload_n E 0 dL_law_649 rfl rfl ?_
  refine y_iload_n E 3 dL_law_650 rfl rfl ?_
  refine y_iconst (v := 5) E dL_law_651 (by decide) ?_
  refine y_iadd E dL_law_652 ?_
  refine y_sld E (scIn (k := 5) rfl (by omega) hL) dL_law_653 ?_
  refine y_callC (v := .long r) (As := [.int (Y.2.2.2.2.2.2.2.2.2.2.1 (nI i + (1 : Int32)).toNatClampNeg), .int (Y.2.2.2.2.2.2.2.2.2.2.1 (nI i + (2 : Int32)).toNatClampNeg), .int (Y.2.2.2.2.2.2.2.2.2.2.1 (nI i + (3 : Int32)).toNatClampNeg), .int (Y.2.2.2.2.2.2.2.2.2.2.1 (nI i + (4 : Int32)).toNatClampNeg), .int (Y.2.2.2.2.2.2.2.2.2.2.1 (nI i + (5 : Int32)).toNatClampNeg)]) (rest := []) (n := 5) E (fX8_rounds_c (Y.1, Y.2.2.2.2.2.2.2.2.2.2.2.1, Ac Y.2.2.2.2.2.2.2.2.2.2.2.2.1, Y.2.2.2.2.2.2.2.2.2.2.2.2.1) σ (Y.2.2.2.2.2.2.2.2.2.2.1 (nI i + (1 : Int32)).toNatClampNeg) (Y.2.2.2.2.2.2.2.2.2.2.1 (nI i + (2 : Int32)).toNatClampNeg) (Y.2.2.2.2.2.2.2.2.2.2.1 (nI i + (3 : Int32)).toNatClampNeg) (Y.2.2.2.2.2.2.2.2.2.2.1 (nI i + (4 : Int32)).toNatClampNeg) (Y.2.2.2.2.2.2.2.2.2.2.1 (nI i + (5 : Int32)).toNatClampNeg) (r, σ') h1) gL_law_X8_rounds rfl rfl rfl (by decide +kernel) ⟨Nat.le_of_ble_eq_true rfl, Nat.le_of_ble_eq_true rfl⟩ rfl rfl (Nat.le_of_ble_eq_true rfl) dL_law_654 ?_
  refine y_aload_n E 2 dL_law_657 rfl rfl ?_
  refine y_aload_n E 0 dL_law_658 rfl rfl ?_
  refine y_iload_n E 3 dL_law_659 rfl rfl ?_
  refine y_iconst (v := 1) E dL_law_660 (by decide) ?_
  refine y_iadd E dL_law_661 ?_
  refine y_sld E (scIn (k := 1) rfl (by omega) hL) dL_law_662 ?_
  refine y_aload_n E 0 dL_law_663 rfl rfl ?_
  refine y_iload_n E 3 dL_law_664 rfl rfl ?_
  refine y_iconst (v := 2) E dL_law_665 (by decide) ?_
  refine y_iadd E dL_law_666 ?_
  refine y_sld E (scIn (k := 2) rfl (by omega) hL) dL_law_667 ?_
  refine y_aload_n E 0 dL_law_668 rfl rfl ?_
  refine y_iload_n E 3 dL_law_669 rfl rfl ?_
  refine y_iconst (v := 3) E dL_law_670 (by decide) ?_
  refine y_iadd E dL_law_671 ?_
  refine y_sld E (scIn (k := 3) rfl (by omega) hL) dL_law_672 ?_
  refine y_aload_n E 0 dL_law_673 rfl rfl ?_
  refine y_iload_n E 3 dL_law_674 rfl rfl ?_
  refine y_iconst (v := 4) E dL_law_675 (by decide) ?_
  refine y_iadd E dL_law_676 ?_
  refine y_sld E (scIn (k := 4) rfl (by omega) hL) dL_law_677 ?_
  refine y_aload_n E 0 dL_law_678 rfl rfl ?_
  refine y_iload_n E 3 dL_law_679 rfl rfl ?_
  refine y_iconst (v := 5) E dL_law_680 (by decide) ?_
  refine y_iadd E dL_law_681 ?_
  refine y_sld E (scIn (k := 5) rfl (by omega) hL) dL_law_682 ?_
  refine y_callM (v := .long r) (As := [.int (Y.2.2.2.2.2.2.2.2.2.2.1 (nI i + (1 : Int32)).toNatClampNeg), .int (Y.2.2.2.2.2.2.2.2.2.2.1 (nI i + (2 : Int32)).toNatClampNeg), .int (Y.2.2.2.2.2.2.2.2.2.2.1 (nI i + (3 : Int32)).toNatClampNeg), .int (Y.2.2.2.2.2.2.2.2.2.2.1 (nI i + (4 : Int32)).toNatClampNeg), .int (Y.2.2.2.2.2.2.2.2.2.2.1 (nI i + (5 : Int32)).toNatClampNeg)]) (rest := [.long r]) (n := 5) E (fX9_rounds_c (Y.1, Y.2.2.2.2.2.2.2.2.2.2.2.1, Am Y.2.2.2.2.2.2.2.2.2.2.2.2.2, Y.2.2.2.2.2.2.2.2.2.2.2.2.2) μ (Y.2.2.2.2.2.2.2.2.2.2.1 (nI i + (1 : Int32)).toNatClampNeg) (Y.2.2.2.2.2.2.2.2.2.2.1 (nI i + (2 : Int32)).toNatClampNeg) (Y.2.2.2.2.2.2.2.2.2.2.1 (nI i + (3 : Int32)).toNatClampNeg) (Y.2.2.2.2.2.2.2.2.2.2.1 (nI i + (4 : Int32)).toNatClampNeg) (Y.2.2.2.2.2.2.2.2.2.2.1 (nI i + (5 : Int32)).toNatClampNeg) (r, μ') h2) gL_law_X9_rounds rfl rfl rfl (by decide +kernel) ⟨Nat.le_of_ble_eq_true rfl, Nat.le_of_ble_eq_true rfl⟩ rfl rfl (Nat.le_of_ble_eq_true rfl) dL_law_683 ?_
  refine y_lcmp E dL_law_686 ?_
  refine y_if_eqT (tgt := 1017) E (by simp [lg_cmp, Int64.lt_irrefl]) dL_law_687 (by decide) ?_
  exact nx σ' μ' h3
def Op_worth (Inv : St → St → Prop) : Prop := ∀ σ μ : St, Inv σ μ → ∀ (a1 : Int32) (a2 : Int32) (a3 : Int32), ∃ (r : Int64) (σ' μ' : St), fX8_worth σ a1 a2 a3 = some (r, σ') ∧ fX9_worth μ a1 a2 a3 = some (r, μ') ∧ Inv σ' μ'
set_option maxHeartbeats 4000000 in
set_option maxRecDepth 100000 in
theorem lcase_worth {Y : gY} (E : lE Y) {Inv : St → St → Prop} (h : Op_worth Inv) {σ μ : St} (hI : Inv σ μ) {i : Nat} (hi : i + 6 ≤ Y.2.2.2.2.2.2.2.2.2.1) (hL : Y.2.2.2.2.2.2.2.2.2.1 ≤ 3072) (nx : ∀ σ' μ', Inv σ' μ' → GL Y σ' μ' (lLv Y i) [] 1017) : GL Y σ μ (lLv Y i) [] 692 := by
  obtain ⟨r, σ', μ', h1, h2, h3⟩ := h σ μ hI (Y.2.2.2.2.2.2.2.2.2.2.1 (nI i + (1 : Int32)).toNatClampNeg) (Y.2.2.2.2.2.2.2.2.2.2.1 (nI i + (2 : Int32)).toNatClampNeg) (Y.2.2.2.2.2.2.2.2.2.2.1 (nI i + (3 : Int32)).toNatClampNeg)
  refine y_aload_n E 1 dL_law_692 rfl rfl ?_
  refine y_aload_n E 0 dL_law_693 rfl rfl ?_
  refine y_iload_n E 3 dL_law_694 rfl rfl ?_
  refine y_iconst (v := 1) E dL_law_695 (by decide) ?_
  refine y_iadd E dL_law_696 ?_
  refine y_sld E (scIn (k := 1) rfl (by omega) hL) dL_law_697 ?_
  refine y_aload_n E 0 dL_law_698 rfl rfl ?_
  refine y_iload_n E 3 dL_law_699 rfl rfl ?_
  refine y_iconst (v := 2) E dL_law_700 (by decide) ?_
  refine y_iadd E dL_law_701 ?_
  refine y_sld E (scIn (k := 2) rfl (by omega) hL) dL_law_702 ?_
  refine y_aload_n E 0 dL_law_703 rfl rfl ?_
  refine y_iload_n E 3 dL_law_704 rfl rfl ?_
  refine y_iconst (v := 3) E dL_law_705 (by decide) ?_
  refine y_iadd E dL_law_706 ?_
  refine y_sld E (scIn (k := 3) rfl (by omega) hL) dL_law_707 ?_
  refine y_callC (v := .long r) (As := [.int (Y.2.2.2.2.2.2.2.2.2.2.1 (nI i + (1 : Int32)).toNatClampNeg), .int (Y.2.2.2.2.2.2.2.2.2.2.1 (nI i + (2 : Int32)).toNatClampNeg), .int (Y.2.2.2.2.2.2.2.2.2.2.1 (nI i + (3 : Int32)).toNatClampNeg)]) (rest := []) (n := 3) E (fX8_worth_c (Y.1, Y.2.2.2.2.2.2.2.2.2.2.2.1, Ac Y.2.2.2.2.2.2.2.2.2.2.2.2.1, Y.2.2.2.2.2.2.2.2.2.2.2.2.1) σ (Y.2.2.2.2.2.2.2.2.2.2.1 (nI i + (1 : Int32)).toNatClampNeg) (Y.2.2.2.2.2.2.2.2.2.2.1 (nI i + (2 : Int32)).toNatClampNeg) (Y.2.2.2.2.2.2.2.2.2.2.1 (nI i + (3 : Int32)).toNatClampNeg) (r, σ') h1) gL_law_X8_worth rfl rfl rfl (by decide +kernel) ⟨Nat.le_of_ble_eq_true rfl, Nat.le_of_ble_eq_true rfl⟩ rfl rfl (Nat.le_of_ble_eq_true rfl) dL_law_708 ?_
  refine y_aload_n E 2 dL_law_711 rfl rfl ?_
  refine y_aload_n E 0 dL_law_712 rfl rfl ?_
  refine y_iload_n E 3 dL_law_713 rfl rfl ?_
  refine y_iconst (v := 1) E dL_law_714 (by decide) ?_
  refine y_iadd E dL_law_715 ?_
  refine y_sld E (scIn (k := 1) rfl (by omega) hL) dL_law_716 ?_
  refine y_aload_n E 0 dL_law_717 rfl rfl ?_
  refine y_iload_n E 3 dL_law_718 rfl rfl ?_
  refine y_iconst (v := 2) E dL_law_719 (by decide) ?_
  refine y_iadd E dL_law_720 ?_
  refine y_sld E (scIn (k := 2) rfl (by omega) hL) dL_law_721 ?_
  refine y_aload_n E 0 dL_law_722 rfl rfl ?_
  refine y_iload_n E 3 dL_law_723 rfl rfl ?_
  refine y_iconst (v := 3) E dL_law_724 (by decide) ?_
  refine y_iadd E dL_law_725 ?_
  refine y_sld E (scIn (k := 3) rfl (by omega) hL) dL_law_726 ?_
  refine y_callM (v := .long r) (As := [.int (Y.2.2.2.2.2.2.2.2.2.2.1 (nI i + (1 : Int32)).toNatClampNeg), .int (Y.2.2.2.2.2.2.2.2.2.2.1 (nI i + (2 : Int32)).toNatClampNeg), .int (Y.2.2.2.2.2.2.2.2.2.2.1 (nI i + (3 : Int32)).toNatClampNeg)]) (rest := [.long r]) (n := 3) E (fX9_worth_c (Y.1, Y.2.2.2.2.2.2.2.2.2.2.2.1, Am Y.2.2.2.2.2.2.2.2.2.2.2.2.2, Y.2.2.2.2.2.2.2.2.2.2.2.2.2) μ (Y.2.2.2.2.2.2.2.2.2.2.1 (nI i + (1 : Int32)).toNatClampNeg) (Y.2.2.2.2.2.2.2.2.2.2.1 (nI i + (2 : Int32)).toNatClampNeg) (Y.2.2.2.2.2.2.2.2.2.2.1 (nI i + (3 : Int32)).toNatClampNeg) (r, μ') h2) gL_law_X9_worth rfl rfl rfl (by decide +kernel) ⟨Nat.le_of_ble_eq_true rfl, Nat.le_of_ble_eq_true rfl⟩ rfl rfl (Nat.le_of_ble_eq_true rfl) dL_law_727 ?_
  refine y_lcmp E dL_law_730 ?_
  refine y_if_eqT (tgt := 1017) E (by simp [lg_cmp, Int64.lt_irrefl]) dL_law_731 (by decide) ?_
  exact nx σ' μ' h3
def Op_joined (Inv : St → St → Prop) : Prop := ∀ σ μ : St, Inv σ μ → ∀ (a1 : Int32), ∃ (r : Int32) (σ' μ' : St), fX8_joined σ a1 = some (r, σ') ∧ fX9_joined μ a1 = some (r, μ') ∧ Inv σ' μ'
set_option maxHeartbeats 4000000 in
set_option maxRecDepth 100000 in
theorem lcase_joined {Y : gY} (E : lE Y) {Inv : St → St → Prop} (h : Op_joined Inv) {σ μ : St} (hI : Inv σ μ) {i : Nat} (hi : i + 6 ≤ Y.2.2.2.2.2.2.2.2.2.1) (hL : Y.2.2.2.2.2.2.2.2.2.1 ≤ 3072) (nx : ∀ σ' μ', Inv σ' μ' → GL Y σ' μ' (lLv Y i) [] 1017) : GL Y σ μ (lLv Y i) [] 736 := by
  obtain ⟨r, σ', μ', h1, h2, h3⟩ := h σ μ hI (Y.2.2.2.2.2.2.2.2.2.2.1 (nI i + (1 : Int32)).toNatClampNeg)
  refine y_aload_n E 1 dL_law_736 rfl rfl ?_
  refine y_aload_n E 0 dL_law_737 rfl rfl ?_
  refine y_iload_n E 3 dL_law_738 rfl rfl ?_
  refine y_iconst (v := 1) E dL_law_739 (by decide) ?_
  refine y_iadd E dL_law_740 ?_
  refine y_sld E (scIn (k := 1) rfl (by omega) hL) dL_law_741 ?_
  refine y_callC (v := .int r) (As := [.int (Y.2.2.2.2.2.2.2.2.2.2.1 (nI i + (1 : Int32)).toNatClampNeg)]) (rest := []) (n := 1) E (fX8_joined_c (Y.1, Y.2.2.2.2.2.2.2.2.2.2.2.1, Ac Y.2.2.2.2.2.2.2.2.2.2.2.2.1, Y.2.2.2.2.2.2.2.2.2.2.2.2.1) σ (Y.2.2.2.2.2.2.2.2.2.2.1 (nI i + (1 : Int32)).toNatClampNeg) (r, σ') h1) gL_law_X8_joined rfl rfl rfl (by decide +kernel) ⟨Nat.le_of_ble_eq_true rfl, Nat.le_of_ble_eq_true rfl⟩ rfl rfl (Nat.le_of_ble_eq_true rfl) dL_law_742 ?_
  refine y_aload_n E 2 dL_law_745 rfl rfl ?_
  refine y_aload_n E 0 dL_law_746 rfl rfl ?_
  refine y_iload_n E 3 dL_law_747 rfl rfl ?_
  refine y_iconst (v := 1) E dL_law_748 (by decide) ?_
  refine y_iadd E dL_law_749 ?_
  refine y_sld E (scIn (k := 1) rfl (by omega) hL) dL_law_750 ?_
  refine y_callM (v := .int r) (As := [.int (Y.2.2.2.2.2.2.2.2.2.2.1 (nI i + (1 : Int32)).toNatClampNeg)]) (rest := [.int r]) (n := 1) E (fX9_joined_c (Y.1, Y.2.2.2.2.2.2.2.2.2.2.2.1, Am Y.2.2.2.2.2.2.2.2.2.2.2.2.2, Y.2.2.2.2.2.2.2.2.2.2.2.2.2) μ (Y.2.2.2.2.2.2.2.2.2.2.1 (nI i + (1 : Int32)).toNatClampNeg) (r, μ') h2) gL_law_X9_joined rfl rfl rfl (by decide +kernel) ⟨Nat.le_of_ble_eq_true rfl, Nat.le_of_ble_eq_true rfl⟩ rfl rfl (Nat.le_of_ble_eq_true rfl) dL_law_751 ?_
  refine y_icmp_eqT (tgt := 1017) E rfl dL_law_754 (by decide) ?_
  exact nx σ' μ' h3
def Op_parts (Inv : St → St → Prop) : Prop := ∀ σ μ : St, Inv σ μ → ∃ (r : Int32) (σ' μ' : St), fX8_parts σ = some (r, σ') ∧ fX9_parts μ = some (r, μ') ∧ Inv σ' μ'
set_option maxHeartbeats 4000000 in
set_option maxRecDepth 100000 in
theorem lcase_parts {Y : gY} (E : lE Y) {Inv : St → St → Prop} (h : Op_parts Inv) {σ μ : St} (hI : Inv σ μ) {i : Nat} (hi : i + 6 ≤ Y.2.2.2.2.2.2.2.2.2.1) (hL : Y.2.2.2.2.2.2.2.2.2.1 ≤ 3072) (nx : ∀ σ' μ', Inv σ' μ' → GL Y σ' μ' (lLv Y i) [] 1017) : GL Y σ μ (lLv Y i) [] 759 := by
  obtain ⟨r, σ', μ', h1, h2, h3⟩ := h σ μ hI 
  refine y_aload_n E 1 dL_law_759 rfl rfl ?_
  refine y_callC (v := .int r) (As := []) (rest := []) (n := 0) E (fX8_parts_c (Y.1, Y.2.2.2.2.2.2.2.2.2.2.2.1, Ac Y.2.2.2.2.2.2.2.2.2.2.2.2.1, Y.2.2.2.2.2.2.2.2.2.2.2.2.1) σ (r, σ') h1) gL_law_X8_parts rfl rfl rfl (by decide +kernel) ⟨Nat.le_of_ble_eq_true rfl, Nat.le_of_ble_eq_true rfl⟩ rfl rfl (Nat.le_of_ble_eq_true rfl) dL_law_760 ?_
  refine y_aload_n E 2 dL_law_763 rfl rfl ?_
  refine y_callM (v := .int r) (As := []) (rest := [.int r]) (n := 0) E (fX9_parts_c (Y.1, Y.2.2.2.2.2.2.2.2.2.2.2.1, Am Y.2.2.2.2.2.2.2.2.2.2.2.2.2, Y.2.2.2.2.2.2.2.2.2.2.2.2.2) μ (r, μ') h2) gL_law_X9_parts rfl rfl rfl (by decide +kernel) ⟨Nat.le_of_ble_eq_true rfl, Nat.le_of_ble_eq_true rfl⟩ rfl rfl (Nat.le_of_ble_eq_true rfl) dL_law_764 ?_
  refine y_icmp_eqT (tgt := 1017) E rfl dL_law_767 (by decide) ?_
  exact nx σ' μ' h3
def Op_harsh (Inv : St → St → Prop) : Prop := ∀ σ μ : St, Inv σ μ → ∀ (a1 : Int32) (a2 : Int32), ∃ (r : Int64) (σ' μ' : St), fX8_harsh σ a1 a2 = some (r, σ') ∧ fX9_harsh μ a1 a2 = some (r, μ') ∧ Inv σ' μ'
set_option maxHeartbeats 4000000 in
set_option maxRecDepth 100000 in
theorem lcase_harsh {Y : gY} (E : lE Y) {Inv : St → St → Prop} (h : Op_harsh Inv) {σ μ : St} (hI : Inv σ μ) {i : Nat} (hi : i + 6 ≤ Y.2.2.2.2.2.2.2.2.2.1) (hL : Y.2.2.2.2.2.2.2.2.2.1 ≤ 3072) (nx : ∀ σ' μ', Inv σ' μ' → GL Y σ' μ' (lLv Y i) [] 1017) : GL Y σ μ (lLv Y i) [] 772 := by
  obtain ⟨r, σ', μ', h1, h2, h3⟩ := h σ μ hI (Y.2.2.2.2.2.2.2.2.2.2.1 (nI i + (1 : Int32)).toNatClampNeg) (Y.2.2.2.2.2.2.2.2.2.2.1 (nI i + (2 : Int32)).toNatClampNeg)
  refine y_aload_n E 1 dL_law_772 rfl rfl ?_
  refine y_aload_n E 0 dL_law_773 rfl rfl ?_
  refine y_iload_n E 3 dL_law_774 rfl rfl ?_
  refine y_iconst (v := 1) E dL_law_775 (by decide) ?_
  refine y_iadd E dL_law_776 ?_
  refine y_sld E (scIn (k := 1) rfl (by omega) hL) dL_law_777 ?_
  refine y_aload_n E 0 dL_law_778 rfl rfl ?_
  refine y_iload_n E 3 dL_law_779 rfl rfl ?_
  refine y_iconst (v := 2) E dL_law_780 (by decide) ?_
  refine y_iadd E dL_law_781 ?_
  refine y_sld E (scIn (k := 2) rfl (by omega) hL) dL_law_782 ?_
  refine y_callC (v := .long r) (As := [.int (Y.2.2.2.2.2.2.2.2.2.2.1 (nI i + (1 : Int32)).toNatClampNeg), .int (Y.2.2.2.2.2.2.2.2.2.2.1 (nI i + (2 : Int32)).toNatClampNeg)]) (rest := []) (n := 2) E (fX8_harsh_c (Y.1, Y.2.2.2.2.2.2.2.2.2.2.2.1, Ac Y.2.2.2.2.2.2.2.2.2.2.2.2.1, Y.2.2.2.2.2.2.2.2.2.2.2.2.1) σ (Y.2.2.2.2.2.2.2.2.2.2.1 (nI i + (1 : Int32)).toNatClampNeg) (Y.2.2.2.2.2.2.2.2.2.2.1 (nI i + (2 : Int32)).toNatClampNeg) (r, σ') h1) gL_law_X8_harsh rfl rfl rfl (by decide +kernel) ⟨Nat.le_of_ble_eq_true rfl, Nat.le_of_ble_eq_true rfl⟩ rfl rfl (Nat.le_of_ble_eq_true rfl) dL_law_783 ?_
  refine y_aload_n E 2 dL_law_786 rfl rfl ?_
  refine y_aload_n E 0 dL_law_787 rfl rfl ?_
  refine y_iload_n E 3 dL_law_788 rfl rfl ?_
  refine y_iconst (v := 1) E dL_law_789 (by decide) ?_
  refine y_iadd E dL_law_790 ?_
  refine y_sld E (scIn (k := 1) rfl (by omega) hL) dL_law_791 ?_
  refine y_aload_n E 0 dL_law_792 rfl rfl ?_
  refine y_iload_n E 3 dL_law_793 rfl rfl ?_
  refine y_iconst (v := 2) E dL_law_794 (by decide) ?_
  refine y_iadd E dL_law_795 ?_
  refine y_sld E (scIn (k := 2) rfl (by omega) hL) dL_law_796 ?_
  refine y_callM (v := .long r) (As := [.int (Y.2.2.2.2.2.2.2.2.2.2.1 (nI i + (1 : Int32)).toNatClampNeg), .int (Y.2.2.2.2.2.2.2.2.2.2.1 (nI i + (2 : Int32)).toNatClampNeg)]) (rest := [.long r]) (n := 2) E (fX9_harsh_c (Y.1, Y.2.2.2.2.2.2.2.2.2.2.2.1, Am Y.2.2.2.2.2.2.2.2.2.2.2.2.2, Y.2.2.2.2.2.2.2.2.2.2.2.2.2) μ (Y.2.2.2.2.2.2.2.2.2.2.1 (nI i + (1 : Int32)).toNatClampNeg) (Y.2.2.2.2.2.2.2.2.2.2.1 (nI i + (2 : Int32)).toNatClampNeg) (r, μ') h2) gL_law_X9_harsh rfl rfl rfl (by decide +kernel) ⟨Nat.le_of_ble_eq_true rfl, Nat.le_of_ble_eq_true rfl⟩ rfl rfl (Nat.le_of_ble_eq_true rfl) dL_law_797 ?_
  refine y_lcmp E dL_law_800 ?_
  refine y_if_eqT (tgt := 1017) E (by simp [lg_cmp, Int64.lt_irrefl]) dL_law_801 (by decide) ?_
  exact nx σ' μ' h3
def Op_swap (Inv : St → St → Prop) : Prop := ∀ σ μ : St, Inv σ μ → ∀ (a1 : Int32), ∃ (r : Int32) (σ' μ' : St), fX8_swap σ a1 = some (r, σ') ∧ fX9_swap μ a1 = some (r, μ') ∧ Inv σ' μ'
set_option maxHeartbeats 4000000 in
set_option maxRecDepth 100000 in
theorem lcase_swap {Y : gY} (E : lE Y) {Inv : St → St → Prop} (h : Op_swap Inv) {σ μ : St} (hI : Inv σ μ) {i : Nat} (hi : i + 6 ≤ Y.2.2.2.2.2.2.2.2.2.1) (hL : Y.2.2.2.2.2.2.2.2.2.1 ≤ 3072) (nx : ∀ σ' μ', Inv σ' μ' → GL Y σ' μ' (lLv Y i) [] 1017) : GL Y σ μ (lLv Y i) [] 806 := by
  obtain ⟨r, σ', μ', h1, h2, h3⟩ := h σ μ hI (Y.2.2.2.2.2.2.2.2.2.2.1 (nI i + (1 : Int32)).toNatClampNeg)
  refine y_aload_n E 1 dL_law_806 rfl rfl ?_
  refine y_aload_n E 0 dL_law_807 rfl rfl ?_
  refine y_iload_n E 3 dL_law_808 rfl rfl ?_
  refine y_iconst (v := 1) E dL_law_809 (by decide) ?_
  refine y_iadd E dL_law_810 ?_
  refine y_sld E (scIn (k := 1) rfl (by omega) hL) dL_law_811 ?_
  refine y_callC (v := .int r) (As := [.int (Y.2.2.2.2.2.2.2.2.2.2.1 (nI i + (1 : Int32)).toNatClampNeg)]) (rest := []) (n := 1) E (fX8_swap_c (Y.1, Y.2.2.2.2.2.2.2.2.2.2.2.1, Ac Y.2.2.2.2.2.2.2.2.2.2.2.2.1, Y.2.2.2.2.2.2.2.2.2.2.2.2.1) σ (Y.2.2.2.2.2.2.2.2.2.2.1 (nI i + (1 : Int32)).toNatClampNeg) (r, σ') h1) gL_law_X8_swap rfl rfl rfl (by decide +kernel) ⟨Nat.le_of_ble_eq_true rfl, Nat.le_of_ble_eq_true rfl⟩ rfl rfl (Nat.le_of_ble_eq_true rfl) dL_law_812 ?_
  refine y_aload_n E 2 dL_law_815 rfl rfl ?_
  refine y_aload_n E 0 dL_law_816 rfl rfl ?_
  refine y_iload_n E 3 dL_law_817 rfl rfl ?_
  refine y_iconst (v := 1) E dL_law_818 (by decide) ?_
  refine y_iadd E dL_law_819 ?_
  refine y_sld E (scIn (k := 1) rfl (by omega) hL) dL_law_820 ?_
  refine y_callM (v := .int r) (As := [.int (Y.2.2.2.2.2.2.2.2.2.2.1 (nI i + (1 : Int32)).toNatClampNeg)]) (rest := [.int r]) (n := 1) E (fX9_swap_c (Y.1, Y.2.2.2.2.2.2.2.2.2.2.2.1, Am Y.2.2.2.2.2.2.2.2.2.2.2.2.2, Y.2.2.2.2.2.2.2.2.2.2.2.2.2) μ (Y.2.2.2.2.2.2.2.2.2.2.1 (nI i + (1 : Int32)).toNatClampNeg) (r, μ') h2) gL_law_X9_swap rfl rfl rfl (by decide +kernel) ⟨Nat.le_of_ble_eq_true rfl, Nat.le_of_ble_eq_true rfl⟩ rfl rfl (Nat.le_of_ble_eq_true rfl) dL_law_821 ?_
  refine y_icmp_eqT (tgt := 1017) E rfl dL_law_824 (by decide) ?_
  exact nx σ' μ' h3
def Op_ring (Inv : St → St → Prop) : Prop := ∀ σ μ : St, Inv σ μ → ∀ (a1 : Int32), ∃ (r : Int32) (σ' μ' : St), fX8_ring σ a1 = some (r, σ') ∧ fX9_ring μ a1 = some (r, μ') ∧ Inv σ' μ'
set_option maxHeartbeats 4000000 in
set_option maxRecDepth 100000 in
theorem lcase_ring {Y : gY} (E : lE Y) {Inv : St → St → Prop} (h : Op_ring Inv) {σ μ : St} (hI : Inv σ μ) {i : Nat} (hi : i + 6 ≤ Y.2.2.2.2.2.2.2.2.2.1) (hL : Y.2.2.2.2.2.2.2.2.2.1 ≤ 3072) (nx : ∀ σ' μ', Inv σ' μ' → GL Y σ' μ' (lLv Y i) [] 1017) : GL Y σ μ (lLv Y i) [] 829 := by
  obtain ⟨r, σ', μ', h1, h2, h3⟩ := h σ μ hI (Y.2.2.2.2.2.2.2.2.2.2.1 (nI i + (1 : Int32)).toNatClampNeg)
  refine y_aload_n E 1 dL_law_829 rfl rfl ?_
  refine y_aload_n E 0 dL_law_830 rfl rfl ?_
  refine y_iload_n E 3 dL_law_831 rfl rfl ?_
  refine y_iconst (v := 1) E dL_law_832 (by decide) ?_
  refine y_iadd E dL_law_833 ?_
  refine y_sld E (scIn (k := 1) rfl (by omega) hL) dL_law_834 ?_
  refine y_callC (v := .int r) (As := [.int (Y.2.2.2.2.2.2.2.2.2.2.1 (nI i + (1 : Int32)).toNatClampNeg)]) (rest := []) (n := 1) E (fX8_ring_c (Y.1, Y.2.2.2.2.2.2.2.2.2.2.2.1, Ac Y.2.2.2.2.2.2.2.2.2.2.2.2.1, Y.2.2.2.2.2.2.2.2.2.2.2.2.1) σ (Y.2.2.2.2.2.2.2.2.2.2.1 (nI i + (1 : Int32)).toNatClampNeg) (r, σ') h1) gL_law_X8_ring rfl rfl rfl (by decide +kernel) ⟨Nat.le_of_ble_eq_true rfl, Nat.le_of_ble_eq_true rfl⟩ rfl rfl (Nat.le_of_ble_eq_true rfl) dL_law_835 ?_
  refine y_aload_n E 2 dL_law_838 rfl rfl ?_
  refine y_aload_n E 0 dL_law_839 rfl rfl ?_
  refine y_iload_n E 3 dL_law_840 rfl rfl ?_
  refine y_iconst (v := 1) E dL_law_841 (by decide) ?_
  refine y_iadd E dL_law_842 ?_
  refine y_sld E (scIn (k := 1) rfl (by omega) hL) dL_law_843 ?_
  refine y_callM (v := .int r) (As := [.int (Y.2.2.2.2.2.2.2.2.2.2.1 (nI i + (1 : Int32)).toNatClampNeg)]) (rest := [.int r]) (n := 1) E (fX9_ring_c (Y.1, Y.2.2.2.2.2.2.2.2.2.2.2.1, Am Y.2.2.2.2.2.2.2.2.2.2.2.2.2, Y.2.2.2.2.2.2.2.2.2.2.2.2.2) μ (Y.2.2.2.2.2.2.2.2.2.2.1 (nI i + (1 : Int32)).toNatClampNeg) (r, μ') h2) gL_law_X9_ring rfl rfl rfl (by decide +kernel) ⟨Nat.le_of_ble_eq_true rfl, Nat.le_of_ble_eq_true rfl⟩ rfl rfl (Nat.le_of_ble_eq_true rfl) dL_law_844 ?_
  refine y_icmp_eqT (tgt := 1017) E rfl dL_law_847 (by decide) ?_
  exact nx σ' μ' h3
def Op_seen (Inv : St → St → Prop) : Prop := ∀ σ μ : St, Inv σ μ → ∀ (a1 : Int32) (a2 : Int32), ∃ (r : Int32) (σ' μ' : St), fX8_seen σ a1 a2 = some (r, σ') ∧ fX9_seen μ a1 a2 = some (r, μ') ∧ Inv σ' μ'
set_option maxHeartbeats 4000000 in
set_option maxRecDepth 100000 in
theorem lcase_seen {Y : gY} (E : lE Y) {Inv : St → St → Prop} (h : Op_seen Inv) {σ μ : St} (hI : Inv σ μ) {i : Nat} (hi : i + 6 ≤ Y.2.2.2.2.2.2.2.2.2.1) (hL : Y.2.2.2.2.2.2.2.2.2.1 ≤ 3072) (nx : ∀ σ' μ', Inv σ' μ' → GL Y σ' μ' (lLv Y i) [] 1017) : GL Y σ μ (lLv Y i) [] 852 := by
  obtain ⟨r, σ', μ', h1, h2, h3⟩ := h σ μ hI (Y.2.2.2.2.2.2.2.2.2.2.1 (nI i + (1 : Int32)).toNatClampNeg) (Y.2.2.2.2.2.2.2.2.2.2.1 (nI i + (2 : Int32)).toNatClampNeg)
  refine y_aload_n E 1 dL_law_852 rfl rfl ?_
  refine y_aload_n E 0 dL_law_853 rfl rfl ?_
  refine y_iload_n E 3 dL_law_854 rfl rfl ?_
  refine y_iconst (v := 1) E dL_law_855 (by decide) ?_
  refine y_iadd E dL_law_856 ?_
  refine y_sld E (scIn (k := 1) rfl (by omega) hL) dL_law_857 ?_
  refine y_aload_n E 0 dL_law_858 rfl rfl ?_
  refine y_iload_n E 3 dL_law_859 rfl rfl ?_
  refine y_iconst (v := 2) E dL_law_860 (by decide) ?_
  refine y_iadd E dL_law_861 ?_
  refine y_sld E (scIn (k := 2) rfl (by omega) hL) dL_law_862 ?_
  refine y_callC (v := .int r) (As := [.int (Y.2.2.2.2.2.2.2.2.2.2.1 (nI i + (1 : Int32)).toNatClampNeg), .int (Y.2.2.2.2.2.2.2.2.2.2.1 (nI i + (2 : Int32)).toNatClampNeg)]) (rest := []) (n := 2) E (fX8_seen_c (Y.1, Y.2.2.2.2.2.2.2.2.2.2.2.1, Ac Y.2.2.2.2.2.2.2.2.2.2.2.2.1, Y.2.2.2.2.2.2.2.2.2.2.2.2.1) σ (Y.2.2.2.2.2.2.2.2.2.2.1 (nI i + (1 : Int32)).toNatClampNeg) (Y.2.2.2.2.2.2.2.2.2.2.1 (nI i + (2 : Int32)).toNatClampNeg) (r, σ') h1) gL_law_X8_seen rfl rfl rfl (by decide +kernel) ⟨Nat.le_of_ble_eq_true rfl, Nat.le_of_ble_eq_true rfl⟩ rfl rfl (Nat.le_of_ble_eq_true rfl) dL_law_863 ?_
  refine y_aload_n E 2 dL_law_866 rfl rfl ?_
  refine y_aload_n E 0 dL_law_867 rfl rfl ?_
  refine y_iload_n E 3 dL_law_868 rfl rfl ?_
  refine y_iconst (v := 1) E dL_law_869 (by decide) ?_
  refine y_iadd E dL_law_870 ?_
  refine y_sld E (scIn (k := 1) rfl (by omega) hL) dL_law_871 ?_
  refine y_aload_n E 0 dL_law_872 rfl rfl ?_
  refine y_iload_n E 3 dL_law_873 rfl rfl ?_
  refine y_iconst (v := 2) E dL_law_874 (by decide) ?_
  refine y_iadd E dL_law_875 ?_
  refine y_sld E (scIn (k := 2) rfl (by omega) hL) dL_law_876 ?_
  refine y_callM (v := .int r) (As := [.int (Y.2.2.2.2.2.2.2.2.2.2.1 (nI i + (1 : Int32)).toNatClampNeg), .int (Y.2.2.2.2.2.2.2.2.2.2.1 (nI i + (2 : Int32)).toNatClampNeg)]) (rest := [.int r]) (n := 2) E (fX9_seen_c (Y.1, Y.2.2.2.2.2.2.2.2.2.2.2.1, Am Y.2.2.2.2.2.2.2.2.2.2.2.2.2, Y.2.2.2.2.2.2.2.2.2.2.2.2.2) μ (Y.2.2.2.2.2.2.2.2.2.2.1 (nI i + (1 : Int32)).toNatClampNeg) (Y.2.2.2.2.2.2.2.2.2.2.1 (nI i + (2 : Int32)).toNatClampNeg) (r, μ') h2) gL_law_X9_seen rfl rfl rfl (by decide +kernel) ⟨Nat.le_of_ble_eq_true rfl, Nat.le_of_ble_eq_true rfl⟩ rfl rfl (Nat.le_of_ble_eq_true rfl) dL_law_877 ?_
  refine y_icmp_eqT (tgt := 1017) E rfl dL_law_880 (by decide) ?_
  exact nx σ' μ' h3
def Op_bid (Inv : St → St → Prop) : Prop := ∀ σ μ : St, Inv σ μ → ∀ (a1 : Int32) (a2 : Int32) (a3 : Int32), ∃ (r : Int32) (σ' μ' : St), fX8_bid σ a1 a2 a3 = some (r, σ') ∧ fX9_bid μ a1 a2 a3 = some (r, μ') ∧ Inv σ' μ'
set_option maxHeartbeats 4000000 in
set_option maxRecDepth 100000 in
theorem lcase_bid {Y : gY} (E : lE Y) {Inv : St → St → Prop} (h : Op_bid Inv) {σ μ : St} (hI : Inv σ μ) {i : Nat} (hi : i + 6 ≤ Y.2.2.2.2.2.2.2.2.2.1) (hL : Y.2.2.2.2.2.2.2.2.2.1 ≤ 3072) (nx : ∀ σ' μ', Inv σ' μ' → GL Y σ' μ' (lLv Y i) [] 1017) : GL Y σ μ (lLv Y i) [] 885 := by
  obtain ⟨r, σ', μ', h1, h2, h3⟩ := h σ μ hI (Y.2.2.2.2.2.2.2.2.2.2.1 (nI i + (1 : Int32)).toNatClampNeg) (Y.2.2.2.2.2.2.2.2.2.2.1 (nI i + (2 : Int32)).toNatClampNeg) (Y.2.2.2.2.2.2.2.2.2.2.1 (nI i + (3 : Int32)).toNatClampNeg)
  refine y_aload_n E 1 dL_law_885 rfl rfl ?_
  refine y_aload_n E 0 dL_law_886 rfl rfl ?_
  refine y_iload_n E 3 dL_law_887 rfl rfl ?_
  refine y_iconst (v := 1) E dL_law_888 (by decide) ?_
  refine y_iadd E dL_law_889 ?_
  refine y_sld E (scIn (k := 1) rfl (by omega) hL) dL_law_890 ?_
  refine y_aload_n E 0 dL_law_891 rfl rfl ?_
  refine y_iload_n E 3 dL_law_892 rfl rfl ?_
  refine y_iconst (v := 2) E dL_law_893 (by decide) ?_
  refine y_iadd E dL_law_894 ?_
  refine y_sld E (scIn (k := 2) rfl (by omega) hL) dL_law_895 ?_
  refine y_aload_n E 0 dL_law_896 rfl rfl ?_
  refine y_iload_n E 3 dL_law_897 rfl rfl ?_
  refine y_iconst (v := 3) E dL_law_898 (by decide) ?_
  refine y_iadd E dL_law_899 ?_
  refine y_sld E (scIn (k := 3) rfl (by omega) hL) dL_law_900 ?_
  refine y_callC (v := .int r) (As := [.int (Y.2.2.2.2.2.2.2.2.2.2.1 (nI i + (1 : Int32)).toNatClampNeg), .int (Y.2.2.2.2.2.2.2.2.2.2.1 (nI i + (2 : Int32)).toNatClampNeg), .int (Y.2.2.2.2.2.2.2.2.2.2.1 (nI i + (3 : Int32)).toNatClampNeg)]) (rest := []) (n := 3) E (fX8_bid_c (Y.1, Y.2.2.2.2.2.2.2.2.2.2.2.1, Ac Y.2.2.2.2.2.2.2.2.2.2.2.2.1, Y.2.2.2.2.2.2.2.2.2.2.2.2.1) σ (Y.2.2.2.2.2.2.2.2.2.2.1 (nI i + (1 : Int32)).toNatClampNeg) (Y.2.2.2.2.2.2.2.2.2.2.1 (nI i + (2 : Int32)).toNatClampNeg) (Y.2.2.2.2.2.2.2.2.2.2.1 (nI i + (3 : Int32)).toNatClampNeg) (r, σ') h1) gL_law_X8_bid rfl rfl rfl (by decide +kernel) ⟨Nat.le_of_ble_eq_true rfl, Nat.le_of_ble_eq_true rfl⟩ rfl rfl (Nat.le_of_ble_eq_true rfl) dL_law_901 ?_
  refine y_aload_n E 2 dL_law_904 rfl rfl ?_
  refine y_aload_n E 0 dL_law_905 rfl rfl ?_
  refine y_iload_n E 3 dL_law_906 rfl rfl ?_
  refine y_iconst (v := 1) E dL_law_907 (by decide) ?_
  refine y_iadd E dL_law_908 ?_
  refine y_sld E (scIn (k := 1) rfl (by omega) hL) dL_law_909 ?_
  refine y_aload_n E 0 dL_law_910 rfl rfl ?_
  refine y_iload_n E 3 dL_law_911 rfl rfl ?_
  refine y_iconst (v := 2) E dL_law_912 (by decide) ?_
  refine y_iadd E dL_law_913 ?_
  refine y_sld E (scIn (k := 2) rfl (by omega) hL) dL_law_914 ?_
  refine y_aload_n E 0 dL_law_915 rfl rfl ?_
  refine y_iload_n E 3 dL_law_916 rfl rfl ?_
  refine y_iconst (v := 3) E dL_law_917 (by decide) ?_
  refine y_iadd E dL_law_918 ?_
  refine y_sld E (scIn (k := 3) rfl (by omega) hL) dL_law_919 ?_
  refine y_callM (v := .int r) (As := [.int (Y.2.2.2.2.2.2.2.2.2.2.1 (nI i + (1 : Int32)).toNatClampNeg), .int (Y.2.2.2.2.2.2.2.2.2.2.1 (nI i + (2 : Int32)).toNatClampNeg), .int (Y.2.2.2.2.2.2.2.2.2.2.1 (nI i + (3 : Int32)).toNatClampNeg)]) (rest := [.int r]) (n := 3) E (fX9_bid_c (Y.1, Y.2.2.2.2.2.2.2.2.2.2.2.1, Am Y.2.2.2.2.2.2.2.2.2.2.2.2.2, Y.2.2.2.2.2.2.2.2.2.2.2.2.2) μ (Y.2.2.2.2.2.2.2.2.2.2.1 (nI i + (1 : Int32)).toNatClampNeg) (Y.2.2.2.2.2.2.2.2.2.2.1 (nI i + (2 : Int32)).toNatClampNeg) (Y.2.2.2.2.2.2.2.2.2.2.1 (nI i + (3 : Int32)).toNatClampNeg) (r, μ') h2) gL_law_X9_bid rfl rfl rfl (by decide +kernel) ⟨Nat.le_of_ble_eq_true rfl, Nat.le_of_ble_eq_true rfl⟩ rfl rfl (Nat.le_of_ble_eq_true rfl) dL_law_920 ?_
  refine y_icmp_eqT (tgt := 1017) E rfl dL_law_923 (by decide) ?_
  exact nx σ' μ' h3
def Op_match (Inv : St → St → Prop) : Prop := ∀ σ μ : St, Inv σ μ → ∀ (a1 : Int32) (a2 : Int32) (a3 : Int32), ∃ (r : Int32) (σ' μ' : St), fX8_match σ a1 a2 a3 = some (r, σ') ∧ fX9_match μ a1 a2 a3 = some (r, μ') ∧ Inv σ' μ'
set_option maxHeartbeats 4000000 in
set_option maxRecDepth 100000 in
theorem lcase_match {Y : gY} (E : lE Y) {Inv : St → St → Prop} (h : Op_match Inv) {σ μ : St} (hI : Inv σ μ) {i : Nat} (hi : i + 6 ≤ Y.2.2.2.2.2.2.2.2.2.1) (hL : Y.2.2.2.2.2.2.2.2.2.1 ≤ 3072) (nx : ∀ σ' μ', Inv σ' μ' → GL Y σ' μ' (lLv Y i) [] 1017) : GL Y σ μ (lLv Y i) [] 928 := by
  obtain ⟨r, σ', μ', h1, h2, h3⟩ := h σ μ hI (Y.2.2.2.2.2.2.2.2.2.2.1 (nI i + (1 : Int32)).toNatClampNeg) (Y.2.2.2.2.2.2.2.2.2.2.1 (nI i + (2 : Int32)).toNatClampNeg) (Y.2.2.2.2.2.2.2.2.2.2.1 (nI i + (3 : Int32)).toNatClampNeg)
  refine y_aload_n E 1 dL_law_928 rfl rfl ?_
  refine y_aload_n E 0 dL_law_929 rfl rfl ?_
  refine y_iload_n E 3 dL_law_930 rfl rfl ?_
  refine y_iconst (v := 1) E dL_law_931 (by decide) ?_
  refine y_iadd E dL_law_932 ?_
  refine y_sld E (scIn (k := 1) rfl (by omega) hL) dL_law_933 ?_
  refine y_aload_n E 0 dL_law_934 rfl rfl ?_
  refine y_iload_n E 3 dL_law_935 rfl rfl ?_
  refine y_iconst (v := 2) E dL_law_936 (by decide) ?_
  refine y_iadd E dL_law_937 ?_
  refine y_sld E (scIn (k := 2) rfl (by omega) hL) dL_law_938 ?_
  refine y_aload_n E 0 dL_law_939 rfl rfl ?_
  refine y_iload_n E 3 dL_law_940 rfl rfl ?_
  refine y_iconst (v := 3) E dL_law_941 (by decide) ?_
  refine y_iadd E dL_law_942 ?_
  refine y_sld E (scIn (k := 3) rfl (by omega) hL) dL_law_943 ?_
  refine y_callC (v := .int r) (As := [.int (Y.2.2.2.2.2.2.2.2.2.2.1 (nI i + (1 : Int32)).toNatClampNeg), .int (Y.2.2.2.2.2.2.2.2.2.2.1 (nI i + (2 : Int32)).toNatClampNeg), .int (Y.2.2.2.2.2.2.2.2.2.2.1 (nI i + (3 : Int32)).toNatClampNeg)]) (rest := []) (n := 3) E (fX8_match_c (Y.1, Y.2.2.2.2.2.2.2.2.2.2.2.1, Ac Y.2.2.2.2.2.2.2.2.2.2.2.2.1, Y.2.2.2.2.2.2.2.2.2.2.2.2.1) σ (Y.2.2.2.2.2.2.2.2.2.2.1 (nI i + (1 : Int32)).toNatClampNeg) (Y.2.2.2.2.2.2.2.2.2.2.1 (nI i + (2 : Int32)).toNatClampNeg) (Y.2.2.2.2.2.2.2.2.2.2.1 (nI i + (3 : Int32)).toNatClampNeg) (r, σ') h1) gL_law_X8_match rfl rfl rfl (by decide +kernel) ⟨Nat.le_of_ble_eq_true rfl, Nat.le_of_ble_eq_true rfl⟩ rfl rfl (Nat.le_of_ble_eq_true rfl) dL_law_944 ?_
  refine y_aload_n E 2 dL_law_947 rfl rfl ?_
  refine y_aload_n E 0 dL_law_948 rfl rfl ?_
  refine y_iload_n E 3 dL_law_949 rfl rfl ?_
  refine y_iconst (v := 1) E dL_law_950 (by decide) ?_
  refine y_iadd E dL_law_951 ?_
  refine y_sld E (scIn (k := 1) rfl (by omega) hL) dL_law_952 ?_
  refine y_aload_n E 0 dL_law_953 rfl rfl ?_
  refine y_iload_n E 3 dL_law_954 rfl rfl ?_
  refine y_iconst (v := 2) E dL_law_955 (by decide) ?_
  refine y_iadd E dL_law_956 ?_
  refine y_sld E (scIn (k := 2) rfl (by omega) hL) dL_law_957 ?_
  refine y_aload_n E 0 dL_law_958 rfl rfl ?_
  refine y_iload_n E 3 dL_law_959 rfl rfl ?_
  refine y_iconst (v := 3) E dL_law_960 (by decide) ?_
  refine y_iadd E dL_law_961 ?_
  refine y_sld E (scIn (k := 3) rfl (by omega) hL) dL_law_962 ?_
  refine y_callM (v := .int r) (As := [.int (Y.2.2.2.2.2.2.2.2.2.2.1 (nI i + (1 : Int32)).toNatClampNeg), .int (Y.2.2.2.2.2.2.2.2.2.2.1 (nI i + (2 : Int32)).toNatClampNeg), .int (Y.2.2.2.2.2.2.2.2.2.2.1 (nI i + (3 : Int32)).toNatClampNeg)]) (rest := [.int r]) (n := 3) E (fX9_match_c (Y.1, Y.2.2.2.2.2.2.2.2.2.2.2.1, Am Y.2.2.2.2.2.2.2.2.2.2.2.2.2, Y.2.2.2.2.2.2.2.2.2.2.2.2.2) μ (Y.2.2.2.2.2.2.2.2.2.2.1 (nI i + (1 : Int32)).toNatClampNeg) (Y.2.2.2.2.2.2.2.2.2.2.1 (nI i + (2 : Int32)).toNatClampNeg) (Y.2.2.2.2.2.2.2.2.2.2.1 (nI i + (3 : Int32)).toNatClampNeg) (r, μ') h2) gL_law_X9_match rfl rfl rfl (by decide +kernel) ⟨Nat.le_of_ble_eq_true rfl, Nat.le_of_ble_eq_true rfl⟩ rfl rfl (Nat.le_of_ble_eq_true rfl) dL_law_963 ?_
  refine y_icmp_eqT (tgt := 1017) E rfl dL_law_966 (by decide) ?_
  exact nx σ' μ' h3
def Op_held (Inv : St → St → Prop) : Prop := ∀ σ μ : St, Inv σ μ → ∀ (a1 : Int32), ∃ (r : Int32) (σ' μ' : St), fX8_held σ a1 = some (r, σ') ∧ fX9_held μ a1 = some (r, μ') ∧ Inv σ' μ'
set_option maxHeartbeats 4000000 in
set_option maxRecDepth 100000 in
theorem lcase_held {Y : gY} (E : lE Y) {Inv : St → St → Prop} (h : Op_held Inv) {σ μ : St} (hI : Inv σ μ) {i : Nat} (hi : i + 6 ≤ Y.2.2.2.2.2.2.2.2.2.1) (hL : Y.2.2.2.2.2.2.2.2.2.1 ≤ 3072) (nx : ∀ σ' μ', Inv σ' μ' → GL Y σ' μ' (lLv Y i) [] 1017) : GL Y σ μ (lLv Y i) [] 971 := by
  obtain ⟨r, σ', μ', h1, h2, h3⟩ := h σ μ hI (Y.2.2.2.2.2.2.2.2.2.2.1 (nI i + (1 : Int32)).toNatClampNeg)
  refine y_aload_n E 1 dL_law_971 rfl rfl ?_
  refine y_aload_n E 0 dL_law_972 rfl rfl ?_
  refine y_iload_n E 3 dL_law_973 rfl rfl ?_
  refine y_iconst (v := 1) E dL_law_974 (by decide) ?_
  refine y_iadd E dL_law_975 ?_
  refine y_sld E (scIn (k := 1) rfl (by omega) hL) dL_law_976 ?_
  refine y_callC (v := .int r) (As := [.int (Y.2.2.2.2.2.2.2.2.2.2.1 (nI i + (1 : Int32)).toNatClampNeg)]) (rest := []) (n := 1) E (fX8_held_c (Y.1, Y.2.2.2.2.2.2.2.2.2.2.2.1, Ac Y.2.2.2.2.2.2.2.2.2.2.2.2.1, Y.2.2.2.2.2.2.2.2.2.2.2.2.1) σ (Y.2.2.2.2.2.2.2.2.2.2.1 (nI i + (1 : Int32)).toNatClampNeg) (r, σ') h1) gL_law_X8_held rfl rfl rfl (by decide +kernel) ⟨Nat.le_of_ble_eq_true rfl, Nat.le_of_ble_eq_true rfl⟩ rfl rfl (Nat.le_of_ble_eq_true rfl) dL_law_977 ?_
  refine y_aload_n E 2 dL_law_980 rfl rfl ?_
  refine y_aload_n E 0 dL_law_981 rfl rfl ?_
  refine y_iload_n E 3 dL_law_982 rfl rfl ?_
  refine y_iconst (v := 1) E dL_law_983 (by decide) ?_
  refine y_iadd E dL_law_984 ?_
  refine y_sld E (scIn (k := 1) rfl (by omega) hL) dL_law_985 ?_
  refine y_callM (v := .int r) (As := [.int (Y.2.2.2.2.2.2.2.2.2.2.1 (nI i + (1 : Int32)).toNatClampNeg)]) (rest := [.int r]) (n := 1) E (fX9_held_c (Y.1, Y.2.2.2.2.2.2.2.2.2.2.2.1, Am Y.2.2.2.2.2.2.2.2.2.2.2.2.2, Y.2.2.2.2.2.2.2.2.2.2.2.2.2) μ (Y.2.2.2.2.2.2.2.2.2.2.1 (nI i + (1 : Int32)).toNatClampNeg) (r, μ') h2) gL_law_X9_held rfl rfl rfl (by decide +kernel) ⟨Nat.le_of_ble_eq_true rfl, Nat.le_of_ble_eq_true rfl⟩ rfl rfl (Nat.le_of_ble_eq_true rfl) dL_law_986 ?_
  refine y_icmp_eqT (tgt := 1017) E rfl dL_law_989 (by decide) ?_
  exact nx σ' μ' h3
def Op_told (Inv : St → St → Prop) : Prop := ∀ σ μ : St, Inv σ μ → ∀ (a1 : Int32), ∃ (r : Int32) (σ' μ' : St), fX8_told σ a1 = some (r, σ') ∧ fX9_told μ a1 = some (r, μ') ∧ Inv σ' μ'
set_option maxHeartbeats 4000000 in
set_option maxRecDepth 100000 in
theorem lcase_told {Y : gY} (E : lE Y) {Inv : St → St → Prop} (h : Op_told Inv) {σ μ : St} (hI : Inv σ μ) {i : Nat} (hi : i + 6 ≤ Y.2.2.2.2.2.2.2.2.2.1) (hL : Y.2.2.2.2.2.2.2.2.2.1 ≤ 3072) (nx : ∀ σ' μ', Inv σ' μ' → GL Y σ' μ' (lLv Y i) [] 1017) : GL Y σ μ (lLv Y i) [] 994 := by
  obtain ⟨r, σ', μ', h1, h2, h3⟩ := h σ μ hI (Y.2.2.2.2.2.2.2.2.2.2.1 (nI i + (1 : Int32)).toNatClampNeg)
  refine y_aload_n E 1 dL_law_994 rfl rfl ?_
  refine y_aload_n E 0 dL_law_995 rfl rfl ?_
  refine y_iload_n E 3 dL_law_996 rfl rfl ?_
  refine y_iconst (v := 1) E dL_law_997 (by decide) ?_
  refine y_iadd E dL_law_998 ?_
  refine y_sld E (scIn (k := 1) rfl (by omega) hL) dL_law_999 ?_
  refine y_callC (v := .int r) (As := [.int (Y.2.2.2.2.2.2.2.2.2.2.1 (nI i + (1 : Int32)).toNatClampNeg)]) (rest := []) (n := 1) E (fX8_told_c (Y.1, Y.2.2.2.2.2.2.2.2.2.2.2.1, Ac Y.2.2.2.2.2.2.2.2.2.2.2.2.1, Y.2.2.2.2.2.2.2.2.2.2.2.2.1) σ (Y.2.2.2.2.2.2.2.2.2.2.1 (nI i + (1 : Int32)).toNatClampNeg) (r, σ') h1) gL_law_X8_told rfl rfl rfl (by decide +kernel) ⟨Nat.le_of_ble_eq_true rfl, Nat.le_of_ble_eq_true rfl⟩ rfl rfl (Nat.le_of_ble_eq_true rfl) dL_law_1000 ?_
  refine y_aload_n E 2 dL_law_1003 rfl rfl ?_
  refine y_aload_n E 0 dL_law_1004 rfl rfl ?_
  refine y_iload_n E 3 dL_law_1005 rfl rfl ?_
  refine y_iconst (v := 1) E dL_law_1006 (by decide) ?_
  refine y_iadd E dL_law_1007 ?_
  refine y_sld E (scIn (k := 1) rfl (by omega) hL) dL_law_1008 ?_
  refine y_callM (v := .int r) (As := [.int (Y.2.2.2.2.2.2.2.2.2.2.1 (nI i + (1 : Int32)).toNatClampNeg)]) (rest := [.int r]) (n := 1) E (fX9_told_c (Y.1, Y.2.2.2.2.2.2.2.2.2.2.2.1, Am Y.2.2.2.2.2.2.2.2.2.2.2.2.2, Y.2.2.2.2.2.2.2.2.2.2.2.2.2) μ (Y.2.2.2.2.2.2.2.2.2.2.1 (nI i + (1 : Int32)).toNatClampNeg) (r, μ') h2) gL_law_X9_told rfl rfl rfl (by decide +kernel) ⟨Nat.le_of_ble_eq_true rfl, Nat.le_of_ble_eq_true rfl⟩ rfl rfl (Nat.le_of_ble_eq_true rfl) dL_law_1009 ?_
  refine y_icmp_eqT (tgt := 1017) E rfl dL_law_1012 (by decide) ?_
  exact nx σ' μ' h3
def AllOps (Inv : St → St → Prop) : Prop := Op_judge Inv ∧ Op_paper Inv ∧ Op_tie Inv ∧ Op_mark Inv ∧ Op_set Inv ∧ Op_say Inv ∧ Op_wipe Inv ∧ Op_fault Inv ∧ Op_rule Inv ∧ Op_yes Inv ∧ Op_taken Inv ∧ Op_lot Inv ∧ Op_right Inv ∧ Op_more Inv ∧ Op_rounds Inv ∧ Op_worth Inv ∧ Op_joined Inv ∧ Op_parts Inv ∧ Op_harsh Inv ∧ Op_swap Inv ∧ Op_ring Inv ∧ Op_seen Inv ∧ Op_bid Inv ∧ Op_match Inv ∧ Op_held Inv ∧ Op_told Inv
set_option maxHeartbeats 4000000 in
set_option maxRecDepth 100000 in
theorem lswitch {Y : gY} (E : lE Y) {Inv : St → St → Prop} (hA : AllOps Inv) {σ μ : St} (hI : Inv σ μ) {i : Nat} {x : Int32} (hi : i + 6 ≤ Y.2.2.2.2.2.2.2.2.2.1) (hL : Y.2.2.2.2.2.2.2.2.2.1 ≤ 3072) (nxt : ∀ σ' μ', Inv σ' μ' → GL Y σ' μ' (lLv Y i) [] 1017) : GL Y σ μ (lLv Y i) [.int x] 33 := by
    obtain ⟨h_judge, h_paper, h_tie, h_mark, h_set, h_say, h_wipe, h_fault, h_rule, h_yes, h_taken, h_lot, h_right, h_more, h_rounds, h_worth, h_joined, h_parts, h_harsh, h_swap, h_ring, h_seen, h_bid, h_match, h_held, h_told⟩ := hA
    by_cases c0 : x = (0 : Int32)
    · refine y_tabIn (tgt := 152) (off := 119) E (0 : Int32) c0 dL_law_33 (by decide) (by decide) (by decide) (by decide) ?_
      exact lcase_judge E h_judge hI hi hL nxt
    by_cases c1 : x = (1 : Int32)
    · refine y_tabIn (tgt := 185) (off := 152) E (1 : Int32) c1 dL_law_33 (by decide) (by decide) (by decide) (by decide) ?_
      exact lcase_paper E h_paper hI hi hL nxt
    by_cases c2 : x = (2 : Int32)
    · refine y_tabIn (tgt := 218) (off := 185) E (2 : Int32) c2 dL_law_33 (by decide) (by decide) (by decide) (by decide) ?_
      exact lcase_tie E h_tie hI hi hL nxt
    by_cases c3 : x = (3 : Int32)
    · refine y_tabIn (tgt := 261) (off := 228) E (3 : Int32) c3 dL_law_33 (by decide) (by decide) (by decide) (by decide) ?_
      exact lcase_mark E h_mark hI hi hL nxt
    by_cases c4 : x = (4 : Int32)
    · refine y_tabIn (tgt := 304) (off := 271) E (4 : Int32) c4 dL_law_33 (by decide) (by decide) (by decide) (by decide) ?_
      exact lcase_set E h_set hI hi hL nxt
    by_cases c5 : x = (5 : Int32)
    · refine y_tabIn (tgt := 347) (off := 314) E (5 : Int32) c5 dL_law_33 (by decide) (by decide) (by decide) (by decide) ?_
      exact lcase_say E h_say hI hi hL nxt
    by_cases c6 : x = (6 : Int32)
    · refine y_tabIn (tgt := 370) (off := 337) E (6 : Int32) c6 dL_law_33 (by decide) (by decide) (by decide) (by decide) ?_
      exact lcase_wipe E h_wipe hI hi hL nxt
    by_cases c7 : x = (7 : Int32)
    · refine y_tabIn (tgt := 383) (off := 350) E (7 : Int32) c7 dL_law_33 (by decide) (by decide) (by decide) (by decide) ?_
      exact lcase_fault E h_fault hI hi hL nxt
    by_cases c8 : x = (8 : Int32)
    · refine y_tabIn (tgt := 396) (off := 363) E (8 : Int32) c8 dL_law_33 (by decide) (by decide) (by decide) (by decide) ?_
      exact lcase_rule E h_rule hI hi hL nxt
    by_cases c9 : x = (9 : Int32)
    · refine y_tabIn (tgt := 409) (off := 376) E (9 : Int32) c9 dL_law_33 (by decide) (by decide) (by decide) (by decide) ?_
      exact lcase_yes E h_yes hI hi hL nxt
    by_cases c10 : x = (10 : Int32)
    · refine y_tabIn (tgt := 432) (off := 399) E (10 : Int32) c10 dL_law_33 (by decide) (by decide) (by decide) (by decide) ?_
      exact lcase_taken E h_taken hI hi hL nxt
    by_cases c11 : x = (11 : Int32)
    · refine y_tabIn (tgt := 476) (off := 443) E (11 : Int32) c11 dL_law_33 (by decide) (by decide) (by decide) (by decide) ?_
      exact lcase_lot E h_lot hI hi hL nxt
    by_cases c12 : x = (12 : Int32)
    · refine y_tabIn (tgt := 530) (off := 497) E (12 : Int32) c12 dL_law_33 (by decide) (by decide) (by decide) (by decide) ?_
      exact lcase_right E h_right hI hi hL nxt
    by_cases c13 : x = (13 : Int32)
    · refine y_tabIn (tgt := 574) (off := 541) E (13 : Int32) c13 dL_law_33 (by decide) (by decide) (by decide) (by decide) ?_
      exact lcase_more E h_more hI hi hL nxt
    by_cases c14 : x = (14 : Int32)
    · refine y_tabIn (tgt := 628) (off := 595) E (14 : Int32) c14 dL_law_33 (by decide) (by decide) (by decide) (by decide) ?_
      exact lcase_rounds E h_rounds hI hi hL nxt
    by_cases c15 : x = (15 : Int32)
    · refine y_tabIn (tgt := 692) (off := 659) E (15 : Int32) c15 dL_law_33 (by decide) (by decide) (by decide) (by decide) ?_
      exact lcase_worth E h_worth hI hi hL nxt
    by_cases c16 : x = (16 : Int32)
    · refine y_tabIn (tgt := 736) (off := 703) E (16 : Int32) c16 dL_law_33 (by decide) (by decide) (by decide) (by decide) ?_
      exact lcase_joined E h_joined hI hi hL nxt
    by_cases c17 : x = (17 : Int32)
    · refine y_tabIn (tgt := 759) (off := 726) E (17 : Int32) c17 dL_law_33 (by decide) (by decide) (by decide) (by decide) ?_
      exact lcase_parts E h_parts hI hi hL nxt
    by_cases c18 : x = (18 : Int32)
    · refine y_tabIn (tgt := 772) (off := 739) E (18 : Int32) c18 dL_law_33 (by decide) (by decide) (by decide) (by decide) ?_
      exact lcase_harsh E h_harsh hI hi hL nxt
    by_cases c19 : x = (19 : Int32)
    · refine y_tabIn (tgt := 806) (off := 773) E (19 : Int32) c19 dL_law_33 (by decide) (by decide) (by decide) (by decide) ?_
      exact lcase_swap E h_swap hI hi hL nxt
    by_cases c20 : x = (20 : Int32)
    · refine y_tabIn (tgt := 829) (off := 796) E (20 : Int32) c20 dL_law_33 (by decide) (by decide) (by decide) (by decide) ?_
      exact lcase_ring E h_ring hI hi hL nxt
    by_cases c21 : x = (21 : Int32)
    · refine y_tabIn (tgt := 852) (off := 819) E (21 : Int32) c21 dL_law_33 (by decide) (by decide) (by decide) (by decide) ?_
      exact lcase_seen E h_seen hI hi hL nxt
    by_cases c22 : x = (22 : Int32)
    · refine y_tabIn (tgt := 885) (off := 852) E (22 : Int32) c22 dL_law_33 (by decide) (by decide) (by decide) (by decide) ?_
      exact lcase_bid E h_bid hI hi hL nxt
    by_cases c23 : x = (23 : Int32)
    · refine y_tabIn (tgt := 928) (off := 895) E (23 : Int32) c23 dL_law_33 (by decide) (by decide) (by decide) (by decide) ?_
      exact lcase_match E h_match hI hi hL nxt
    by_cases c24 : x = (24 : Int32)
    · refine y_tabIn (tgt := 971) (off := 938) E (24 : Int32) c24 dL_law_33 (by decide) (by decide) (by decide) (by decide) ?_
      exact lcase_held E h_held hI hi hL nxt
    by_cases c25 : x = (25 : Int32)
    · refine y_tabIn (tgt := 994) (off := 961) E (25 : Int32) c25 dL_law_33 (by decide) (by decide) (by decide) (by decide) ?_
      exact lcase_told E h_told hI hi hL nxt
    have hout : x.toInt < 0 ∨ 25 < x.toInt := by
      have e0 := lv_neT c0 (a := 0) rfl
      have e1 := lv_neT c1 (a := 1) rfl
      have e2 := lv_neT c2 (a := 2) rfl
      have e3 := lv_neT c3 (a := 3) rfl
      have e4 := lv_neT c4 (a := 4) rfl
      have e5 := lv_neT c5 (a := 5) rfl
      have e6 := lv_neT c6 (a := 6) rfl
      have e7 := lv_neT c7 (a := 7) rfl
      have e8 := lv_neT c8 (a := 8) rfl
      have e9 := lv_neT c9 (a := 9) rfl
      have e10 := lv_neT c10 (a := 10) rfl
      have e11 := lv_neT c11 (a := 11) rfl
      have e12 := lv_neT c12 (a := 12) rfl
      have e13 := lv_neT c13 (a := 13) rfl
      have e14 := lv_neT c14 (a := 14) rfl
      have e15 := lv_neT c15 (a := 15) rfl
      have e16 := lv_neT c16 (a := 16) rfl
      have e17 := lv_neT c17 (a := 17) rfl
      have e18 := lv_neT c18 (a := 18) rfl
      have e19 := lv_neT c19 (a := 19) rfl
      have e20 := lv_neT c20 (a := 20) rfl
      have e21 := lv_neT c21 (a := 21) rfl
      have e22 := lv_neT c22 (a := 22) rfl
      have e23 := lv_neT c23 (a := 23) rfl
      have e24 := lv_neT c24 (a := 24) rfl
      have e25 := lv_neT c25 (a := 25) rfl
      omega
    refine y_tabOut (tgt := 1017) E dL_law_33 hout (by decide) ?_
    exact nxt σ μ hI
set_option maxHeartbeats 4000000 in
set_option maxRecDepth 100000 in
theorem law_loop {Y : gY} (E : lE Y) {Inv : St → St → Prop} (hA : AllOps Inv) : ∀ (n i : Nat) (σ μ : St), i ≤ 3072 → Y.2.2.2.2.2.2.2.2.2.1 < i + 6 * n → Inv σ μ → GL Y σ μ (lLv Y i) [] 18 := by
  have hL : Y.2.2.2.2.2.2.2.2.2.1 ≤ 3072 := by
    obtain ⟨l, p, e, s, m, below, meth, c, b, L, xs, D, V1, V2⟩ := Y
    exact E.2.1
  intro n
  induction n with
  | zero =>
    intro i σ μ h1 h2 hI
    refine y_iload_n E 3 dL_law_18 rfl rfl ?_
    refine y_aload_n E 0 dL_law_19 rfl rfl ?_
    refine y_slen E dL_law_20 ?_
    refine y_bipush (v := 6) E dL_law_21 (by decide) ?_
    refine y_isub E dL_law_23 ?_
    refine y_icmp_gt (tgt := 1023) E dL_law_24 (by decide) (fun h => ?_) (fun h => ?_)
    · refine y_iconst (v := 1) E dL_law_1023 (by decide) ?_
      exact y_ret E dL_law_1024
    · refine absurd ?_ h
      have e1 := pk_sub_toInt (a := Y.2.2.2.2.2.2.2.2.2.1) (b := 6) (by omega) (by omega)
      have e2 := nI_toInt (n := i) (by omega)
      refine Int32.lt_iff_toInt_lt.mpr ?_
      show (nI _ - nI 6).toInt < (nI i).toInt
      omega
  | succ n ih =>
    intro i σ μ h1 h2 hI
    refine y_iload_n E 3 dL_law_18 rfl rfl ?_
    refine y_aload_n E 0 dL_law_19 rfl rfl ?_
    refine y_slen E dL_law_20 ?_
    refine y_bipush (v := 6) E dL_law_21 (by decide) ?_
    refine y_isub E dL_law_23 ?_
    refine y_icmp_gt (tgt := 1023) E dL_law_24 (by decide) (fun h => ?_) (fun h => ?_)
    · refine y_iconst (v := 1) E dL_law_1023 (by decide) ?_
      exact y_ret E dL_law_1024
    · have hi : i + 6 ≤ Y.2.2.2.2.2.2.2.2.2.1 := by
        have e1 := pk_sub_toInt (a := Y.2.2.2.2.2.2.2.2.2.1) (b := 6) (by omega) (by omega)
        have e2 := nI_toInt (n := i) (by omega)
        have h' : ¬ (nI Y.2.2.2.2.2.2.2.2.2.1 - nI 6).toInt < (nI i).toInt := fun q => h (Int32.lt_iff_toInt_lt.mpr q)
        omega
      refine y_aload_n E 0 dL_law_27 rfl rfl ?_
      refine y_iload_n E 3 dL_law_28 rfl rfl ?_
      refine y_sld E (vp_in_nI (by omega) (by omega)) dL_law_29 ?_
      refine y_bipush (v := 31) E dL_law_30 (by decide) ?_
      refine y_iand E dL_law_32 ?_
      refine lswitch E hA hI hi hL (fun σ' μ' hI' => ?_)
      refine y_iinc E 3 [(3, .int (nI (i + 6))), (0, .ref Y.2.2.2.2.2.2.2.2.1), (1, .ref (Y.2.2.2.2.2.2.2.2.2.2.2.2.1.1 0)), (2, .ref (Y.2.2.2.2.2.2.2.2.2.2.2.2.2.1 0))] (nI (i + 6)) dL_law_1017 rfl (nI_add i 6) (by decide) rfl ?_
      refine y_goto (tgt := 18) E dL_law_1020 (by decide) ?_
      exact y_sub [1, 2, 3, 0] rfl (ih (i + 6) σ' μ' (by omega) (by omega) hI')
