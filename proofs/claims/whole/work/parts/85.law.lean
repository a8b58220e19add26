/-! The law: its loop over the script. -/
def R_law : String := "PartedInksLaw"
def lw_P (b : Addr) (xs : List Int32) (args : Array Value) (s : State) : Prop := args = #[.ref b] ∧ s.IntsAt b xs ∧ xs.length ≤ 3072 ∧ (Jvm.Cond.and given_1 narrow_1).before args s = true
def lw_Q (_ : Array Value) (s : State) (o : Outcome) (t : State) : Prop := o = .returned (some (.int 1)) ∧ Framed s o t [] 600000 7302250
def lw_Z (below : List Frame) (a : Array Value) (s : State) : State → Prop := fun t => ∃ o, t.status = .running ∧ Ended t below o ∧ lw_Q a s o t
/-- the law's own end, with 1 on the stack, nothing written that was there before, its room as the claim has it -/
theorem lw_ret {p : Program} {l : Launch} {e : Env} {s : State} {m : MethodId} {below : List Frame} {meth : Method} {c : Code} {b : Nat} (hx : p.tables.exec = Jvm.exec) (hb : c.code = code) (hr : meth.sig.returnType = ret) (hlocks : meth.locks = false) {pc : Nat} {H : Heap} {ls : Array Slot} (hdg : decode code pc = .ok (.ireturn, 1)) : W p l e room_1 s m #[Value.ref b] below meth c H [] 600000 7302250 (lw_Z below #[Value.ref b] s) (F0 m pc ls [.int 1]) := by
  intro T hT X
  obtain ⟨fs, hret, hrun, hended, hW, hframe⟩ := X.leave (v := some (.int 1)) (hlocks := hlocks) (fun h => by rw [hr] at h; cases h)
  have hmeth' : T.vm.method? m = some meth := X.method'
  refine ⟨T.setFrames fs, ?_, .returned (some (.int 1)), hrun, hended, rfl, ⟨_, rfl⟩, hW, hframe⟩
  jvm_step X.here [X.here.top, hx, hb, hdg, hmeth', hr, ret, narrow_b1]
  (try refine ⟨rfl, ?_⟩); (try refine ⟨rfl, ?_⟩)
  first | (intro acts; rw [hret _ acts rfl rfl rfl]) | rw [hret _ _ rfl rfl rfl]
  exact Steps.refl _
/-- what holds at the law's entry: the machine, the code, the tables' words (any of lw_tbl by 'hts w (by decide +kernel)'), the script of L ints xs at the cell b, what the Statement gives of the start (any of its parts by flat_of_before) -/
def lw_At (p : Program) (s : State) (m : MethodId) (meth : Method) (c : Code) (b L : Nat) (xs : Nat → Int32) : Prop :=
  p.tables.exec = Jvm.exec ∧ c.code = code ∧ meth.sig.returnType = ret ∧ c.maxLocals = 4 ∧ s.vm.findClass R_law = some m.cls ∧ (∀ w ∈ lw_tbl, w.before #[Value.ref b] s = true) ∧ va_X b L xs s s.heap ∧ b < s.heap.size ∧ meth.locks = false ∧ (Jvm.Cond.and given_1 narrow_1).before #[Value.ref b] s = true
def lw_k (b : Nat) : pk_K := (RL, 4, ret, false, room_1, #[Value.ref b], fun below s => lw_Z below #[Value.ref b] s)
def lw_J (L : Nat) (xs : Nat → Int32) (N : pk_M) (X : pk_X) : Prop := pk_RC L N X ∧ pk_RM L N X ∧ pk_okX X ∧ ∀ j, pk_I N 0 j = xs j
theorem lw_J.x1 {L : Nat} {xs : Nat → Int32} {N N1 : pk_M} {X : pk_X} (J : lw_J L xs N X) (f : pk_cf N N1) : ∀ j, pk_I N1 0 j = xs j := fun j => (congrFun (f.2.2 0 (by omega)).1 j).trans (J.2.2.2 j)
theorem lw_J.to {L : Nat} {xs : Nat → Int32} {N N1 N2 : pk_M} {X X' : pk_X} (J : lw_J L xs N X) (f : pk_cf N N1) (c : pk_RC L N1 X') (g : pk_mf N1 N2) (m : pk_RM L N2 X') (ok : pk_okX X') : lw_J L xs N2 X' := ⟨c.mf g, m, ok, fun j => (congrFun (g.2.2 0 (by omega)).1 j).trans (J.x1 f j)⟩
theorem lw_ald {Γ : pk_T} {κ : pk_K} {cc : ByteArray} {M : pk_M} {ls : List (Option Value)} {st : List Value} {pc cu su q N i : Nat} {x : Int32} (hd : decode cc pc = .ok (.iaload, 1)) (hs : pk_S M q = some (.inl (.int, N))) (hi : i < N) (hN : N < 2 ^ 31) (hv : pk_I M q i = x) (k : pk_G Γ κ cc M ls (.int x :: st) (pc + 1) cu su) : pk_G Γ κ cc M ls (.int (nI i) :: .ref q :: st) pc cu su := pk_aldR hd hs hi hN (by rw [hv]; exact k)
theorem lw_lt {L i : Nat} (hL : L ≤ 3072) (hi : i ≤ L) (h : ¬ nI L - nI 6 < nI i) : i + 6 ≤ L := by
  rw [Int32.lt_iff_toInt_lt, Int32.toInt_sub, nI_toInt (by omega), nI_toInt (by omega), nI_toInt (by omega)] at h
  simp only [Int.bmod] at h
  omega

set_option maxRecDepth 100000 in
set_option maxHeartbeats 4000000 in
theorem lw_c_0 {Γ : pk_T} {b L i : Nat} {xs : Nat → Int32} {N : pk_M} {X : pk_X} (hL : L ≤ 3072) (hi : i + 6 ≤ L) (J : lw_J L xs N X) (K : ∀ N' X', lw_J L xs N' X' → pk_G Γ (lw_k b) cL_law N' [some (.ref 0), some (.ref 5), some (.ref 103), some (.int (nI i))] [] 1097 113 2958) : pk_G Γ (lw_k b) cL_law N [some (.ref 0), some (.ref 5), some (.ref 103), some (.int (nI i))] [] 156 113 2958 := by
  have hW := J.1.1
  have hx := J.2.2.2
  refine pk_aload_n dL_law_156 rfl ?_
  refine pk_aload_n dL_law_157 rfl ?_
  refine pk_iload_n dL_law_158 rfl ?_
  refine pk_iconst (v := nI 1) dL_law_159 (by decide) ?_
  first | refine pk_addN dL_law_160 ?_ | refine pk_iadd dL_law_160 ?_
  refine lw_ald dL_law_161 (hW.s rfl) (by omega) (by omega) (hx _) ?_
  refine pk_aload_n dL_law_162 rfl ?_
  refine pk_iload_n dL_law_163 rfl ?_
  refine pk_iconst (v := nI 2) dL_law_164 (by decide) ?_
  first | refine pk_addN dL_law_165 ?_ | refine pk_iadd dL_law_165 ?_
  refine lw_ald dL_law_166 (hW.s rfl) (by omega) (by omega) (hx _) ?_
  refine pk_Vir dL_law_167 ml_L_13 yw_X6_ink yv_X6_ink (hW.s rfl) (e_X6_ink J.1 J.2.2.1 _ _) rfl rfl rfl rfl rfl rfl rfl (fun N1 h1 => ?_)
  have hx := J.x1 h1.1
  have hW := h1.2.1
  have hm := pk_RM.cf h1.1 J.2.1
  refine pk_aload_n dL_law_170 rfl ?_
  refine pk_aload_n dL_law_171 rfl ?_
  refine pk_iload_n dL_law_172 rfl ?_
  refine pk_iconst (v := nI 1) dL_law_173 (by decide) ?_
  first | refine pk_addN dL_law_174 ?_ | refine pk_iadd dL_law_174 ?_
  refine lw_ald dL_law_175 (hW.s rfl) (by omega) (by omega) (hx _) ?_
  refine pk_aload_n dL_law_176 rfl ?_
  refine pk_iload_n dL_law_177 rfl ?_
  refine pk_iconst (v := nI 2) dL_law_178 (by decide) ?_
  first | refine pk_addN dL_law_179 ?_ | refine pk_iadd dL_law_179 ?_
  refine lw_ald dL_law_180 (hW.s rfl) (by omega) (by omega) (hx _) ?_
  refine pk_Vir dL_law_181 ml_L_17 yw_X7_ink yv_X7_ink (hW.s rfl) (e_X7_ink hm J.2.2.1 _ _) rfl rfl rfl rfl rfl rfl rfl (fun N2 h2 => ?_)
  skip
  refine pk_icmp_eq (tgt := 1097) dL_law_184 (by decide) (fun c_184 => ?_) (fun c_184 => ?_)
  · exact K _ _ (J.to h1.1 h1.2 h2.1 h2.2 J.2.2.1)
  · exact absurd rfl c_184

set_option maxRecDepth 100000 in
set_option maxHeartbeats 4000000 in
theorem lw_c_1 {Γ : pk_T} {b L i : Nat} {xs : Nat → Int32} {N : pk_M} {X : pk_X} (hL : L ≤ 3072) (hi : i + 6 ≤ L) (J : lw_J L xs N X) (K : ∀ N' X', lw_J L xs N' X' → pk_G Γ (lw_k b) cL_law N' [some (.ref 0), some (.ref 5), some (.ref 103), some (.int (nI i))] [] 1097 113 2958) : pk_G Γ (lw_k b) cL_law N [some (.ref 0), some (.ref 5), some (.ref 103), some (.int (nI i))] [] 189 113 2958 := by
  have hW := J.1.1
  have hx := J.2.2.2
  refine pk_aload_n dL_law_189 rfl ?_
  refine pk_aload_n dL_law_190 rfl ?_
  refine pk_iload_n dL_law_191 rfl ?_
  refine pk_iconst (v := nI 1) dL_law_192 (by decide) ?_
  first | refine pk_addN dL_law_193 ?_ | refine pk_iadd dL_law_193 ?_
  refine lw_ald dL_law_194 (hW.s rfl) (by omega) (by omega) (hx _) ?_
  refine pk_aload_n dL_law_195 rfl ?_
  refine pk_iload_n dL_law_196 rfl ?_
  refine pk_iconst (v := nI 2) dL_law_197 (by decide) ?_
  first | refine pk_addN dL_law_198 ?_ | refine pk_iadd dL_law_198 ?_
  refine lw_ald dL_law_199 (hW.s rfl) (by omega) (by omega) (hx _) ?_
  refine pk_Vir dL_law_200 ml_L_18 yw_X6_set yv_X6_set (hW.s rfl) (e_X6_set J.1 J.2.2.1 _ _) rfl rfl rfl rfl rfl rfl rfl (fun N1 h1 => ?_)
  have hx := J.x1 h1.1
  have hW := h1.2.1
  have hm := pk_RM.cf h1.1 J.2.1
  refine pk_aload_n dL_law_203 rfl ?_
  refine pk_aload_n dL_law_204 rfl ?_
  refine pk_iload_n dL_law_205 rfl ?_
  refine pk_iconst (v := nI 1) dL_law_206 (by decide) ?_
  first | refine pk_addN dL_law_207 ?_ | refine pk_iadd dL_law_207 ?_
  refine lw_ald dL_law_208 (hW.s rfl) (by omega) (by omega) (hx _) ?_
  refine pk_aload_n dL_law_209 rfl ?_
  refine pk_iload_n dL_law_210 rfl ?_
  refine pk_iconst (v := nI 2) dL_law_211 (by decide) ?_
  first | refine pk_addN dL_law_212 ?_ | refine pk_iadd dL_law_212 ?_
  refine lw_ald dL_law_213 (hW.s rfl) (by omega) (by omega) (hx _) ?_
  refine pk_Vir dL_law_214 ml_L_21 yw_X7_set yv_X7_set (hW.s rfl) (e_X7_set hm J.2.2.1 _ _) rfl rfl rfl rfl rfl rfl rfl (fun N2 h2 => ?_)
  skip
  refine pk_icmp_eq (tgt := 1097) dL_law_217 (by decide) (fun c_217 => ?_) (fun c_217 => ?_)
  · exact K _ _ (J.to h1.1 h1.2 h2.1 h2.2 J.2.2.1)
  · exact absurd rfl c_217

set_option maxRecDepth 100000 in
set_option maxHeartbeats 4000000 in
theorem lw_c_2 {Γ : pk_T} {b L i : Nat} {xs : Nat → Int32} {N : pk_M} {X : pk_X} (hL : L ≤ 3072) (hi : i + 6 ≤ L) (J : lw_J L xs N X) (K : ∀ N' X', lw_J L xs N' X' → pk_G Γ (lw_k b) cL_law N' [some (.ref 0), some (.ref 5), some (.ref 103), some (.int (nI i))] [] 1097 113 2958) : pk_G Γ (lw_k b) cL_law N [some (.ref 0), some (.ref 5), some (.ref 103), some (.int (nI i))] [] 222 113 2958 := by
  have hW := J.1.1
  have hx := J.2.2.2
  refine pk_aload_n dL_law_222 rfl ?_
  refine pk_aload_n dL_law_223 rfl ?_
  refine pk_iload_n dL_law_224 rfl ?_
  refine pk_iconst (v := nI 1) dL_law_225 (by decide) ?_
  first | refine pk_addN dL_law_226 ?_ | refine pk_iadd dL_law_226 ?_
  refine lw_ald dL_law_227 (hW.s rfl) (by omega) (by omega) (hx _) ?_
  refine pk_aload_n dL_law_228 rfl ?_
  refine pk_iload_n dL_law_229 rfl ?_
  refine pk_iconst (v := nI 2) dL_law_230 (by decide) ?_
  first | refine pk_addN dL_law_231 ?_ | refine pk_iadd dL_law_231 ?_
  refine lw_ald dL_law_232 (hW.s rfl) (by omega) (by omega) (hx _) ?_
  refine pk_aload_n dL_law_233 rfl ?_
  refine pk_iload_n dL_law_234 rfl ?_
  refine pk_iconst (v := nI 3) dL_law_235 (by decide) ?_
  first | refine pk_addN dL_law_236 ?_ | refine pk_iadd dL_law_236 ?_
  refine lw_ald dL_law_237 (hW.s rfl) (by omega) (by omega) (hx _) ?_
  refine pk_Vir dL_law_238 ml_L_22 yw_X6_place yv_X6_place (hW.s rfl) (e_X6_place J.1 J.2.2.1 _ _ _) rfl rfl rfl rfl rfl rfl rfl (fun N1 h1 => ?_)
  have hx := J.x1 h1.1
  have hW := h1.2.1
  have hm := pk_RM.cf h1.1 J.2.1
  refine pk_aload_n dL_law_241 rfl ?_
  refine pk_aload_n dL_law_242 rfl ?_
  refine pk_iload_n dL_law_243 rfl ?_
  refine pk_iconst (v := nI 1) dL_law_244 (by decide) ?_
  first | refine pk_addN dL_law_245 ?_ | refine pk_iadd dL_law_245 ?_
  refine lw_ald dL_law_246 (hW.s rfl) (by omega) (by omega) (hx _) ?_
  refine pk_aload_n dL_law_247 rfl ?_
  refine pk_iload_n dL_law_248 rfl ?_
  refine pk_iconst (v := nI 2) dL_law_249 (by decide) ?_
  first | refine pk_addN dL_law_250 ?_ | refine pk_iadd dL_law_250 ?_
  refine lw_ald dL_law_251 (hW.s rfl) (by omega) (by omega) (hx _) ?_
  refine pk_aload_n dL_law_252 rfl ?_
  refine pk_iload_n dL_law_253 rfl ?_
  refine pk_iconst (v := nI 3) dL_law_254 (by decide) ?_
  first | refine pk_addN dL_law_255 ?_ | refine pk_iadd dL_law_255 ?_
  refine lw_ald dL_law_256 (hW.s rfl) (by omega) (by omega) (hx _) ?_
  refine pk_Vir dL_law_257 ml_L_26 yw_X7_place yv_X7_place (hW.s rfl) (e_X7_place hm J.2.2.1 _ _ _) rfl rfl rfl rfl rfl rfl rfl (fun N2 h2 => ?_)
  skip
  refine pk_icmp_eq (tgt := 1097) dL_law_260 (by decide) (fun c_260 => ?_) (fun c_260 => ?_)
  · exact K _ _ (J.to h1.1 h1.2 h2.1 h2.2 J.2.2.1)
  · exact absurd rfl c_260

set_option maxRecDepth 100000 in
set_option maxHeartbeats 4000000 in
theorem lw_c_3 {Γ : pk_T} {b L i : Nat} {xs : Nat → Int32} {N : pk_M} {X : pk_X} (hL : L ≤ 3072) (hi : i + 6 ≤ L) (J : lw_J L xs N X) (K : ∀ N' X', lw_J L xs N' X' → pk_G Γ (lw_k b) cL_law N' [some (.ref 0), some (.ref 5), some (.ref 103), some (.int (nI i))] [] 1097 113 2958) : pk_G Γ (lw_k b) cL_law N [some (.ref 0), some (.ref 5), some (.ref 103), some (.int (nI i))] [] 265 113 2958 := by
  have hW := J.1.1
  have hx := J.2.2.2
  refine pk_aload_n dL_law_265 rfl ?_
  refine pk_aload_n dL_law_266 rfl ?_
  refine pk_iload_n dL_law_267 rfl ?_
  refine pk_iconst (v := nI 1) dL_law_268 (by decide) ?_
  first | refine pk_addN dL_law_269 ?_ | refine pk_iadd dL_law_269 ?_
  refine lw_ald dL_law_270 (hW.s rfl) (by omega) (by omega) (hx _) ?_
  refine pk_aload_n dL_law_271 rfl ?_
  refine pk_iload_n dL_law_272 rfl ?_
  refine pk_iconst (v := nI 2) dL_law_273 (by decide) ?_
  first | refine pk_addN dL_law_274 ?_ | refine pk_iadd dL_law_274 ?_
  refine lw_ald dL_law_275 (hW.s rfl) (by omega) (by omega) (hx _) ?_
  refine pk_Vir dL_law_276 ml_L_27 yw_X6_area yv_X6_area (hW.s rfl) (e_X6_area J.1 J.2.2.1 _ _) rfl rfl rfl rfl rfl rfl rfl (fun N1 h1 => ?_)
  have hx := J.x1 h1.1
  have hW := h1.2.1
  have hm := pk_RM.cf h1.1 J.2.1
  refine pk_aload_n dL_law_279 rfl ?_
  refine pk_aload_n dL_law_280 rfl ?_
  refine pk_iload_n dL_law_281 rfl ?_
  refine pk_iconst (v := nI 1) dL_law_282 (by decide) ?_
  first | refine pk_addN dL_law_283 ?_ | refine pk_iadd dL_law_283 ?_
  refine lw_ald dL_law_284 (hW.s rfl) (by omega) (by omega) (hx _) ?_
  refine pk_aload_n dL_law_285 rfl ?_
  refine pk_iload_n dL_law_286 rfl ?_
  refine pk_iconst (v := nI 2) dL_law_287 (by decide) ?_
  first | refine pk_addN dL_law_288 ?_ | refine pk_iadd dL_law_288 ?_
  refine lw_ald dL_law_289 (hW.s rfl) (by omega) (by omega) (hx _) ?_
  refine pk_Vir dL_law_290 ml_L_30 yw_X7_area yv_X7_area (hW.s rfl) (e_X7_area hm J.2.2.1 _ _) rfl rfl rfl rfl rfl rfl rfl (fun N2 h2 => ?_)
  skip
  refine pk_icmp_eq (tgt := 1097) dL_law_293 (by decide) (fun c_293 => ?_) (fun c_293 => ?_)
  · exact K _ _ (J.to h1.1 h1.2 h2.1 h2.2 J.2.2.1)
  · exact absurd rfl c_293

set_option maxRecDepth 100000 in
set_option maxHeartbeats 4000000 in
theorem lw_c_4 {Γ : pk_T} {b L i : Nat} {xs : Nat → Int32} {N : pk_M} {X : pk_X} (hL : L ≤ 3072) (hi : i + 6 ≤ L) (J : lw_J L xs N X) (K : ∀ N' X', lw_J L xs N' X' → pk_G Γ (lw_k b) cL_law N' [some (.ref 0), some (.ref 5), some (.ref 103), some (.int (nI i))] [] 1097 113 2958) : pk_G Γ (lw_k b) cL_law N [some (.ref 0), some (.ref 5), some (.ref 103), some (.int (nI i))] [] 298 113 2958 := by
  have hW := J.1.1
  have hx := J.2.2.2
  refine pk_aload_n dL_law_298 rfl ?_
  refine pk_aload_n dL_law_299 rfl ?_
  refine pk_iload_n dL_law_300 rfl ?_
  refine pk_iconst (v := nI 1) dL_law_301 (by decide) ?_
  first | refine pk_addN dL_law_302 ?_ | refine pk_iadd dL_law_302 ?_
  refine lw_ald dL_law_303 (hW.s rfl) (by omega) (by omega) (hx _) ?_
  refine pk_Vir dL_law_304 ml_L_31 yw_X6_type yv_X6_type (hW.s rfl) (e_X6_type J.1 J.2.2.1 _) rfl rfl rfl rfl rfl rfl rfl (fun N1 h1 => ?_)
  have hx := J.x1 h1.1
  have hW := h1.2.1
  have hm := pk_RM.cf h1.1 J.2.1
  refine pk_aload_n dL_law_307 rfl ?_
  refine pk_aload_n dL_law_308 rfl ?_
  refine pk_iload_n dL_law_309 rfl ?_
  refine pk_iconst (v := nI 1) dL_law_310 (by decide) ?_
  first | refine pk_addN dL_law_311 ?_ | refine pk_iadd dL_law_311 ?_
  refine lw_ald dL_law_312 (hW.s rfl) (by omega) (by omega) (hx _) ?_
  refine pk_Vir dL_law_313 ml_L_35 yw_X7_type yv_X7_type (hW.s rfl) (e_X7_type hm J.2.2.1 _) rfl rfl rfl rfl rfl rfl rfl (fun N2 h2 => ?_)
  skip
  refine pk_icmp_eq (tgt := 1097) dL_law_316 (by decide) (fun c_316 => ?_) (fun c_316 => ?_)
  · exact K _ _ (J.to h1.1 h1.2 h2.1 h2.2 (ok_type J.2.2.1 _))
  · exact absurd rfl c_316

set_option maxRecDepth 100000 in
set_option maxHeartbeats 4000000 in
theorem lw_c_5 {Γ : pk_T} {b L i : Nat} {xs : Nat → Int32} {N : pk_M} {X : pk_X} (hL : L ≤ 3072) (hi : i + 6 ≤ L) (J : lw_J L xs N X) (K : ∀ N' X', lw_J L xs N' X' → pk_G Γ (lw_k b) cL_law N' [some (.ref 0), some (.ref 5), some (.ref 103), some (.int (nI i))] [] 1097 113 2958) : pk_G Γ (lw_k b) cL_law N [some (.ref 0), some (.ref 5), some (.ref 103), some (.int (nI i))] [] 321 113 2958 := by
  have hW := J.1.1
  have hx := J.2.2.2
  refine pk_aload_n dL_law_321 rfl ?_
  refine pk_Vir dL_law_322 ml_L_36 yw_X6_draw yv_X6_draw (hW.s rfl) (e_X6_draw J.1 J.2.2.1) rfl rfl rfl rfl rfl rfl rfl (fun N1 h1 => ?_)
  have hx := J.x1 h1.1
  have hW := h1.2.1
  have hm := pk_RM.cf h1.1 J.2.1
  refine pk_aload_n dL_law_325 rfl ?_
  refine pk_Vir dL_law_326 ml_L_40 yw_X7_draw yv_X7_draw (hW.s rfl) (e_X7_draw hm J.2.2.1) rfl rfl rfl rfl rfl rfl rfl (fun N2 h2 => ?_)
  skip
  refine pk_icmp_eq (tgt := 1097) dL_law_329 (by decide) (fun c_329 => ?_) (fun c_329 => ?_)
  · exact K _ _ (J.to h1.1 h1.2 h2.1 h2.2 (ok_draw J.2.2.1))
  · exact absurd rfl c_329

set_option maxRecDepth 100000 in
set_option maxHeartbeats 4000000 in
theorem lw_c_6 {Γ : pk_T} {b L i : Nat} {xs : Nat → Int32} {N : pk_M} {X : pk_X} (hL : L ≤ 3072) (hi : i + 6 ≤ L) (J : lw_J L xs N X) (K : ∀ N' X', lw_J L xs N' X' → pk_G Γ (lw_k b) cL_law N' [some (.ref 0), some (.ref 5), some (.ref 103), some (.int (nI i))] [] 1097 113 2958) : pk_G Γ (lw_k b) cL_law N [some (.ref 0), some (.ref 5), some (.ref 103), some (.int (nI i))] [] 334 113 2958 := by
  have hW := J.1.1
  have hx := J.2.2.2
  refine pk_aload_n dL_law_334 rfl ?_
  refine pk_aload_n dL_law_335 rfl ?_
  refine pk_iload_n dL_law_336 rfl ?_
  refine pk_iconst (v := nI 1) dL_law_337 (by decide) ?_
  first | refine pk_addN dL_law_338 ?_ | refine pk_iadd dL_law_338 ?_
  refine lw_ald dL_law_339 (hW.s rfl) (by omega) (by omega) (hx _) ?_
  refine pk_Vir dL_law_340 ml_L_41 yw_X6_count yv_X6_count (hW.s rfl) (e_X6_count J.1 J.2.2.1 _) rfl rfl rfl rfl rfl rfl rfl (fun N1 h1 => ?_)
  have hx := J.x1 h1.1
  have hW := h1.2.1
  have hm := pk_RM.cf h1.1 J.2.1
  refine pk_aload_n dL_law_343 rfl ?_
  refine pk_aload_n dL_law_344 rfl ?_
  refine pk_iload_n dL_law_345 rfl ?_
  refine pk_iconst (v := nI 1) dL_law_346 (by decide) ?_
  first | refine pk_addN dL_law_347 ?_ | refine pk_iadd dL_law_347 ?_
  refine lw_ald dL_law_348 (hW.s rfl) (by omega) (by omega) (hx _) ?_
  refine pk_Vir dL_law_349 ml_L_44 yw_X7_count yv_X7_count (hW.s rfl) (e_X7_count hm J.2.2.1 _) rfl rfl rfl rfl rfl rfl rfl (fun N2 h2 => ?_)
  skip
  refine pk_icmp_eq (tgt := 1097) dL_law_352 (by decide) (fun c_352 => ?_) (fun c_352 => ?_)
  · exact K _ _ (J.to h1.1 h1.2 h2.1 h2.2 J.2.2.1)
  · exact absurd rfl c_352

set_option maxRecDepth 100000 in
set_option maxHeartbeats 4000000 in
theorem lw_c_7 {Γ : pk_T} {b L i : Nat} {xs : Nat → Int32} {N : pk_M} {X : pk_X} (hL : L ≤ 3072) (hi : i + 6 ≤ L) (J : lw_J L xs N X) (K : ∀ N' X', lw_J L xs N' X' → pk_G Γ (lw_k b) cL_law N' [some (.ref 0), some (.ref 5), some (.ref 103), some (.int (nI i))] [] 1097 113 2958) : pk_G Γ (lw_k b) cL_law N [some (.ref 0), some (.ref 5), some (.ref 103), some (.int (nI i))] [] 357 113 2958 := by
  have hW := J.1.1
  have hx := J.2.2.2
  refine pk_aload_n dL_law_357 rfl ?_
  refine pk_aload_n dL_law_358 rfl ?_
  refine pk_iload_n dL_law_359 rfl ?_
  refine pk_iconst (v := nI 1) dL_law_360 (by decide) ?_
  first | refine pk_addN dL_law_361 ?_ | refine pk_iadd dL_law_361 ?_
  refine lw_ald dL_law_362 (hW.s rfl) (by omega) (by omega) (hx _) ?_
  refine pk_aload_n dL_law_363 rfl ?_
  refine pk_iload_n dL_law_364 rfl ?_
  refine pk_iconst (v := nI 2) dL_law_365 (by decide) ?_
  first | refine pk_addN dL_law_366 ?_ | refine pk_iadd dL_law_366 ?_
  refine lw_ald dL_law_367 (hW.s rfl) (by omega) (by omega) (hx _) ?_
  refine pk_aload_n dL_law_368 rfl ?_
  refine pk_iload_n dL_law_369 rfl ?_
  refine pk_iconst (v := nI 3) dL_law_370 (by decide) ?_
  first | refine pk_addN dL_law_371 ?_ | refine pk_iadd dL_law_371 ?_
  refine lw_ald dL_law_372 (hW.s rfl) (by omega) (by omega) (hx _) ?_
  refine pk_Vir dL_law_373 ml_L_45 yw_X6_tell yv_X6_tell (hW.s rfl) (e_X6_tell J.1 J.2.2.1 _ _ _) rfl rfl rfl rfl rfl rfl rfl (fun N1 h1 => ?_)
  have hx := J.x1 h1.1
  have hW := h1.2.1
  have hm := pk_RM.cf h1.1 J.2.1
  refine pk_aload_n dL_law_376 rfl ?_
  refine pk_aload_n dL_law_377 rfl ?_
  refine pk_iload_n dL_law_378 rfl ?_
  refine pk_iconst (v := nI 1) dL_law_379 (by decide) ?_
  first | refine pk_addN dL_law_380 ?_ | refine pk_iadd dL_law_380 ?_
  refine lw_ald dL_law_381 (hW.s rfl) (by omega) (by omega) (hx _) ?_
  refine pk_aload_n dL_law_382 rfl ?_
  refine pk_iload_n dL_law_383 rfl ?_
  refine pk_iconst (v := nI 2) dL_law_384 (by decide) ?_
  first | refine pk_addN dL_law_385 ?_ | refine pk_iadd dL_law_385 ?_
  refine lw_ald dL_law_386 (hW.s rfl) (by omega) (by omega) (hx _) ?_
  refine pk_aload_n dL_law_387 rfl ?_
  refine pk_iload_n dL_law_388 rfl ?_
  refine pk_iconst (v := nI 3) dL_law_389 (by decide) ?_
  first | refine pk_addN dL_law_390 ?_ | refine pk_iadd dL_law_390 ?_
  refine lw_ald dL_law_391 (hW.s rfl) (by omega) (by omega) (hx _) ?_
  refine pk_Vir dL_law_392 ml_L_48 yw_X7_tell yv_X7_tell (hW.s rfl) (e_X7_tell hm J.2.2.1 _ _ _) rfl rfl rfl rfl rfl rfl rfl (fun N2 h2 => ?_)
  skip
  refine pk_icmp_eq (tgt := 1097) dL_law_395 (by decide) (fun c_395 => ?_) (fun c_395 => ?_)
  · exact K _ _ (J.to h1.1 h1.2 h2.1 h2.2 (ok_tell J.2.2.1 _ _ _))
  · exact absurd rfl c_395

set_option maxRecDepth 100000 in
set_option maxHeartbeats 4000000 in
theorem lw_c_8 {Γ : pk_T} {b L i : Nat} {xs : Nat → Int32} {N : pk_M} {X : pk_X} (hL : L ≤ 3072) (hi : i + 6 ≤ L) (J : lw_J L xs N X) (K : ∀ N' X', lw_J L xs N' X' → pk_G Γ (lw_k b) cL_law N' [some (.ref 0), some (.ref 5), some (.ref 103), some (.int (nI i))] [] 1097 113 2958) : pk_G Γ (lw_k b) cL_law N [some (.ref 0), some (.ref 5), some (.ref 103), some (.int (nI i))] [] 400 113 2958 := by
  have hW := J.1.1
  have hx := J.2.2.2
  refine pk_aload_n dL_law_400 rfl ?_
  refine pk_aload_n dL_law_401 rfl ?_
  refine pk_iload_n dL_law_402 rfl ?_
  refine pk_iconst (v := nI 1) dL_law_403 (by decide) ?_
  first | refine pk_addN dL_law_404 ?_ | refine pk_iadd dL_law_404 ?_
  refine lw_ald dL_law_405 (hW.s rfl) (by omega) (by omega) (hx _) ?_
  refine pk_Vir dL_law_406 ml_L_49 yw_X6_order yv_X6_order (hW.s rfl) (e_X6_order J.1 J.2.2.1 _) rfl rfl rfl rfl rfl rfl rfl (fun N1 h1 => ?_)
  have hx := J.x1 h1.1
  have hW := h1.2.1
  have hm := pk_RM.cf h1.1 J.2.1
  refine pk_aload_n dL_law_409 rfl ?_
  refine pk_aload_n dL_law_410 rfl ?_
  refine pk_iload_n dL_law_411 rfl ?_
  refine pk_iconst (v := nI 1) dL_law_412 (by decide) ?_
  first | refine pk_addN dL_law_413 ?_ | refine pk_iadd dL_law_413 ?_
  refine lw_ald dL_law_414 (hW.s rfl) (by omega) (by omega) (hx _) ?_
  refine pk_Vir dL_law_415 ml_L_52 yw_X7_order yv_X7_order (hW.s rfl) (e_X7_order hm J.2.2.1 _) rfl rfl rfl rfl rfl rfl rfl (fun N2 h2 => ?_)
  skip
  refine pk_icmp_eq (tgt := 1097) dL_law_418 (by decide) (fun c_418 => ?_) (fun c_418 => ?_)
  · exact K _ _ (J.to h1.1 h1.2 h2.1 h2.2 (ok_order J.2.2.1 _))
  · exact absurd rfl c_418

set_option maxRecDepth 100000 in
set_option maxHeartbeats 4000000 in
theorem lw_c_9 {Γ : pk_T} {b L i : Nat} {xs : Nat → Int32} {N : pk_M} {X : pk_X} (hL : L ≤ 3072) (hi : i + 6 ≤ L) (J : lw_J L xs N X) (K : ∀ N' X', lw_J L xs N' X' → pk_G Γ (lw_k b) cL_law N' [some (.ref 0), some (.ref 5), some (.ref 103), some (.int (nI i))] [] 1097 113 2958) : pk_G Γ (lw_k b) cL_law N [some (.ref 0), some (.ref 5), some (.ref 103), some (.int (nI i))] [] 423 113 2958 := by
  have hW := J.1.1
  have hx := J.2.2.2
  refine pk_aload_n dL_law_423 rfl ?_
  refine pk_aload_n dL_law_424 rfl ?_
  refine pk_iload_n dL_law_425 rfl ?_
  refine pk_iconst (v := nI 1) dL_law_426 (by decide) ?_
  first | refine pk_addN dL_law_427 ?_ | refine pk_iadd dL_law_427 ?_
  refine lw_ald dL_law_428 (hW.s rfl) (by omega) (by omega) (hx _) ?_
  refine pk_aload_n dL_law_429 rfl ?_
  refine pk_iload_n dL_law_430 rfl ?_
  refine pk_iconst (v := nI 2) dL_law_431 (by decide) ?_
  first | refine pk_addN dL_law_432 ?_ | refine pk_iadd dL_law_432 ?_
  refine lw_ald dL_law_433 (hW.s rfl) (by omega) (by omega) (hx _) ?_
  refine pk_aload_n dL_law_434 rfl ?_
  refine pk_iload_n dL_law_435 rfl ?_
  refine pk_iconst (v := nI 3) dL_law_436 (by decide) ?_
  first | refine pk_addN dL_law_437 ?_ | refine pk_iadd dL_law_437 ?_
  refine lw_ald dL_law_438 (hW.s rfl) (by omega) (by omega) (hx _) ?_
  refine pk_Vir dL_law_439 ml_L_53 yw_X6_put yv_X6_put (hW.s rfl) (e_X6_put J.1 J.2.2.1 _ _ _) rfl rfl rfl rfl rfl rfl rfl (fun N1 h1 => ?_)
  have hx := J.x1 h1.1
  have hW := h1.2.1
  have hm := pk_RM.cf h1.1 J.2.1
  refine pk_aload_n dL_law_442 rfl ?_
  refine pk_aload_n dL_law_443 rfl ?_
  refine pk_iload_n dL_law_444 rfl ?_
  refine pk_iconst (v := nI 1) dL_law_445 (by decide) ?_
  first | refine pk_addN dL_law_446 ?_ | refine pk_iadd dL_law_446 ?_
  refine lw_ald dL_law_447 (hW.s rfl) (by omega) (by omega) (hx _) ?_
  refine pk_aload_n dL_law_448 rfl ?_
  refine pk_iload_n dL_law_449 rfl ?_
  refine pk_iconst (v := nI 2) dL_law_450 (by decide) ?_
  first | refine pk_addN dL_law_451 ?_ | refine pk_iadd dL_law_451 ?_
  refine lw_ald dL_law_452 (hW.s rfl) (by omega) (by omega) (hx _) ?_
  refine pk_aload_n dL_law_453 rfl ?_
  refine pk_iload_n dL_law_454 rfl ?_
  refine pk_iconst (v := nI 3) dL_law_455 (by decide) ?_
  first | refine pk_addN dL_law_456 ?_ | refine pk_iadd dL_law_456 ?_
  refine lw_ald dL_law_457 (hW.s rfl) (by omega) (by omega) (hx _) ?_
  refine pk_Vir dL_law_458 ml_L_56 yw_X7_put yv_X7_put (hW.s rfl) (e_X7_put hm J.2.2.1 _ _ _) rfl rfl rfl rfl rfl rfl rfl (fun N2 h2 => ?_)
  skip
  refine pk_icmp_eq (tgt := 1097) dL_law_461 (by decide) (fun c_461 => ?_) (fun c_461 => ?_)
  · exact K _ _ (J.to h1.1 h1.2 h2.1 h2.2 (ok_put J.2.2.1 _ _ _))
  · exact absurd rfl c_461

set_option maxRecDepth 100000 in
set_option maxHeartbeats 4000000 in
theorem lw_c_10 {Γ : pk_T} {b L i : Nat} {xs : Nat → Int32} {N : pk_M} {X : pk_X} (hL : L ≤ 3072) (hi : i + 6 ≤ L) (J : lw_J L xs N X) (K : ∀ N' X', lw_J L xs N' X' → pk_G Γ (lw_k b) cL_law N' [some (.ref 0), some (.ref 5), some (.ref 103), some (.int (nI i))] [] 1097 113 2958) : pk_G Γ (lw_k b) cL_law N [some (.ref 0), some (.ref 5), some (.ref 103), some (.int (nI i))] [] 466 113 2958 := by
  have hW := J.1.1
  have hx := J.2.2.2
  refine pk_aload_n dL_law_466 rfl ?_
  refine pk_aload_n dL_law_467 rfl ?_
  refine pk_iload_n dL_law_468 rfl ?_
  refine pk_iconst (v := nI 1) dL_law_469 (by decide) ?_
  first | refine pk_addN dL_law_470 ?_ | refine pk_iadd dL_law_470 ?_
  refine lw_ald dL_law_471 (hW.s rfl) (by omega) (by omega) (hx _) ?_
  refine pk_aload_n dL_law_472 rfl ?_
  refine pk_iload_n dL_law_473 rfl ?_
  refine pk_iconst (v := nI 2) dL_law_474 (by decide) ?_
  first | refine pk_addN dL_law_475 ?_ | refine pk_iadd dL_law_475 ?_
  refine lw_ald dL_law_476 (hW.s rfl) (by omega) (by omega) (hx _) ?_
  refine pk_Vir dL_law_477 ml_L_57 yw_X6_fill yv_X6_fill (hW.s rfl) (e_X6_fill J.1 J.2.2.1 _ _) rfl rfl rfl rfl rfl rfl rfl (fun N1 h1 => ?_)
  have hx := J.x1 h1.1
  have hW := h1.2.1
  have hm := pk_RM.cf h1.1 J.2.1
  refine pk_aload_n dL_law_480 rfl ?_
  refine pk_aload_n dL_law_481 rfl ?_
  refine pk_iload_n dL_law_482 rfl ?_
  refine pk_iconst (v := nI 1) dL_law_483 (by decide) ?_
  first | refine pk_addN dL_law_484 ?_ | refine pk_iadd dL_law_484 ?_
  refine lw_ald dL_law_485 (hW.s rfl) (by omega) (by omega) (hx _) ?_
  refine pk_aload_n dL_law_486 rfl ?_
  refine pk_iload_n dL_law_487 rfl ?_
  refine pk_iconst (v := nI 2) dL_law_488 (by decide) ?_
  first | refine pk_addN dL_law_489 ?_ | refine pk_iadd dL_law_489 ?_
  refine lw_ald dL_law_490 (hW.s rfl) (by omega) (by omega) (hx _) ?_
  refine pk_Vir dL_law_491 ml_L_60 yw_X7_fill yv_X7_fill (hW.s rfl) (e_X7_fill hm J.2.2.1 _ _) rfl rfl rfl rfl rfl rfl rfl (fun N2 h2 => ?_)
  skip
  refine pk_icmp_eq (tgt := 1097) dL_law_494 (by decide) (fun c_494 => ?_) (fun c_494 => ?_)
  · exact K _ _ (J.to h1.1 h1.2 h2.1 h2.2 (ok_fill J.2.2.1 _ _))
  · exact absurd rfl c_494

set_option maxRecDepth 100000 in
set_option maxHeartbeats 4000000 in
theorem lw_c_11 {Γ : pk_T} {b L i : Nat} {xs : Nat → Int32} {N : pk_M} {X : pk_X} (hL : L ≤ 3072) (hi : i + 6 ≤ L) (J : lw_J L xs N X) (K : ∀ N' X', lw_J L xs N' X' → pk_G Γ (lw_k b) cL_law N' [some (.ref 0), some (.ref 5), some (.ref 103), some (.int (nI i))] [] 1097 113 2958) : pk_G Γ (lw_k b) cL_law N [some (.ref 0), some (.ref 5), some (.ref 103), some (.int (nI i))] [] 499 113 2958 := by
  have hW := J.1.1
  have hx := J.2.2.2
  refine pk_aload_n dL_law_499 rfl ?_
  refine pk_Vir dL_law_500 ml_L_61 yw_X6_grow yv_X6_grow (hW.s rfl) (e_X6_grow J.1 J.2.2.1) rfl rfl rfl rfl rfl rfl rfl (fun N1 h1 => ?_)
  have hx := J.x1 h1.1
  have hW := h1.2.1
  have hm := pk_RM.cf h1.1 J.2.1
  refine pk_aload_n dL_law_503 rfl ?_
  refine pk_Vir dL_law_504 ml_L_64 yw_X7_grow yv_X7_grow (hW.s rfl) (e_X7_grow hm J.2.2.1) rfl rfl rfl rfl rfl rfl rfl (fun N2 h2 => ?_)
  skip
  refine pk_icmp_eq (tgt := 1097) dL_law_507 (by decide) (fun c_507 => ?_) (fun c_507 => ?_)
  · exact K _ _ (J.to h1.1 h1.2 h2.1 h2.2 (ok_grow J.2.2.1))
  · exact absurd rfl c_507

set_option maxRecDepth 100000 in
set_option maxHeartbeats 4000000 in
theorem lw_c_12 {Γ : pk_T} {b L i : Nat} {xs : Nat → Int32} {N : pk_M} {X : pk_X} (hL : L ≤ 3072) (hi : i + 6 ≤ L) (J : lw_J L xs N X) (K : ∀ N' X', lw_J L xs N' X' → pk_G Γ (lw_k b) cL_law N' [some (.ref 0), some (.ref 5), some (.ref 103), some (.int (nI i))] [] 1097 113 2958) : pk_G Γ (lw_k b) cL_law N [some (.ref 0), some (.ref 5), some (.ref 103), some (.int (nI i))] [] 512 113 2958 := by
  have hW := J.1.1
  have hx := J.2.2.2
  refine pk_aload_n dL_law_512 rfl ?_
  refine pk_aload_n dL_law_513 rfl ?_
  refine pk_iload_n dL_law_514 rfl ?_
  refine pk_iconst (v := nI 1) dL_law_515 (by decide) ?_
  first | refine pk_addN dL_law_516 ?_ | refine pk_iadd dL_law_516 ?_
  refine lw_ald dL_law_517 (hW.s rfl) (by omega) (by omega) (hx _) ?_
  refine pk_aload_n dL_law_518 rfl ?_
  refine pk_iload_n dL_law_519 rfl ?_
  refine pk_iconst (v := nI 2) dL_law_520 (by decide) ?_
  first | refine pk_addN dL_law_521 ?_ | refine pk_iadd dL_law_521 ?_
  refine lw_ald dL_law_522 (hW.s rfl) (by omega) (by omega) (hx _) ?_
  refine pk_Vir dL_law_523 ml_L_65 yw_X6_size yv_X6_size (hW.s rfl) (e_X6_size J.1 J.2.2.1 _ _) rfl rfl rfl rfl rfl rfl rfl (fun N1 h1 => ?_)
  have hx := J.x1 h1.1
  have hW := h1.2.1
  have hm := pk_RM.cf h1.1 J.2.1
  refine pk_aload_n dL_law_526 rfl ?_
  refine pk_aload_n dL_law_527 rfl ?_
  refine pk_iload_n dL_law_528 rfl ?_
  refine pk_iconst (v := nI 1) dL_law_529 (by decide) ?_
  first | refine pk_addN dL_law_530 ?_ | refine pk_iadd dL_law_530 ?_
  refine lw_ald dL_law_531 (hW.s rfl) (by omega) (by omega) (hx _) ?_
  refine pk_aload_n dL_law_532 rfl ?_
  refine pk_iload_n dL_law_533 rfl ?_
  refine pk_iconst (v := nI 2) dL_law_534 (by decide) ?_
  first | refine pk_addN dL_law_535 ?_ | refine pk_iadd dL_law_535 ?_
  refine lw_ald dL_law_536 (hW.s rfl) (by omega) (by omega) (hx _) ?_
  refine pk_Vir dL_law_537 ml_L_68 yw_X7_size yv_X7_size (hW.s rfl) (e_X7_size hm J.2.2.1 _ _) rfl rfl rfl rfl rfl rfl rfl (fun N2 h2 => ?_)
  skip
  refine pk_icmp_eq (tgt := 1097) dL_law_540 (by decide) (fun c_540 => ?_) (fun c_540 => ?_)
  · exact K _ _ (J.to h1.1 h1.2 h2.1 h2.2 (ok_size J.2.2.1 _ _))
  · exact absurd rfl c_540

set_option maxRecDepth 100000 in
set_option maxHeartbeats 4000000 in
theorem lw_c_13 {Γ : pk_T} {b L i : Nat} {xs : Nat → Int32} {N : pk_M} {X : pk_X} (hL : L ≤ 3072) (hi : i + 6 ≤ L) (J : lw_J L xs N X) (K : ∀ N' X', lw_J L xs N' X' → pk_G Γ (lw_k b) cL_law N' [some (.ref 0), some (.ref 5), some (.ref 103), some (.int (nI i))] [] 1097 113 2958) : pk_G Γ (lw_k b) cL_law N [some (.ref 0), some (.ref 5), some (.ref 103), some (.int (nI i))] [] 545 113 2958 := by
  have hW := J.1.1
  have hx := J.2.2.2
  refine pk_aload_n dL_law_545 rfl ?_
  refine pk_aload_n dL_law_546 rfl ?_
  refine pk_iload_n dL_law_547 rfl ?_
  refine pk_iconst (v := nI 1) dL_law_548 (by decide) ?_
  first | refine pk_addN dL_law_549 ?_ | refine pk_iadd dL_law_549 ?_
  refine lw_ald dL_law_550 (hW.s rfl) (by omega) (by omega) (hx _) ?_
  refine pk_Vir dL_law_551 ml_L_69 yw_X6_drift yv_X6_drift (hW.s rfl) (e_X6_drift J.1 J.2.2.1 _) rfl rfl rfl rfl rfl rfl rfl (fun N1 h1 => ?_)
  have hx := J.x1 h1.1
  have hW := h1.2.1
  have hm := pk_RM.cf h1.1 J.2.1
  refine pk_aload_n dL_law_554 rfl ?_
  refine pk_aload_n dL_law_555 rfl ?_
  refine pk_iload_n dL_law_556 rfl ?_
  refine pk_iconst (v := nI 1) dL_law_557 (by decide) ?_
  first | refine pk_addN dL_law_558 ?_ | refine pk_iadd dL_law_558 ?_
  refine lw_ald dL_law_559 (hW.s rfl) (by omega) (by omega) (hx _) ?_
  refine pk_Vir dL_law_560 ml_L_72 yw_X7_drift yv_X7_drift (hW.s rfl) (e_X7_drift hm J.2.2.1 _) rfl rfl rfl rfl rfl rfl rfl (fun N2 h2 => ?_)
  skip
  refine pk_icmp_eq (tgt := 1097) dL_law_563 (by decide) (fun c_563 => ?_) (fun c_563 => ?_)
  · exact K _ _ (J.to h1.1 h1.2 h2.1 h2.2 (ok_drift J.2.2.1 _))
  · exact absurd rfl c_563

set_option maxRecDepth 100000 in
set_option maxHeartbeats 4000000 in
theorem lw_c_14 {Γ : pk_T} {b L i : Nat} {xs : Nat → Int32} {N : pk_M} {X : pk_X} (hL : L ≤ 3072) (hi : i + 6 ≤ L) (J : lw_J L xs N X) (K : ∀ N' X', lw_J L xs N' X' → pk_G Γ (lw_k b) cL_law N' [some (.ref 0), some (.ref 5), some (.ref 103), some (.int (nI i))] [] 1097 113 2958) : pk_G Γ (lw_k b) cL_law N [some (.ref 0), some (.ref 5), some (.ref 103), some (.int (nI i))] [] 568 113 2958 := by
  have hW := J.1.1
  have hx := J.2.2.2
  refine pk_aload_n dL_law_568 rfl ?_
  refine pk_Vir dL_law_569 ml_L_73 yw_X6_undo yv_X6_undo (hW.s rfl) (e_X6_undo J.1 J.2.2.1) rfl rfl rfl rfl rfl rfl rfl (fun N1 h1 => ?_)
  have hx := J.x1 h1.1
  have hW := h1.2.1
  have hm := pk_RM.cf h1.1 J.2.1
  refine pk_aload_n dL_law_572 rfl ?_
  refine pk_Vir dL_law_573 ml_L_76 yw_X7_undo yv_X7_undo (hW.s rfl) (e_X7_undo hm J.2.2.1) rfl rfl rfl rfl rfl rfl rfl (fun N2 h2 => ?_)
  skip
  refine pk_icmp_eq (tgt := 1097) dL_law_576 (by decide) (fun c_576 => ?_) (fun c_576 => ?_)
  · exact K _ _ (J.to h1.1 h1.2 h2.1 h2.2 (ok_undo J.2.2.1))
  · exact absurd rfl c_576

set_option maxRecDepth 100000 in
set_option maxHeartbeats 4000000 in
theorem lw_c_15 {Γ : pk_T} {b L i : Nat} {xs : Nat → Int32} {N : pk_M} {X : pk_X} (hL : L ≤ 3072) (hi : i + 6 ≤ L) (J : lw_J L xs N X) (K : ∀ N' X', lw_J L xs N' X' → pk_G Γ (lw_k b) cL_law N' [some (.ref 0), some (.ref 5), some (.ref 103), some (.int (nI i))] [] 1097 113 2958) : pk_G Γ (lw_k b) cL_law N [some (.ref 0), some (.ref 5), some (.ref 103), some (.int (nI i))] [] 581 113 2958 := by
  have hW := J.1.1
  have hx := J.2.2.2
  refine pk_aload_n dL_law_581 rfl ?_
  refine pk_aload_n dL_law_582 rfl ?_
  refine pk_iload_n dL_law_583 rfl ?_
  refine pk_iconst (v := nI 1) dL_law_584 (by decide) ?_
  first | refine pk_addN dL_law_585 ?_ | refine pk_iadd dL_law_585 ?_
  refine lw_ald dL_law_586 (hW.s rfl) (by omega) (by omega) (hx _) ?_
  refine pk_Vir dL_law_587 ml_L_77 yw_X6_seed yv_X6_seed (hW.s rfl) (e_X6_seed J.1 J.2.2.1 _) rfl rfl rfl rfl rfl rfl rfl (fun N1 h1 => ?_)
  have hx := J.x1 h1.1
  have hW := h1.2.1
  have hm := pk_RM.cf h1.1 J.2.1
  refine pk_aload_n dL_law_590 rfl ?_
  refine pk_aload_n dL_law_591 rfl ?_
  refine pk_iload_n dL_law_592 rfl ?_
  refine pk_iconst (v := nI 1) dL_law_593 (by decide) ?_
  first | refine pk_addN dL_law_594 ?_ | refine pk_iadd dL_law_594 ?_
  refine lw_ald dL_law_595 (hW.s rfl) (by omega) (by omega) (hx _) ?_
  refine pk_Vir dL_law_596 ml_L_80 yw_X7_seed yv_X7_seed (hW.s rfl) (e_X7_seed hm J.2.2.1 _) rfl rfl rfl rfl rfl rfl rfl (fun N2 h2 => ?_)
  skip
  refine pk_icmp_eq (tgt := 1097) dL_law_599 (by decide) (fun c_599 => ?_) (fun c_599 => ?_)
  · exact K _ _ (J.to h1.1 h1.2 h2.1 h2.2 (ok_seed J.2.2.1 _))
  · exact absurd rfl c_599

set_option maxRecDepth 100000 in
set_option maxHeartbeats 4000000 in
theorem lw_c_16 {Γ : pk_T} {b L i : Nat} {xs : Nat → Int32} {N : pk_M} {X : pk_X} (hL : L ≤ 3072) (hi : i + 6 ≤ L) (J : lw_J L xs N X) (K : ∀ N' X', lw_J L xs N' X' → pk_G Γ (lw_k b) cL_law N' [some (.ref 0), some (.ref 5), some (.ref 103), some (.int (nI i))] [] 1097 113 2958) : pk_G Γ (lw_k b) cL_law N [some (.ref 0), some (.ref 5), some (.ref 103), some (.int (nI i))] [] 604 113 2958 := by
  have hW := J.1.1
  have hx := J.2.2.2
  refine pk_aload_n dL_law_604 rfl ?_
  refine pk_aload_n dL_law_605 rfl ?_
  refine pk_iload_n dL_law_606 rfl ?_
  refine pk_iconst (v := nI 1) dL_law_607 (by decide) ?_
  first | refine pk_addN dL_law_608 ?_ | refine pk_iadd dL_law_608 ?_
  refine lw_ald dL_law_609 (hW.s rfl) (by omega) (by omega) (hx _) ?_
  refine pk_aload_n dL_law_610 rfl ?_
  refine pk_iload_n dL_law_611 rfl ?_
  refine pk_iconst (v := nI 2) dL_law_612 (by decide) ?_
  first | refine pk_addN dL_law_613 ?_ | refine pk_iadd dL_law_613 ?_
  refine lw_ald dL_law_614 (hW.s rfl) (by omega) (by omega) (hx _) ?_
  refine pk_aload_n dL_law_615 rfl ?_
  refine pk_iload_n dL_law_616 rfl ?_
  refine pk_iconst (v := nI 3) dL_law_617 (by decide) ?_
  first | refine pk_addN dL_law_618 ?_ | refine pk_iadd dL_law_618 ?_
  refine lw_ald dL_law_619 (hW.s rfl) (by omega) (by omega) (hx _) ?_
  refine pk_Vir dL_law_620 ml_L_81 yw_X6_gaps yv_X6_gaps (hW.s rfl) (e_X6_gaps J.1 J.2.2.1 _ _ _) rfl rfl rfl rfl rfl rfl rfl (fun N1 h1 => ?_)
  have hx := J.x1 h1.1
  have hW := h1.2.1
  have hm := pk_RM.cf h1.1 J.2.1
  refine pk_aload_n dL_law_623 rfl ?_
  refine pk_aload_n dL_law_624 rfl ?_
  refine pk_iload_n dL_law_625 rfl ?_
  refine pk_iconst (v := nI 1) dL_law_626 (by decide) ?_
  first | refine pk_addN dL_law_627 ?_ | refine pk_iadd dL_law_627 ?_
  refine lw_ald dL_law_628 (hW.s rfl) (by omega) (by omega) (hx _) ?_
  refine pk_aload_n dL_law_629 rfl ?_
  refine pk_iload_n dL_law_630 rfl ?_
  refine pk_iconst (v := nI 2) dL_law_631 (by decide) ?_
  first | refine pk_addN dL_law_632 ?_ | refine pk_iadd dL_law_632 ?_
  refine lw_ald dL_law_633 (hW.s rfl) (by omega) (by omega) (hx _) ?_
  refine pk_aload_n dL_law_634 rfl ?_
  refine pk_iload_n dL_law_635 rfl ?_
  refine pk_iconst (v := nI 3) dL_law_636 (by decide) ?_
  first | refine pk_addN dL_law_637 ?_ | refine pk_iadd dL_law_637 ?_
  refine lw_ald dL_law_638 (hW.s rfl) (by omega) (by omega) (hx _) ?_
  refine pk_Vir dL_law_639 ml_L_84 yw_X7_gaps yv_X7_gaps (hW.s rfl) (e_X7_gaps hm J.2.2.1 _ _ _) rfl rfl rfl rfl rfl rfl rfl (fun N2 h2 => ?_)
  skip
  refine pk_icmp_eq (tgt := 1097) dL_law_642 (by decide) (fun c_642 => ?_) (fun c_642 => ?_)
  · exact K _ _ (J.to h1.1 h1.2 h2.1 h2.2 J.2.2.1)
  · exact absurd rfl c_642

set_option maxRecDepth 100000 in
set_option maxHeartbeats 4000000 in
theorem lw_c_17 {Γ : pk_T} {b L i : Nat} {xs : Nat → Int32} {N : pk_M} {X : pk_X} (hL : L ≤ 3072) (hi : i + 6 ≤ L) (J : lw_J L xs N X) (K : ∀ N' X', lw_J L xs N' X' → pk_G Γ (lw_k b) cL_law N' [some (.ref 0), some (.ref 5), some (.ref 103), some (.int (nI i))] [] 1097 113 2958) : pk_G Γ (lw_k b) cL_law N [some (.ref 0), some (.ref 5), some (.ref 103), some (.int (nI i))] [] 647 113 2958 := by
  have hW := J.1.1
  have hx := J.2.2.2
  refine pk_aload_n dL_law_647 rfl ?_
  refine pk_aload_n dL_law_648 rfl ?_
  refine pk_iload_n dL_law_649 rfl ?_
  refine pk_iconst (v := nI 1) dL_law_650 (by decide) ?_
  first | refine pk_addN dL_law_651 ?_ | refine pk_iadd dL_law_651 ?_
  refine lw_ald dL_law_652 (hW.s rfl) (by omega) (by omega) (hx _) ?_
  refine pk_aload_n dL_law_653 rfl ?_
  refine pk_iload_n dL_law_654 rfl ?_
  refine pk_iconst (v := nI 2) dL_law_655 (by decide) ?_
  first | refine pk_addN dL_law_656 ?_ | refine pk_iadd dL_law_656 ?_
  refine lw_ald dL_law_657 (hW.s rfl) (by omega) (by omega) (hx _) ?_
  refine pk_aload_n dL_law_658 rfl ?_
  refine pk_iload_n dL_law_659 rfl ?_
  refine pk_iconst (v := nI 3) dL_law_660 (by decide) ?_
  first | refine pk_addN dL_law_661 ?_ | refine pk_iadd dL_law_661 ?_
  refine lw_ald dL_law_662 (hW.s rfl) (by omega) (by omega) (hx _) ?_
  refine pk_aload_n dL_law_663 rfl ?_
  refine pk_iload_n dL_law_664 rfl ?_
  refine pk_iconst (v := nI 4) dL_law_665 (by decide) ?_
  first | refine pk_addN dL_law_666 ?_ | refine pk_iadd dL_law_666 ?_
  refine lw_ald dL_law_667 (hW.s rfl) (by omega) (by omega) (hx _) ?_
  refine pk_aload_n dL_law_668 rfl ?_
  refine pk_iload_n dL_law_669 rfl ?_
  refine pk_iconst (v := nI 5) dL_law_670 (by decide) ?_
  first | refine pk_addN dL_law_671 ?_ | refine pk_iadd dL_law_671 ?_
  refine lw_ald dL_law_672 (hW.s rfl) (by omega) (by omega) (hx _) ?_
  refine pk_Vir dL_law_673 ml_L_85 yw_X6_aside yv_X6_aside (hW.s rfl) (e_X6_aside J.1 J.2.2.1 _ _ _ _ _) rfl rfl rfl rfl rfl rfl rfl (fun N1 h1 => ?_)
  have hx := J.x1 h1.1
  have hW := h1.2.1
  have hm := pk_RM.cf h1.1 J.2.1
  refine pk_aload_n dL_law_676 rfl ?_
  refine pk_aload_n dL_law_677 rfl ?_
  refine pk_iload_n dL_law_678 rfl ?_
  refine pk_iconst (v := nI 1) dL_law_679 (by decide) ?_
  first | refine pk_addN dL_law_680 ?_ | refine pk_iadd dL_law_680 ?_
  refine lw_ald dL_law_681 (hW.s rfl) (by omega) (by omega) (hx _) ?_
  refine pk_aload_n dL_law_682 rfl ?_
  refine pk_iload_n dL_law_683 rfl ?_
  refine pk_iconst (v := nI 2) dL_law_684 (by decide) ?_
  first | refine pk_addN dL_law_685 ?_ | refine pk_iadd dL_law_685 ?_
  refine lw_ald dL_law_686 (hW.s rfl) (by omega) (by omega) (hx _) ?_
  refine pk_aload_n dL_law_687 rfl ?_
  refine pk_iload_n dL_law_688 rfl ?_
  refine pk_iconst (v := nI 3) dL_law_689 (by decide) ?_
  first | refine pk_addN dL_law_690 ?_ | refine pk_iadd dL_law_690 ?_
  refine lw_ald dL_law_691 (hW.s rfl) (by omega) (by omega) (hx _) ?_
  refine pk_aload_n dL_law_692 rfl ?_
  refine pk_iload_n dL_law_693 rfl ?_
  refine pk_iconst (v := nI 4) dL_law_694 (by decide) ?_
  first | refine pk_addN dL_law_695 ?_ | refine pk_iadd dL_law_695 ?_
  refine lw_ald dL_law_696 (hW.s rfl) (by omega) (by omega) (hx _) ?_
  refine pk_aload_n dL_law_697 rfl ?_
  refine pk_iload_n dL_law_698 rfl ?_
  refine pk_iconst (v := nI 5) dL_law_699 (by decide) ?_
  first | refine pk_addN dL_law_700 ?_ | refine pk_iadd dL_law_700 ?_
  refine lw_ald dL_law_701 (hW.s rfl) (by omega) (by omega) (hx _) ?_
  refine pk_Vir dL_law_702 ml_L_89 yw_X7_aside yv_X7_aside (hW.s rfl) (e_X7_aside hm J.2.2.1 _ _ _ _ _) rfl rfl rfl rfl rfl rfl rfl (fun N2 h2 => ?_)
  skip
  refine pk_icmp_eq (tgt := 1097) dL_law_705 (by decide) (fun c_705 => ?_) (fun c_705 => ?_)
  · exact K _ _ (J.to h1.1 h1.2 h2.1 h2.2 J.2.2.1)
  · exact absurd rfl c_705

set_option maxRecDepth 100000 in
set_option maxHeartbeats 4000000 in
theorem lw_c_18 {Γ : pk_T} {b L i : Nat} {xs : Nat → Int32} {N : pk_M} {X : pk_X} (hL : L ≤ 3072) (hi : i + 6 ≤ L) (J : lw_J L xs N X) (K : ∀ N' X', lw_J L xs N' X' → pk_G Γ (lw_k b) cL_law N' [some (.ref 0), some (.ref 5), some (.ref 103), some (.int (nI i))] [] 1097 113 2958) : pk_G Γ (lw_k b) cL_law N [some (.ref 0), some (.ref 5), some (.ref 103), some (.int (nI i))] [] 710 113 2958 := by
  have hW := J.1.1
  have hx := J.2.2.2
  refine pk_aload_n dL_law_710 rfl ?_
  refine pk_aload_n dL_law_711 rfl ?_
  refine pk_iload_n dL_law_712 rfl ?_
  refine pk_iconst (v := nI 1) dL_law_713 (by decide) ?_
  first | refine pk_addN dL_law_714 ?_ | refine pk_iadd dL_law_714 ?_
  refine lw_ald dL_law_715 (hW.s rfl) (by omega) (by omega) (hx _) ?_
  refine pk_aload_n dL_law_716 rfl ?_
  refine pk_iload_n dL_law_717 rfl ?_
  refine pk_iconst (v := nI 2) dL_law_718 (by decide) ?_
  first | refine pk_addN dL_law_719 ?_ | refine pk_iadd dL_law_719 ?_
  refine lw_ald dL_law_720 (hW.s rfl) (by omega) (by omega) (hx _) ?_
  refine pk_Vir dL_law_721 ml_L_90 yw_X6_fail yv_X6_fail (hW.s rfl) (e_X6_fail J.1 J.2.2.1 _ _) rfl rfl rfl rfl rfl rfl rfl (fun N1 h1 => ?_)
  have hx := J.x1 h1.1
  have hW := h1.2.1
  have hm := pk_RM.cf h1.1 J.2.1
  refine pk_aload_n dL_law_724 rfl ?_
  refine pk_aload_n dL_law_725 rfl ?_
  refine pk_iload_n dL_law_726 rfl ?_
  refine pk_iconst (v := nI 1) dL_law_727 (by decide) ?_
  first | refine pk_addN dL_law_728 ?_ | refine pk_iadd dL_law_728 ?_
  refine lw_ald dL_law_729 (hW.s rfl) (by omega) (by omega) (hx _) ?_
  refine pk_aload_n dL_law_730 rfl ?_
  refine pk_iload_n dL_law_731 rfl ?_
  refine pk_iconst (v := nI 2) dL_law_732 (by decide) ?_
  first | refine pk_addN dL_law_733 ?_ | refine pk_iadd dL_law_733 ?_
  refine lw_ald dL_law_734 (hW.s rfl) (by omega) (by omega) (hx _) ?_
  refine pk_Vir dL_law_735 ml_L_93 yw_X7_fail yv_X7_fail (hW.s rfl) (e_X7_fail hm J.2.2.1 _ _) rfl rfl rfl rfl rfl rfl rfl (fun N2 h2 => ?_)
  skip
  refine pk_icmp_eq (tgt := 1097) dL_law_738 (by decide) (fun c_738 => ?_) (fun c_738 => ?_)
  · exact K _ _ (J.to h1.1 h1.2 h2.1 h2.2 J.2.2.1)
  · exact absurd rfl c_738

set_option maxRecDepth 100000 in
set_option maxHeartbeats 4000000 in
theorem lw_c_19 {Γ : pk_T} {b L i : Nat} {xs : Nat → Int32} {N : pk_M} {X : pk_X} (hL : L ≤ 3072) (hi : i + 6 ≤ L) (J : lw_J L xs N X) (K : ∀ N' X', lw_J L xs N' X' → pk_G Γ (lw_k b) cL_law N' [some (.ref 0), some (.ref 5), some (.ref 103), some (.int (nI i))] [] 1097 113 2958) : pk_G Γ (lw_k b) cL_law N [some (.ref 0), some (.ref 5), some (.ref 103), some (.int (nI i))] [] 743 113 2958 := by
  have hW := J.1.1
  have hx := J.2.2.2
  refine pk_aload_n dL_law_743 rfl ?_
  refine pk_Vir dL_law_744 ml_L_94 yw_X6_image yv_X6_image (hW.s rfl) (e_X6_image J.1 J.2.2.1) rfl rfl rfl rfl rfl rfl rfl (fun N1 h1 => ?_)
  have hx := J.x1 h1.1
  have hW := h1.2.1
  have hm := pk_RM.cf h1.1 J.2.1
  refine pk_aload_n dL_law_747 rfl ?_
  refine pk_Vir dL_law_748 ml_L_97 yw_X7_image yv_X7_image (hW.s rfl) (e_X7_image hm J.2.2.1) rfl rfl rfl rfl rfl rfl rfl (fun N2 h2 => ?_)
  skip
  refine pk_icmp_eq (tgt := 1097) dL_law_751 (by decide) (fun c_751 => ?_) (fun c_751 => ?_)
  · exact K _ _ (J.to h1.1 h1.2 h2.1 h2.2 (ok_image J.2.2.1))
  · exact absurd rfl c_751

set_option maxRecDepth 100000 in
set_option maxHeartbeats 4000000 in
theorem lw_c_20 {Γ : pk_T} {b L i : Nat} {xs : Nat → Int32} {N : pk_M} {X : pk_X} (hL : L ≤ 3072) (hi : i + 6 ≤ L) (J : lw_J L xs N X) (K : ∀ N' X', lw_J L xs N' X' → pk_G Γ (lw_k b) cL_law N' [some (.ref 0), some (.ref 5), some (.ref 103), some (.int (nI i))] [] 1097 113 2958) : pk_G Γ (lw_k b) cL_law N [some (.ref 0), some (.ref 5), some (.ref 103), some (.int (nI i))] [] 756 113 2958 := by
  have hW := J.1.1
  have hx := J.2.2.2
  refine pk_aload_n dL_law_756 rfl ?_
  refine pk_Vir dL_law_757 ml_L_98 yw_X6_restore yv_X6_restore (hW.s rfl) (e_X6_restore J.1 J.2.2.1) rfl rfl rfl rfl rfl rfl rfl (fun N1 h1 => ?_)
  have hx := J.x1 h1.1
  have hW := h1.2.1
  have hm := pk_RM.cf h1.1 J.2.1
  refine pk_aload_n dL_law_760 rfl ?_
  refine pk_Vir dL_law_761 ml_L_101 yw_X7_restore yv_X7_restore (hW.s rfl) (e_X7_restore hm J.2.2.1) rfl rfl rfl rfl rfl rfl rfl (fun N2 h2 => ?_)
  skip
  refine pk_icmp_eq (tgt := 1097) dL_law_764 (by decide) (fun c_764 => ?_) (fun c_764 => ?_)
  · exact K _ _ (J.to h1.1 h1.2 h2.1 h2.2 (ok_restore J.2.2.1))
  · exact absurd rfl c_764

set_option maxRecDepth 100000 in
set_option maxHeartbeats 4000000 in
theorem lw_c_21 {Γ : pk_T} {b L i : Nat} {xs : Nat → Int32} {N : pk_M} {X : pk_X} (hL : L ≤ 3072) (hi : i + 6 ≤ L) (J : lw_J L xs N X) (K : ∀ N' X', lw_J L xs N' X' → pk_G Γ (lw_k b) cL_law N' [some (.ref 0), some (.ref 5), some (.ref 103), some (.int (nI i))] [] 1097 113 2958) : pk_G Γ (lw_k b) cL_law N [some (.ref 0), some (.ref 5), some (.ref 103), some (.int (nI i))] [] 769 113 2958 := by
  have hW := J.1.1
  have hx := J.2.2.2
  refine pk_aload_n dL_law_769 rfl ?_
  refine pk_aload_n dL_law_770 rfl ?_
  refine pk_iload_n dL_law_771 rfl ?_
  refine pk_iconst (v := nI 1) dL_law_772 (by decide) ?_
  first | refine pk_addN dL_law_773 ?_ | refine pk_iadd dL_law_773 ?_
  refine lw_ald dL_law_774 (hW.s rfl) (by omega) (by omega) (hx _) ?_
  refine pk_aload_n dL_law_775 rfl ?_
  refine pk_iload_n dL_law_776 rfl ?_
  refine pk_iconst (v := nI 2) dL_law_777 (by decide) ?_
  first | refine pk_addN dL_law_778 ?_ | refine pk_iadd dL_law_778 ?_
  refine lw_ald dL_law_779 (hW.s rfl) (by omega) (by omega) (hx _) ?_
  refine pk_aload_n dL_law_780 rfl ?_
  refine pk_iload_n dL_law_781 rfl ?_
  refine pk_iconst (v := nI 3) dL_law_782 (by decide) ?_
  first | refine pk_addN dL_law_783 ?_ | refine pk_iadd dL_law_783 ?_
  refine lw_ald dL_law_784 (hW.s rfl) (by omega) (by omega) (hx _) ?_
  refine pk_aload_n dL_law_785 rfl ?_
  refine pk_iload_n dL_law_786 rfl ?_
  refine pk_iconst (v := nI 4) dL_law_787 (by decide) ?_
  first | refine pk_addN dL_law_788 ?_ | refine pk_iadd dL_law_788 ?_
  refine lw_ald dL_law_789 (hW.s rfl) (by omega) (by omega) (hx _) ?_
  refine pk_aload_n dL_law_790 rfl ?_
  refine pk_iload_n dL_law_791 rfl ?_
  refine pk_iconst (v := nI 5) dL_law_792 (by decide) ?_
  first | refine pk_addN dL_law_793 ?_ | refine pk_iadd dL_law_793 ?_
  refine lw_ald dL_law_794 (hW.s rfl) (by omega) (by omega) (hx _) ?_
  refine pk_Vir dL_law_795 ml_L_102 yw_X6_seen yv_X6_seen (hW.s rfl) (e_X6_seen J.1 J.2.2.1 _ _ _ _ _) rfl rfl rfl rfl rfl rfl rfl (fun N1 h1 => ?_)
  have hx := J.x1 h1.1
  have hW := h1.2.1
  have hm := pk_RM.cf h1.1 J.2.1
  refine pk_aload_n dL_law_798 rfl ?_
  refine pk_aload_n dL_law_799 rfl ?_
  refine pk_iload_n dL_law_800 rfl ?_
  refine pk_iconst (v := nI 1) dL_law_801 (by decide) ?_
  first | refine pk_addN dL_law_802 ?_ | refine pk_iadd dL_law_802 ?_
  refine lw_ald dL_law_803 (hW.s rfl) (by omega) (by omega) (hx _) ?_
  refine pk_aload_n dL_law_804 rfl ?_
  refine pk_iload_n dL_law_805 rfl ?_
  refine pk_iconst (v := nI 2) dL_law_806 (by decide) ?_
  first | refine pk_addN dL_law_807 ?_ | refine pk_iadd dL_law_807 ?_
  refine lw_ald dL_law_808 (hW.s rfl) (by omega) (by omega) (hx _) ?_
  refine pk_aload_n dL_law_809 rfl ?_
  refine pk_iload_n dL_law_810 rfl ?_
  refine pk_iconst (v := nI 3) dL_law_811 (by decide) ?_
  first | refine pk_addN dL_law_812 ?_ | refine pk_iadd dL_law_812 ?_
  refine lw_ald dL_law_813 (hW.s rfl) (by omega) (by omega) (hx _) ?_
  refine pk_aload_n dL_law_814 rfl ?_
  refine pk_iload_n dL_law_815 rfl ?_
  refine pk_iconst (v := nI 4) dL_law_816 (by decide) ?_
  first | refine pk_addN dL_law_817 ?_ | refine pk_iadd dL_law_817 ?_
  refine lw_ald dL_law_818 (hW.s rfl) (by omega) (by omega) (hx _) ?_
  refine pk_aload_n dL_law_819 rfl ?_
  refine pk_iload_n dL_law_820 rfl ?_
  refine pk_iconst (v := nI 5) dL_law_821 (by decide) ?_
  first | refine pk_addN dL_law_822 ?_ | refine pk_iadd dL_law_822 ?_
  refine lw_ald dL_law_823 (hW.s rfl) (by omega) (by omega) (hx _) ?_
  refine pk_Vir dL_law_824 ml_L_105 yw_X7_seen yv_X7_seen (hW.s rfl) (e_X7_seen hm J.2.2.1 _ _ _ _ _) rfl rfl rfl rfl rfl rfl rfl (fun N2 h2 => ?_)
  skip
  refine pk_icmp_eq (tgt := 1097) dL_law_827 (by decide) (fun c_827 => ?_) (fun c_827 => ?_)
  · exact K _ _ (J.to h1.1 h1.2 h2.1 h2.2 J.2.2.1)
  · exact absurd rfl c_827

set_option maxRecDepth 100000 in
set_option maxHeartbeats 4000000 in
theorem lw_c_22 {Γ : pk_T} {b L i : Nat} {xs : Nat → Int32} {N : pk_M} {X : pk_X} (hL : L ≤ 3072) (hi : i + 6 ≤ L) (J : lw_J L xs N X) (K : ∀ N' X', lw_J L xs N' X' → pk_G Γ (lw_k b) cL_law N' [some (.ref 0), some (.ref 5), some (.ref 103), some (.int (nI i))] [] 1097 113 2958) : pk_G Γ (lw_k b) cL_law N [some (.ref 0), some (.ref 5), some (.ref 103), some (.int (nI i))] [] 832 113 2958 := by
  have hW := J.1.1
  have hx := J.2.2.2
  refine pk_aload_n dL_law_832 rfl ?_
  refine pk_aload_n dL_law_833 rfl ?_
  refine pk_iload_n dL_law_834 rfl ?_
  refine pk_iconst (v := nI 1) dL_law_835 (by decide) ?_
  first | refine pk_addN dL_law_836 ?_ | refine pk_iadd dL_law_836 ?_
  refine lw_ald dL_law_837 (hW.s rfl) (by omega) (by omega) (hx _) ?_
  refine pk_aload_n dL_law_838 rfl ?_
  refine pk_iload_n dL_law_839 rfl ?_
  refine pk_iconst (v := nI 2) dL_law_840 (by decide) ?_
  first | refine pk_addN dL_law_841 ?_ | refine pk_iadd dL_law_841 ?_
  refine lw_ald dL_law_842 (hW.s rfl) (by omega) (by omega) (hx _) ?_
  refine pk_aload_n dL_law_843 rfl ?_
  refine pk_iload_n dL_law_844 rfl ?_
  refine pk_iconst (v := nI 3) dL_law_845 (by decide) ?_
  first | refine pk_addN dL_law_846 ?_ | refine pk_iadd dL_law_846 ?_
  refine lw_ald dL_law_847 (hW.s rfl) (by omega) (by omega) (hx _) ?_
  refine pk_aload_n dL_law_848 rfl ?_
  refine pk_iload_n dL_law_849 rfl ?_
  refine pk_iconst (v := nI 4) dL_law_850 (by decide) ?_
  first | refine pk_addN dL_law_851 ?_ | refine pk_iadd dL_law_851 ?_
  refine lw_ald dL_law_852 (hW.s rfl) (by omega) (by omega) (hx _) ?_
  refine pk_Vir dL_law_853 ml_L_106 yw_X6_film yv_X6_film (hW.s rfl) (e_X6_film J.1 J.2.2.1 _ _ _ _) rfl rfl rfl rfl rfl rfl rfl (fun N1 h1 => ?_)
  have hx := J.x1 h1.1
  have hW := h1.2.1
  have hm := pk_RM.cf h1.1 J.2.1
  refine pk_aload_n dL_law_856 rfl ?_
  refine pk_aload_n dL_law_857 rfl ?_
  refine pk_iload_n dL_law_858 rfl ?_
  refine pk_iconst (v := nI 1) dL_law_859 (by decide) ?_
  first | refine pk_addN dL_law_860 ?_ | refine pk_iadd dL_law_860 ?_
  refine lw_ald dL_law_861 (hW.s rfl) (by omega) (by omega) (hx _) ?_
  refine pk_aload_n dL_law_862 rfl ?_
  refine pk_iload_n dL_law_863 rfl ?_
  refine pk_iconst (v := nI 2) dL_law_864 (by decide) ?_
  first | refine pk_addN dL_law_865 ?_ | refine pk_iadd dL_law_865 ?_
  refine lw_ald dL_law_866 (hW.s rfl) (by omega) (by omega) (hx _) ?_
  refine pk_aload_n dL_law_867 rfl ?_
  refine pk_iload_n dL_law_868 rfl ?_
  refine pk_iconst (v := nI 3) dL_law_869 (by decide) ?_
  first | refine pk_addN dL_law_870 ?_ | refine pk_iadd dL_law_870 ?_
  refine lw_ald dL_law_871 (hW.s rfl) (by omega) (by omega) (hx _) ?_
  refine pk_aload_n dL_law_872 rfl ?_
  refine pk_iload_n dL_law_873 rfl ?_
  refine pk_iconst (v := nI 4) dL_law_874 (by decide) ?_
  first | refine pk_addN dL_law_875 ?_ | refine pk_iadd dL_law_875 ?_
  refine lw_ald dL_law_876 (hW.s rfl) (by omega) (by omega) (hx _) ?_
  refine pk_Vir dL_law_877 ml_L_110 yw_X7_film yv_X7_film (hW.s rfl) (e_X7_film hm J.2.2.1 _ _ _ _) rfl rfl rfl rfl rfl rfl rfl (fun N2 h2 => ?_)
  skip
  refine pk_icmp_eq (tgt := 1097) dL_law_880 (by decide) (fun c_880 => ?_) (fun c_880 => ?_)
  · exact K _ _ (J.to h1.1 h1.2 h2.1 h2.2 (ok_film J.2.2.1 _ _ _ _))
  · exact absurd rfl c_880

set_option maxRecDepth 100000 in
set_option maxHeartbeats 4000000 in
theorem lw_c_23 {Γ : pk_T} {b L i : Nat} {xs : Nat → Int32} {N : pk_M} {X : pk_X} (hL : L ≤ 3072) (hi : i + 6 ≤ L) (J : lw_J L xs N X) (K : ∀ N' X', lw_J L xs N' X' → pk_G Γ (lw_k b) cL_law N' [some (.ref 0), some (.ref 5), some (.ref 103), some (.int (nI i))] [] 1097 113 2958) : pk_G Γ (lw_k b) cL_law N [some (.ref 0), some (.ref 5), some (.ref 103), some (.int (nI i))] [] 885 113 2958 := by
  have hW := J.1.1
  have hx := J.2.2.2
  refine pk_aload_n dL_law_885 rfl ?_
  refine pk_aload_n dL_law_886 rfl ?_
  refine pk_iload_n dL_law_887 rfl ?_
  refine pk_iconst (v := nI 1) dL_law_888 (by decide) ?_
  first | refine pk_addN dL_law_889 ?_ | refine pk_iadd dL_law_889 ?_
  refine lw_ald dL_law_890 (hW.s rfl) (by omega) (by omega) (hx _) ?_
  refine pk_aload_n dL_law_891 rfl ?_
  refine pk_iload_n dL_law_892 rfl ?_
  refine pk_iconst (v := nI 2) dL_law_893 (by decide) ?_
  first | refine pk_addN dL_law_894 ?_ | refine pk_iadd dL_law_894 ?_
  refine lw_ald dL_law_895 (hW.s rfl) (by omega) (by omega) (hx _) ?_
  refine pk_aload_n dL_law_896 rfl ?_
  refine pk_iload_n dL_law_897 rfl ?_
  refine pk_iconst (v := nI 3) dL_law_898 (by decide) ?_
  first | refine pk_addN dL_law_899 ?_ | refine pk_iadd dL_law_899 ?_
  refine lw_ald dL_law_900 (hW.s rfl) (by omega) (by omega) (hx _) ?_
  refine pk_Vir dL_law_901 ml_L_111 yw_X6_sheet yv_X6_sheet (hW.s rfl) (e_X6_sheet J.1 J.2.2.1 _ _ _) rfl rfl rfl rfl rfl rfl rfl (fun N1 h1 => ?_)
  have hx := J.x1 h1.1
  have hW := h1.2.1
  have hm := pk_RM.cf h1.1 J.2.1
  refine pk_aload_n dL_law_904 rfl ?_
  refine pk_aload_n dL_law_905 rfl ?_
  refine pk_iload_n dL_law_906 rfl ?_
  refine pk_iconst (v := nI 1) dL_law_907 (by decide) ?_
  first | refine pk_addN dL_law_908 ?_ | refine pk_iadd dL_law_908 ?_
  refine lw_ald dL_law_909 (hW.s rfl) (by omega) (by omega) (hx _) ?_
  refine pk_aload_n dL_law_910 rfl ?_
  refine pk_iload_n dL_law_911 rfl ?_
  refine pk_iconst (v := nI 2) dL_law_912 (by decide) ?_
  first | refine pk_addN dL_law_913 ?_ | refine pk_iadd dL_law_913 ?_
  refine lw_ald dL_law_914 (hW.s rfl) (by omega) (by omega) (hx _) ?_
  refine pk_aload_n dL_law_915 rfl ?_
  refine pk_iload_n dL_law_916 rfl ?_
  refine pk_iconst (v := nI 3) dL_law_917 (by decide) ?_
  first | refine pk_addN dL_law_918 ?_ | refine pk_iadd dL_law_918 ?_
  refine lw_ald dL_law_919 (hW.s rfl) (by omega) (by omega) (hx _) ?_
  refine pk_Vir dL_law_920 ml_L_114 yw_X7_sheet yv_X7_sheet (hW.s rfl) (e_X7_sheet hm J.2.2.1 _ _ _) rfl rfl rfl rfl rfl rfl rfl (fun N2 h2 => ?_)
  skip
  refine pk_icmp_eq (tgt := 1097) dL_law_923 (by decide) (fun c_923 => ?_) (fun c_923 => ?_)
  · exact K _ _ (J.to h1.1 h1.2 h2.1 h2.2 (ok_sheet J.2.2.1 _ _ _))
  · exact absurd rfl c_923

set_option maxRecDepth 100000 in
set_option maxHeartbeats 4000000 in
theorem lw_c_24 {Γ : pk_T} {b L i : Nat} {xs : Nat → Int32} {N : pk_M} {X : pk_X} (hL : L ≤ 3072) (hi : i + 6 ≤ L) (J : lw_J L xs N X) (K : ∀ N' X', lw_J L xs N' X' → pk_G Γ (lw_k b) cL_law N' [some (.ref 0), some (.ref 5), some (.ref 103), some (.int (nI i))] [] 1097 113 2958) : pk_G Γ (lw_k b) cL_law N [some (.ref 0), some (.ref 5), some (.ref 103), some (.int (nI i))] [] 928 113 2958 := by
  have hW := J.1.1
  have hx := J.2.2.2
  refine pk_aload_n dL_law_928 rfl ?_
  refine pk_aload_n dL_law_929 rfl ?_
  refine pk_iload_n dL_law_930 rfl ?_
  refine pk_iconst (v := nI 1) dL_law_931 (by decide) ?_
  first | refine pk_addN dL_law_932 ?_ | refine pk_iadd dL_law_932 ?_
  refine lw_ald dL_law_933 (hW.s rfl) (by omega) (by omega) (hx _) ?_
  refine pk_Vir dL_law_934 ml_L_115 yw_X6_drop yv_X6_drop (hW.s rfl) (e_X6_drop J.1 J.2.2.1 _) rfl rfl rfl rfl rfl rfl rfl (fun N1 h1 => ?_)
  have hx := J.x1 h1.1
  have hW := h1.2.1
  have hm := pk_RM.cf h1.1 J.2.1
  refine pk_aload_n dL_law_937 rfl ?_
  refine pk_aload_n dL_law_938 rfl ?_
  refine pk_iload_n dL_law_939 rfl ?_
  refine pk_iconst (v := nI 1) dL_law_940 (by decide) ?_
  first | refine pk_addN dL_law_941 ?_ | refine pk_iadd dL_law_941 ?_
  refine lw_ald dL_law_942 (hW.s rfl) (by omega) (by omega) (hx _) ?_
  refine pk_Vir dL_law_943 ml_L_118 yw_X7_drop yv_X7_drop (hW.s rfl) (e_X7_drop hm J.2.2.1 _) rfl rfl rfl rfl rfl rfl rfl (fun N2 h2 => ?_)
  skip
  refine pk_icmp_eq (tgt := 1097) dL_law_946 (by decide) (fun c_946 => ?_) (fun c_946 => ?_)
  · exact K _ _ (J.to h1.1 h1.2 h2.1 h2.2 (ok_drop J.2.2.1 _))
  · exact absurd rfl c_946

set_option maxRecDepth 100000 in
set_option maxHeartbeats 4000000 in
theorem lw_c_25 {Γ : pk_T} {b L i : Nat} {xs : Nat → Int32} {N : pk_M} {X : pk_X} (hL : L ≤ 3072) (hi : i + 6 ≤ L) (J : lw_J L xs N X) (K : ∀ N' X', lw_J L xs N' X' → pk_G Γ (lw_k b) cL_law N' [some (.ref 0), some (.ref 5), some (.ref 103), some (.int (nI i))] [] 1097 113 2958) : pk_G Γ (lw_k b) cL_law N [some (.ref 0), some (.ref 5), some (.ref 103), some (.int (nI i))] [] 951 113 2958 := by
  have hW := J.1.1
  have hx := J.2.2.2
  refine pk_aload_n dL_law_951 rfl ?_
  refine pk_aload_n dL_law_952 rfl ?_
  refine pk_iload_n dL_law_953 rfl ?_
  refine pk_iconst (v := nI 1) dL_law_954 (by decide) ?_
  first | refine pk_addN dL_law_955 ?_ | refine pk_iadd dL_law_955 ?_
  refine lw_ald dL_law_956 (hW.s rfl) (by omega) (by omega) (hx _) ?_
  refine pk_aload_n dL_law_957 rfl ?_
  refine pk_iload_n dL_law_958 rfl ?_
  refine pk_iconst (v := nI 2) dL_law_959 (by decide) ?_
  first | refine pk_addN dL_law_960 ?_ | refine pk_iadd dL_law_960 ?_
  refine lw_ald dL_law_961 (hW.s rfl) (by omega) (by omega) (hx _) ?_
  refine pk_aload_n dL_law_962 rfl ?_
  refine pk_iload_n dL_law_963 rfl ?_
  refine pk_iconst (v := nI 3) dL_law_964 (by decide) ?_
  first | refine pk_addN dL_law_965 ?_ | refine pk_iadd dL_law_965 ?_
  refine lw_ald dL_law_966 (hW.s rfl) (by omega) (by omega) (hx _) ?_
  refine pk_aload_n dL_law_967 rfl ?_
  refine pk_iload_n dL_law_968 rfl ?_
  refine pk_iconst (v := nI 4) dL_law_969 (by decide) ?_
  first | refine pk_addN dL_law_970 ?_ | refine pk_iadd dL_law_970 ?_
  refine lw_ald dL_law_971 (hW.s rfl) (by omega) (by omega) (hx _) ?_
  refine pk_i2l dL_law_972 ?_
  refine pk_bipush (v := nI 32) dL_law_973 (by decide) ?_
  refine pk_lshl dL_law_975 rfl ?_
  refine pk_aload_n dL_law_976 rfl ?_
  refine pk_iload_n dL_law_977 rfl ?_
  refine pk_iconst (v := nI 5) dL_law_978 (by decide) ?_
  first | refine pk_addN dL_law_979 ?_ | refine pk_iadd dL_law_979 ?_
  refine lw_ald dL_law_980 (hW.s rfl) (by omega) (by omega) (hx _) ?_
  refine pk_i2l dL_law_981 ?_
  refine pk_ldc2 dL_law_982 kc_L_119 ?_
  refine pk_land dL_law_985 ?_
  refine pk_lor dL_law_986 ?_
  refine pk_Vir dL_law_987 ml_L_121 yw_X6_item yv_X6_item (hW.s rfl) (e_X6_item J.1 J.2.2.1 _ _ _ _) rfl rfl rfl rfl rfl rfl rfl (fun N1 h1 => ?_)
  have hx := J.x1 h1.1
  have hW := h1.2.1
  have hm := pk_RM.cf h1.1 J.2.1
  refine pk_aload_n dL_law_990 rfl ?_
  refine pk_aload_n dL_law_991 rfl ?_
  refine pk_iload_n dL_law_992 rfl ?_
  refine pk_iconst (v := nI 1) dL_law_993 (by decide) ?_
  first | refine pk_addN dL_law_994 ?_ | refine pk_iadd dL_law_994 ?_
  refine lw_ald dL_law_995 (hW.s rfl) (by omega) (by omega) (hx _) ?_
  refine pk_aload_n dL_law_996 rfl ?_
  refine pk_iload_n dL_law_997 rfl ?_
  refine pk_iconst (v := nI 2) dL_law_998 (by decide) ?_
  first | refine pk_addN dL_law_999 ?_ | refine pk_iadd dL_law_999 ?_
  refine lw_ald dL_law_1000 (hW.s rfl) (by omega) (by omega) (hx _) ?_
  refine pk_aload_n dL_law_1001 rfl ?_
  refine pk_iload_n dL_law_1002 rfl ?_
  refine pk_iconst (v := nI 3) dL_law_1003 (by decide) ?_
  first | refine pk_addN dL_law_1004 ?_ | refine pk_iadd dL_law_1004 ?_
  refine lw_ald dL_law_1005 (hW.s rfl) (by omega) (by omega) (hx _) ?_
  refine pk_aload_n dL_law_1006 rfl ?_
  refine pk_iload_n dL_law_1007 rfl ?_
  refine pk_iconst (v := nI 4) dL_law_1008 (by decide) ?_
  first | refine pk_addN dL_law_1009 ?_ | refine pk_iadd dL_law_1009 ?_
  refine lw_ald dL_law_1010 (hW.s rfl) (by omega) (by omega) (hx _) ?_
  refine pk_i2l dL_law_1011 ?_
  refine pk_bipush (v := nI 32) dL_law_1012 (by decide) ?_
  refine pk_lshl dL_law_1014 rfl ?_
  refine pk_aload_n dL_law_1015 rfl ?_
  refine pk_iload_n dL_law_1016 rfl ?_
  refine pk_iconst (v := nI 5) dL_law_1017 (by decide) ?_
  first | refine pk_addN dL_law_1018 ?_ | refine pk_iadd dL_law_1018 ?_
  refine lw_ald dL_law_1019 (hW.s rfl) (by omega) (by omega) (hx _) ?_
  refine pk_i2l dL_law_1020 ?_
  refine pk_ldc2 dL_law_1021 kc_L_119 ?_
  refine pk_land dL_law_1024 ?_
  refine pk_lor dL_law_1025 ?_
  refine pk_Vir dL_law_1026 ml_L_125 yw_X7_item yv_X7_item (hW.s rfl) (e_X7_item hm J.2.2.1 _ _ _ _) rfl rfl rfl rfl rfl rfl rfl (fun N2 h2 => ?_)
  skip
  refine pk_icmp_eq (tgt := 1097) dL_law_1029 (by decide) (fun c_1029 => ?_) (fun c_1029 => ?_)
  · exact K _ _ (J.to h1.1 h1.2 h2.1 h2.2 (ok_item J.2.2.1 _ _ _ _))
  · exact absurd rfl c_1029

set_option maxRecDepth 100000 in
set_option maxHeartbeats 4000000 in
theorem lw_c_26 {Γ : pk_T} {b L i : Nat} {xs : Nat → Int32} {N : pk_M} {X : pk_X} (hL : L ≤ 3072) (hi : i + 6 ≤ L) (J : lw_J L xs N X) (K : ∀ N' X', lw_J L xs N' X' → pk_G Γ (lw_k b) cL_law N' [some (.ref 0), some (.ref 5), some (.ref 103), some (.int (nI i))] [] 1097 113 2958) : pk_G Γ (lw_k b) cL_law N [some (.ref 0), some (.ref 5), some (.ref 103), some (.int (nI i))] [] 1034 113 2958 := by
  have hW := J.1.1
  have hx := J.2.2.2
  refine pk_aload_n dL_law_1034 rfl ?_
  refine pk_aload_n dL_law_1035 rfl ?_
  refine pk_iload_n dL_law_1036 rfl ?_
  refine pk_iconst (v := nI 1) dL_law_1037 (by decide) ?_
  first | refine pk_addN dL_law_1038 ?_ | refine pk_iadd dL_law_1038 ?_
  refine lw_ald dL_law_1039 (hW.s rfl) (by omega) (by omega) (hx _) ?_
  refine pk_aload_n dL_law_1040 rfl ?_
  refine pk_iload_n dL_law_1041 rfl ?_
  refine pk_iconst (v := nI 2) dL_law_1042 (by decide) ?_
  first | refine pk_addN dL_law_1043 ?_ | refine pk_iadd dL_law_1043 ?_
  refine lw_ald dL_law_1044 (hW.s rfl) (by omega) (by omega) (hx _) ?_
  refine pk_aload_n dL_law_1045 rfl ?_
  refine pk_iload_n dL_law_1046 rfl ?_
  refine pk_iconst (v := nI 3) dL_law_1047 (by decide) ?_
  first | refine pk_addN dL_law_1048 ?_ | refine pk_iadd dL_law_1048 ?_
  refine lw_ald dL_law_1049 (hW.s rfl) (by omega) (by omega) (hx _) ?_
  refine pk_aload_n dL_law_1050 rfl ?_
  refine pk_iload_n dL_law_1051 rfl ?_
  refine pk_iconst (v := nI 4) dL_law_1052 (by decide) ?_
  first | refine pk_addN dL_law_1053 ?_ | refine pk_iadd dL_law_1053 ?_
  refine lw_ald dL_law_1054 (hW.s rfl) (by omega) (by omega) (hx _) ?_
  refine pk_aload_n dL_law_1055 rfl ?_
  refine pk_iload_n dL_law_1056 rfl ?_
  refine pk_iconst (v := nI 5) dL_law_1057 (by decide) ?_
  first | refine pk_addN dL_law_1058 ?_ | refine pk_iadd dL_law_1058 ?_
  refine lw_ald dL_law_1059 (hW.s rfl) (by omega) (by omega) (hx _) ?_
  refine pk_Vir dL_law_1060 ml_L_126 yw_X6_copy yv_X6_copy (hW.s rfl) (e_X6_copy J.1 J.2.2.1 _ _ _ _ _) rfl rfl rfl rfl rfl rfl rfl (fun N1 h1 => ?_)
  have hx := J.x1 h1.1
  have hW := h1.2.1
  have hm := pk_RM.cf h1.1 J.2.1
  refine pk_aload_n dL_law_1063 rfl ?_
  refine pk_aload_n dL_law_1064 rfl ?_
  refine pk_iload_n dL_law_1065 rfl ?_
  refine pk_iconst (v := nI 1) dL_law_1066 (by decide) ?_
  first | refine pk_addN dL_law_1067 ?_ | refine pk_iadd dL_law_1067 ?_
  refine lw_ald dL_law_1068 (hW.s rfl) (by omega) (by omega) (hx _) ?_
  refine pk_aload_n dL_law_1069 rfl ?_
  refine pk_iload_n dL_law_1070 rfl ?_
  refine pk_iconst (v := nI 2) dL_law_1071 (by decide) ?_
  first | refine pk_addN dL_law_1072 ?_ | refine pk_iadd dL_law_1072 ?_
  refine lw_ald dL_law_1073 (hW.s rfl) (by omega) (by omega) (hx _) ?_
  refine pk_aload_n dL_law_1074 rfl ?_
  refine pk_iload_n dL_law_1075 rfl ?_
  refine pk_iconst (v := nI 3) dL_law_1076 (by decide) ?_
  first | refine pk_addN dL_law_1077 ?_ | refine pk_iadd dL_law_1077 ?_
  refine lw_ald dL_law_1078 (hW.s rfl) (by omega) (by omega) (hx _) ?_
  refine pk_aload_n dL_law_1079 rfl ?_
  refine pk_iload_n dL_law_1080 rfl ?_
  refine pk_iconst (v := nI 4) dL_law_1081 (by decide) ?_
  first | refine pk_addN dL_law_1082 ?_ | refine pk_iadd dL_law_1082 ?_
  refine lw_ald dL_law_1083 (hW.s rfl) (by omega) (by omega) (hx _) ?_
  refine pk_aload_n dL_law_1084 rfl ?_
  refine pk_iload_n dL_law_1085 rfl ?_
  refine pk_iconst (v := nI 5) dL_law_1086 (by decide) ?_
  first | refine pk_addN dL_law_1087 ?_ | refine pk_iadd dL_law_1087 ?_
  refine lw_ald dL_law_1088 (hW.s rfl) (by omega) (by omega) (hx _) ?_
  refine pk_Vir dL_law_1089 ml_L_129 yw_X7_copy yv_X7_copy (hW.s rfl) (e_X7_copy hm J.2.2.1 _ _ _ _ _) rfl rfl rfl rfl rfl rfl rfl (fun N2 h2 => ?_)
  skip
  refine pk_icmp_eq (tgt := 1097) dL_law_1092 (by decide) (fun c_1092 => ?_) (fun c_1092 => ?_)
  · exact K _ _ (J.to h1.1 h1.2 h2.1 h2.2 (ok_copy J.2.2.1 _ _ _ _ _))
  · exact absurd rfl c_1092

theorem nI_add6 (i : Nat) : nI i + Int32.ofInt 6 = nI (i + 6) := (nI_add i 6)
set_option maxRecDepth 100000 in
set_option maxHeartbeats 4000000 in
theorem lw_loop {Γ : pk_T} {b L : Nat} {xs : Nat → Int32} (hL : L ≤ 3072) (E : ∀ N ls, N.1.length = 118 → pk_G Γ (lw_k b) cL_law N ls [] 1103 113 2958) {N : pk_M} {X : pk_X} (J0 : lw_J L xs N X) : pk_G Γ (lw_k b) cL_law N [some (.ref 0), some (.ref 5), some (.ref 103), some (.int (nI 0))] [] 18 113 2958 := by
  refine pk_wf (α := pk_M × pk_X × Nat) (fun a => L - a.2.2) (fun a => lw_J L xs a.1 a.2.1 ∧ a.2.2 ≤ L) (fun a => a.1) (fun a => [some (.ref 0), some (.ref 5), some (.ref 103), some (.int (nI a.2.2))]) ?_ (N, X, 0) ⟨J0, Nat.zero_le _⟩
  rintro ⟨N, X, i⟩ ⟨J, hi⟩ ih
  have J : lw_J L xs N X := J
  have hi : i ≤ L := hi
  show pk_G Γ (lw_k b) cL_law N [some (.ref 0), some (.ref 5), some (.ref 103), some (.int (nI i))] [] 18 113 2958
  have hW := J.1.1
  have hx := J.2.2.2
  have K1 : i + 6 ≤ L → ∀ N' X', lw_J L xs N' X' → pk_G Γ (lw_k b) cL_law N' [some (.ref 0), some (.ref 5), some (.ref 103), some (.int (nI i))] [] 1097 113 2958 := by
    intro c_24 N' X' J'
    refine pk_iinc dL_law_1097 rfl (nI_add6 i) rfl ?_
    refine pk_goto (tgt := 18) dL_law_1100 (by decide) ?_
    exact ih (N', X', i + 6) ⟨J', c_24⟩ (by show L - (i + 6) < L - i; omega)
  refine pk_iload_n dL_law_18 rfl ?_
  refine pk_aload_n dL_law_19 rfl ?_
  refine pk_alen (q := 0) (N := L) dL_law_20 (by decide) (hW.s rfl) ?_
  refine pk_bipush (v := nI 6) dL_law_21 (by decide) ?_
  refine pk_isub dL_law_23 ?_
  refine pk_icmp_gt (tgt := 1103) dL_law_24 (by decide) (fun c_24 => ?_) (fun c_24 => ?_)
  · exact E _ _ (by rw [hW.1]; rfl)
  · replace c_24 : i + 6 ≤ L := lw_lt hL hi c_24
    refine pk_aload_n dL_law_27 rfl ?_
    refine pk_iload_n dL_law_28 rfl ?_
    refine lw_ald dL_law_29 (hW.s rfl) (by omega) (by omega) (hx _) ?_
    refine pk_bipush (v := nI 31) dL_law_30 (by decide) ?_
    first | refine pk_andNN dL_law_32 ?_ | refine pk_iand dL_law_32 ?_
    generalize xs i &&& nI 31 = z
    rcases pk_ix z (n := 27) (by decide) with c_33 | c_33 | ⟨j_33, hj_33, e_33⟩
    · refine pk_swOut (tgt := 1097) dL_law_33 (Or.inl (pk_sw1 c_33)) (by decide) ?_
      exact (K1 c_24) _ _ J
    · refine pk_swOut (tgt := 1097) dL_law_33 (Or.inr (pk_sw2 (by decide) c_33)) (by decide) ?_
      exact (K1 c_24) _ _ J
    · subst e_33
      obtain rfl | rfl | rfl | rfl | rfl | rfl | rfl | rfl | rfl | rfl | rfl | rfl | rfl | rfl | rfl | rfl | rfl | rfl | rfl | rfl | rfl | rfl | rfl | rfl | rfl | rfl | rfl : j_33 = 0 ∨ j_33 = 1 ∨ j_33 = 2 ∨ j_33 = 3 ∨ j_33 = 4 ∨ j_33 = 5 ∨ j_33 = 6 ∨ j_33 = 7 ∨ j_33 = 8 ∨ j_33 = 9 ∨ j_33 = 10 ∨ j_33 = 11 ∨ j_33 = 12 ∨ j_33 = 13 ∨ j_33 = 14 ∨ j_33 = 15 ∨ j_33 = 16 ∨ j_33 = 17 ∨ j_33 = 18 ∨ j_33 = 19 ∨ j_33 = 20 ∨ j_33 = 21 ∨ j_33 = 22 ∨ j_33 = 23 ∨ j_33 = 24 ∨ j_33 = 25 ∨ j_33 = 26 := by omega
      · refine pk_swIn (off := 123) (tgt := 156) dL_law_33 (by decide) (by decide) rfl (by decide) ?_
        exact lw_c_0 hL c_24 J (K1 c_24)
      · refine pk_swIn (off := 156) (tgt := 189) dL_law_33 (by decide) (by decide) rfl (by decide) ?_
        exact lw_c_1 hL c_24 J (K1 c_24)
      · refine pk_swIn (off := 189) (tgt := 222) dL_law_33 (by decide) (by decide) rfl (by decide) ?_
        exact lw_c_2 hL c_24 J (K1 c_24)
      · refine pk_swIn (off := 232) (tgt := 265) dL_law_33 (by decide) (by decide) rfl (by decide) ?_
        exact lw_c_3 hL c_24 J (K1 c_24)
      · refine pk_swIn (off := 265) (tgt := 298) dL_law_33 (by decide) (by decide) rfl (by decide) ?_
        exact lw_c_4 hL c_24 J (K1 c_24)
      · refine pk_swIn (off := 288) (tgt := 321) dL_law_33 (by decide) (by decide) rfl (by decide) ?_
        exact lw_c_5 hL c_24 J (K1 c_24)
      · refine pk_swIn (off := 301) (tgt := 334) dL_law_33 (by decide) (by decide) rfl (by decide) ?_
        exact lw_c_6 hL c_24 J (K1 c_24)
      · refine pk_swIn (off := 324) (tgt := 357) dL_law_33 (by decide) (by decide) rfl (by decide) ?_
        exact lw_c_7 hL c_24 J (K1 c_24)
      · refine pk_swIn (off := 367) (tgt := 400) dL_law_33 (by decide) (by decide) rfl (by decide) ?_
        exact lw_c_8 hL c_24 J (K1 c_24)
      · refine pk_swIn (off := 390) (tgt := 423) dL_law_33 (by decide) (by decide) rfl (by decide) ?_
        exact lw_c_9 hL c_24 J (K1 c_24)
      · refine pk_swIn (off := 433) (tgt := 466) dL_law_33 (by decide) (by decide) rfl (by decide) ?_
        exact lw_c_10 hL c_24 J (K1 c_24)
      · refine pk_swIn (off := 466) (tgt := 499) dL_law_33 (by decide) (by decide) rfl (by decide) ?_
        exact lw_c_11 hL c_24 J (K1 c_24)
      · refine pk_swIn (off := 479) (tgt := 512) dL_law_33 (by decide) (by decide) rfl (by decide) ?_
        exact lw_c_12 hL c_24 J (K1 c_24)
      · refine pk_swIn (off := 512) (tgt := 545) dL_law_33 (by decide) (by decide) rfl (by decide) ?_
        exact lw_c_13 hL c_24 J (K1 c_24)
      · refine pk_swIn (off := 535) (tgt := 568) dL_law_33 (by decide) (by decide) rfl (by decide) ?_
        exact lw_c_14 hL c_24 J (K1 c_24)
      · refine pk_swIn (off := 548) (tgt := 581) dL_law_33 (by decide) (by decide) rfl (by decide) ?_
        exact lw_c_15 hL c_24 J (K1 c_24)
      · refine pk_swIn (off := 571) (tgt := 604) dL_law_33 (by decide) (by decide) rfl (by decide) ?_
        exact lw_c_16 hL c_24 J (K1 c_24)
      · refine pk_swIn (off := 614) (tgt := 647) dL_law_33 (by decide) (by decide) rfl (by decide) ?_
        exact lw_c_17 hL c_24 J (K1 c_24)
      · refine pk_swIn (off := 677) (tgt := 710) dL_law_33 (by decide) (by decide) rfl (by decide) ?_
        exact lw_c_18 hL c_24 J (K1 c_24)
      · refine pk_swIn (off := 710) (tgt := 743) dL_law_33 (by decide) (by decide) rfl (by decide) ?_
        exact lw_c_19 hL c_24 J (K1 c_24)
      · refine pk_swIn (off := 723) (tgt := 756) dL_law_33 (by decide) (by decide) rfl (by decide) ?_
        exact lw_c_20 hL c_24 J (K1 c_24)
      · refine pk_swIn (off := 736) (tgt := 769) dL_law_33 (by decide) (by decide) rfl (by decide) ?_
        exact lw_c_21 hL c_24 J (K1 c_24)
      · refine pk_swIn (off := 799) (tgt := 832) dL_law_33 (by decide) (by decide) rfl (by decide) ?_
        exact lw_c_22 hL c_24 J (K1 c_24)
      · refine pk_swIn (off := 852) (tgt := 885) dL_law_33 (by decide) (by decide) rfl (by decide) ?_
        exact lw_c_23 hL c_24 J (K1 c_24)
      · refine pk_swIn (off := 895) (tgt := 928) dL_law_33 (by decide) (by decide) rfl (by decide) ?_
        exact lw_c_24 hL c_24 J (K1 c_24)
      · refine pk_swIn (off := 918) (tgt := 951) dL_law_33 (by decide) (by decide) rfl (by decide) ?_
        exact lw_c_25 hL c_24 J (K1 c_24)
      · refine pk_swIn (off := 1001) (tgt := 1034) dL_law_33 (by decide) (by decide) rfl (by decide) ?_
        exact lw_c_26 hL c_24 J (K1 c_24)
