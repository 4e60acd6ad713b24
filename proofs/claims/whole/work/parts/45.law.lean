/-- the law's code, under any name -/
abbrev mLaw (nm : String) : zk_M := (⟨"CopyInsertsLaw", nm, "([I)Z"⟩, code, 4, (some .boolean))
theorem zk_icmp_same {G : zk_G} {M : zk_M} {d : Nat × Nat} {kc ks pc : Nat} {ls : List (Option zk_V)} {st : List zk_V} {h : zk_H} {Q : Option zk_V → zk_H → Prop} {x : Int} {off : Int} {tgt : Nat} (hd : decode M.2.1 pc = .ok (.if_icmp .eq off, 3)) (ht : (pc : Int) + off = (tgt : Int)) (kt : zk_W G M d kc ks tgt ls st h Q) : zk_W G M d kc ks pc ls (.inl x :: .inl x :: st) h Q := by
  intro p e R s m args below meth c X H locs cells slots mc ms lsr Qs hP hS h1 h2 h3 h4 hL hE
  exact lv_icmp_eq (x := Int32.ofInt x) (y := Int32.ofInt x) (rest := st.map (zk_rv G)) X.1 X.2.1 hd ht (fun _ => (kt p e R s m args below meth c X H locs cells slots mc ms lsr Qs hP hS h1 h2 h3 h4 hL hE)) (fun q => absurd rfl q)
theorem zl_rg (G : zk_G) (k : Nat) : zk_rg (zk_gX G k).toInt := ⟨by have := Int32.le_toInt (zk_gX G k); omega, by have := Int32.toInt_lt (zk_gX G k); omega⟩

set_option maxRecDepth 100000 in
set_option maxHeartbeats 4000000 in
theorem wL_loop (G : zk_G) (nm : String) (hL : zk_gL G ≤ 3072) : ∀ (k i : Nat) (sw : Bool) (σ : Nat → Int) (α : Nat → Nat → Int) (τ : Nat → Int) (β : Nat → Nat → Int), i ≤ zk_gL G + 6 → zk_gL G + 6 < i + k → zz σ α τ β → zk_W G (mLaw nm) (7, 160) 0 0 18 [some (.inr (some 0)), some (.inr (some 1)), some (.inr (some 22)), some (.inl (i : Int))] [] (zk_mk G sw σ α (zk_md τ β [])) (fun v h' => v = some (.inl 1)) := by
  intro k
  induction k with
  | zero =>
    intro i sw σ α τ β g1 g2 hz
    exfalso
    omega
  | succ k ih =>
    intro i sw σ α τ β g1 g2 hz
    refine zk_iload_n dL_law_18 rfl ?_
    refine zk_aload_n dL_law_19 rfl ?_
    refine zk_alen dL_law_20 (n := zk_gL G) (f := fun j => (zk_gX G j).toInt) rfl ?_
    refine zk_bipush dL_law_21 (by decide) ?_
    refine zk_isub dL_law_23 ?_
    refine zk_icmp_gt (tgt := 789) dL_law_24 (by decide) ⟨by omega, by omega⟩ ⟨by omega, by omega⟩ (fun h24 => ?_) (fun h24 => ?_)
    · skip
      refine zk_iconst dL_law_789 ?_
      exact zk_zret dL_law_790 rfl (by decide) rfl
    · skip
      refine zk_aload_n dL_law_27 rfl ?_
      refine zk_iload_n dL_law_28 rfl ?_
      refine zk_iald dL_law_29 (n := zk_gL G) (f := fun j => (zk_gX G j).toInt) rfl (by omega) (by omega) (by omega) ?_
      refine zk_bipush dL_law_30 (by decide) ?_
      refine zk_iand31 dL_law_32 ?_
      by_cases h33_0 : ((zk_gX G (i : Int).toNat).toInt) % 32 = 0
      · skip
        refine zk_tableIn (tgt := 148) dL_law_33 ⟨by omega, by omega⟩ (by omega) (by omega) (by rw [h33_0]; rfl) (by decide) ?_
        refine zk_aload_n dL_law_148 rfl ?_
        refine zk_callV (av := []) (st := []) (d' := (2, 45)) (kc' := 0) (ks' := 0) zbL_13 dL_law_149 rfl (by decide) rfl rfl (Nat.le_of_ble_eq_true rfl) ⟨by decide, by decide⟩ rfl rfl (zd_clear G sw σ α τ β [] hz ) (fun v9 h9 q9 => ?_)
        obtain ⟨sw', σ', α', r, rfl, rfl, hM⟩ := q9
        refine zk_W.to (ls' := [some (.inr (some 0)), some (.inr (some 1)), some (.inr (some 22)), some (.inl (i : Int))]) (st' := [.inl r]) (h' := (zk_mk G sw' σ' α' (zk_md τ β []))) rfl rfl rfl ?_
        refine zk_aload_n dL_law_152 rfl ?_
        refine zk_callV (av := []) (st := [.inl r]) (d' := (1, 20)) (kc' := 0) (ks' := 0) zbL_17 dL_law_153 rfl (by decide) rfl rfl (Nat.le_of_ble_eq_true rfl) ⟨by decide, by decide⟩ rfl rfl (hM) (fun v9 h9 q9 => ?_)
        obtain ⟨rfl, τ', β', rfl, hz'⟩ := q9
        refine zk_W.to (ls' := [some (.inr (some 0)), some (.inr (some 1)), some (.inr (some 22)), some (.inl (i : Int))]) (st' := [.inl r, .inl r]) (h' := (zk_mk G sw' σ' α' (zk_md τ' β' []))) rfl rfl rfl ?_
        refine zk_icmp_same (tgt := 783) dL_law_156 (by decide) ?_
        refine zk_iinc (ls' := [some (.inr (some 0)), some (.inr (some 1)), some (.inr (some 22)), some (.inl ((i : Int) + 6))]) dL_law_783 rfl (Nat.le_of_ble_eq_true rfl) rfl ?_
        refine zk_goto (tgt := 18) dL_law_786 (by decide) ?_
        have e6 : (i : Int) + 6 = ((i + 6 : Nat) : Int) := by omega
        rw [e6]
        exact ih (i + 6) sw' σ' α' τ' β' (by omega) (by omega) hz'
      by_cases h33_1 : ((zk_gX G (i : Int).toNat).toInt) % 32 = 1
      · skip
        refine zk_tableIn (tgt := 161) dL_law_33 ⟨by omega, by omega⟩ (by omega) (by omega) (by rw [h33_1]; rfl) (by decide) ?_
        refine zk_aload_n dL_law_161 rfl ?_
        refine zk_aload_n dL_law_162 rfl ?_
        refine zk_iload_n dL_law_163 rfl ?_
        refine zk_iconst dL_law_164 ?_
        refine zk_iadd dL_law_165 ?_
        refine zk_iald dL_law_166 (n := zk_gL G) (f := fun j => (zk_gX G j).toInt) rfl (by omega) (by omega) (by omega) ?_
        refine zk_aload_n dL_law_167 rfl ?_
        refine zk_iload_n dL_law_168 rfl ?_
        refine zk_iconst dL_law_169 ?_
        refine zk_iadd dL_law_170 ?_
        refine zk_iald dL_law_171 (n := zk_gL G) (f := fun j => (zk_gX G j).toInt) rfl (by omega) (by omega) (by omega) ?_
        refine zk_callV (av := [.inl ((zk_gX G ((i : Int) + 1).toNat).toInt), .inl ((zk_gX G ((i : Int) + 2).toNat).toInt)]) (st := []) (d' := (2, 41)) (kc' := 0) (ks' := 0) zbL_18 dL_law_172 rfl (by decide) rfl rfl (Nat.le_of_ble_eq_true rfl) ⟨by decide, by decide⟩ rfl rfl (zd_put G sw σ α τ β [] hz (zl_rg G _) (zl_rg G _)) (fun v9 h9 q9 => ?_)
        obtain ⟨sw', σ', α', r, rfl, rfl, hM⟩ := q9
        refine zk_W.to (ls' := [some (.inr (some 0)), some (.inr (some 1)), some (.inr (some 22)), some (.inl (i : Int))]) (st' := [.inl r]) (h' := (zk_mk G sw' σ' α' (zk_md τ β []))) rfl rfl rfl ?_
        refine zk_aload_n dL_law_175 rfl ?_
        refine zk_aload_n dL_law_176 rfl ?_
        refine zk_iload_n dL_law_177 rfl ?_
        refine zk_iconst dL_law_178 ?_
        refine zk_iadd dL_law_179 ?_
        refine zk_iald dL_law_180 (n := zk_gL G) (f := fun j => (zk_gX G j).toInt) rfl (by omega) (by omega) (by omega) ?_
        refine zk_aload_n dL_law_181 rfl ?_
        refine zk_iload_n dL_law_182 rfl ?_
        refine zk_iconst dL_law_183 ?_
        refine zk_iadd dL_law_184 ?_
        refine zk_iald dL_law_185 (n := zk_gL G) (f := fun j => (zk_gX G j).toInt) rfl (by omega) (by omega) (by omega) ?_
        refine zk_callV (av := [.inl ((zk_gX G ((i : Int) + 1).toNat).toInt), .inl ((zk_gX G ((i : Int) + 2).toNat).toInt)]) (st := [.inl r]) (d' := (1, 22)) (kc' := 0) (ks' := 0) zbL_22 dL_law_186 rfl (by decide) rfl rfl (Nat.le_of_ble_eq_true rfl) ⟨by decide, by decide⟩ rfl rfl (hM) (fun v9 h9 q9 => ?_)
        obtain ⟨rfl, τ', β', rfl, hz'⟩ := q9
        refine zk_W.to (ls' := [some (.inr (some 0)), some (.inr (some 1)), some (.inr (some 22)), some (.inl (i : Int))]) (st' := [.inl r, .inl r]) (h' := (zk_mk G sw' σ' α' (zk_md τ' β' []))) rfl rfl rfl ?_
        refine zk_icmp_same (tgt := 783) dL_law_189 (by decide) ?_
        refine zk_iinc (ls' := [some (.inr (some 0)), some (.inr (some 1)), some (.inr (some 22)), some (.inl ((i : Int) + 6))]) dL_law_783 rfl (Nat.le_of_ble_eq_true rfl) rfl ?_
        refine zk_goto (tgt := 18) dL_law_786 (by decide) ?_
        have e6 : (i : Int) + 6 = ((i + 6 : Nat) : Int) := by omega
        rw [e6]
        exact ih (i + 6) sw' σ' α' τ' β' (by omega) (by omega) hz'
      by_cases h33_2 : ((zk_gX G (i : Int).toNat).toInt) % 32 = 2
      · skip
        refine zk_tableIn (tgt := 194) dL_law_33 ⟨by omega, by omega⟩ (by omega) (by omega) (by rw [h33_2]; rfl) (by decide) ?_
        refine zk_aload_n dL_law_194 rfl ?_
        refine zk_aload_n dL_law_195 rfl ?_
        refine zk_iload_n dL_law_196 rfl ?_
        refine zk_iconst dL_law_197 ?_
        refine zk_iadd dL_law_198 ?_
        refine zk_iald dL_law_199 (n := zk_gL G) (f := fun j => (zk_gX G j).toInt) rfl (by omega) (by omega) (by omega) ?_
        refine zk_aload_n dL_law_200 rfl ?_
        refine zk_iload_n dL_law_201 rfl ?_
        refine zk_iconst dL_law_202 ?_
        refine zk_iadd dL_law_203 ?_
        refine zk_iald dL_law_204 (n := zk_gL G) (f := fun j => (zk_gX G j).toInt) rfl (by omega) (by omega) (by omega) ?_
        refine zk_callV (av := [.inl ((zk_gX G ((i : Int) + 1).toNat).toInt), .inl ((zk_gX G ((i : Int) + 2).toNat).toInt)]) (st := []) (d' := (2, 39)) (kc' := 0) (ks' := 0) zbL_23 dL_law_205 rfl (by decide) rfl rfl (Nat.le_of_ble_eq_true rfl) ⟨by decide, by decide⟩ rfl rfl (zd_cut G sw σ α τ β [] hz (zl_rg G _) (zl_rg G _)) (fun v9 h9 q9 => ?_)
        obtain ⟨sw', σ', α', r, rfl, rfl, hM⟩ := q9
        refine zk_W.to (ls' := [some (.inr (some 0)), some (.inr (some 1)), some (.inr (some 22)), some (.inl (i : Int))]) (st' := [.inl r]) (h' := (zk_mk G sw' σ' α' (zk_md τ β []))) rfl rfl rfl ?_
        refine zk_aload_n dL_law_208 rfl ?_
        refine zk_aload_n dL_law_209 rfl ?_
        refine zk_iload_n dL_law_210 rfl ?_
        refine zk_iconst dL_law_211 ?_
        refine zk_iadd dL_law_212 ?_
        refine zk_iald dL_law_213 (n := zk_gL G) (f := fun j => (zk_gX G j).toInt) rfl (by omega) (by omega) (by omega) ?_
        refine zk_aload_n dL_law_214 rfl ?_
        refine zk_iload_n dL_law_215 rfl ?_
        refine zk_iconst dL_law_216 ?_
        refine zk_iadd dL_law_217 ?_
        refine zk_iald dL_law_218 (n := zk_gL G) (f := fun j => (zk_gX G j).toInt) rfl (by omega) (by omega) (by omega) ?_
        refine zk_callV (av := [.inl ((zk_gX G ((i : Int) + 1).toNat).toInt), .inl ((zk_gX G ((i : Int) + 2).toNat).toInt)]) (st := [.inl r]) (d' := (1, 22)) (kc' := 0) (ks' := 0) zbL_26 dL_law_219 rfl (by decide) rfl rfl (Nat.le_of_ble_eq_true rfl) ⟨by decide, by decide⟩ rfl rfl (hM) (fun v9 h9 q9 => ?_)
        obtain ⟨rfl, τ', β', rfl, hz'⟩ := q9
        refine zk_W.to (ls' := [some (.inr (some 0)), some (.inr (some 1)), some (.inr (some 22)), some (.inl (i : Int))]) (st' := [.inl r, .inl r]) (h' := (zk_mk G sw' σ' α' (zk_md τ' β' []))) rfl rfl rfl ?_
        refine zk_icmp_same (tgt := 783) dL_law_222 (by decide) ?_
        refine zk_iinc (ls' := [some (.inr (some 0)), some (.inr (some 1)), some (.inr (some 22)), some (.inl ((i : Int) + 6))]) dL_law_783 rfl (Nat.le_of_ble_eq_true rfl) rfl ?_
        refine zk_goto (tgt := 18) dL_law_786 (by decide) ?_
        have e6 : (i : Int) + 6 = ((i + 6 : Nat) : Int) := by omega
        rw [e6]
        exact ih (i + 6) sw' σ' α' τ' β' (by omega) (by omega) hz'
      by_cases h33_3 : ((zk_gX G (i : Int).toNat).toInt) % 32 = 3
      · skip
        refine zk_tableIn (tgt := 227) dL_law_33 ⟨by omega, by omega⟩ (by omega) (by omega) (by rw [h33_3]; rfl) (by decide) ?_
        refine zk_aload_n dL_law_227 rfl ?_
        refine zk_callV (av := []) (st := []) (d' := (1, 23)) (kc' := 0) (ks' := 0) zbL_27 dL_law_228 rfl (by decide) rfl rfl (Nat.le_of_ble_eq_true rfl) ⟨by decide, by decide⟩ rfl rfl (zd_turn G sw σ α τ β [] hz ) (fun v9 h9 q9 => ?_)
        obtain ⟨sw', σ', α', r, rfl, rfl, hM⟩ := q9
        refine zk_W.to (ls' := [some (.inr (some 0)), some (.inr (some 1)), some (.inr (some 22)), some (.inl (i : Int))]) (st' := [.inl r]) (h' := (zk_mk G sw' σ' α' (zk_md τ β []))) rfl rfl rfl ?_
        refine zk_aload_n dL_law_231 rfl ?_
        refine zk_callV (av := []) (st := [.inl r]) (d' := (0, 0)) (kc' := 0) (ks' := 0) zbL_30 dL_law_232 rfl (by decide) rfl rfl (Nat.le_of_ble_eq_true rfl) ⟨by decide, by decide⟩ rfl rfl (hM) (fun v9 h9 q9 => ?_)
        obtain ⟨rfl, τ', β', rfl, hz'⟩ := q9
        refine zk_W.to (ls' := [some (.inr (some 0)), some (.inr (some 1)), some (.inr (some 22)), some (.inl (i : Int))]) (st' := [.inl r, .inl r]) (h' := (zk_mk G sw' σ' α' (zk_md τ' β' []))) rfl rfl rfl ?_
        refine zk_icmp_same (tgt := 783) dL_law_235 (by decide) ?_
        refine zk_iinc (ls' := [some (.inr (some 0)), some (.inr (some 1)), some (.inr (some 22)), some (.inl ((i : Int) + 6))]) dL_law_783 rfl (Nat.le_of_ble_eq_true rfl) rfl ?_
        refine zk_goto (tgt := 18) dL_law_786 (by decide) ?_
        have e6 : (i : Int) + 6 = ((i + 6 : Nat) : Int) := by omega
        rw [e6]
        exact ih (i + 6) sw' σ' α' τ' β' (by omega) (by omega) hz'
      by_cases h33_4 : ((zk_gX G (i : Int).toNat).toInt) % 32 = 4
      · skip
        refine zk_tableIn (tgt := 240) dL_law_33 ⟨by omega, by omega⟩ (by omega) (by omega) (by rw [h33_4]; rfl) (by decide) ?_
        refine zk_aload_n dL_law_240 rfl ?_
        refine zk_aload_n dL_law_241 rfl ?_
        refine zk_iload_n dL_law_242 rfl ?_
        refine zk_iconst dL_law_243 ?_
        refine zk_iadd dL_law_244 ?_
        refine zk_iald dL_law_245 (n := zk_gL G) (f := fun j => (zk_gX G j).toInt) rfl (by omega) (by omega) (by omega) ?_
        refine zk_aload_n dL_law_246 rfl ?_
        refine zk_iload_n dL_law_247 rfl ?_
        refine zk_iconst dL_law_248 ?_
        refine zk_iadd dL_law_249 ?_
        refine zk_iald dL_law_250 (n := zk_gL G) (f := fun j => (zk_gX G j).toInt) rfl (by omega) (by omega) (by omega) ?_
        refine zk_aload_n dL_law_251 rfl ?_
        refine zk_iload_n dL_law_252 rfl ?_
        refine zk_iconst dL_law_253 ?_
        refine zk_iadd dL_law_254 ?_
        refine zk_iald dL_law_255 (n := zk_gL G) (f := fun j => (zk_gX G j).toInt) rfl (by omega) (by omega) (by omega) ?_
        refine zk_aload_n dL_law_256 rfl ?_
        refine zk_iload_n dL_law_257 rfl ?_
        refine zk_iconst dL_law_258 ?_
        refine zk_iadd dL_law_259 ?_
        refine zk_iald dL_law_260 (n := zk_gL G) (f := fun j => (zk_gX G j).toInt) rfl (by omega) (by omega) (by omega) ?_
        refine zk_aload_n dL_law_261 rfl ?_
        refine zk_iload_n dL_law_262 rfl ?_
        refine zk_iconst dL_law_263 ?_
        refine zk_iadd dL_law_264 ?_
        refine zk_iald dL_law_265 (n := zk_gL G) (f := fun j => (zk_gX G j).toInt) rfl (by omega) (by omega) (by omega) ?_
        refine zk_callV (av := [.inl ((zk_gX G ((i : Int) + 1).toNat).toInt), .inl ((zk_gX G ((i : Int) + 2).toNat).toInt), .inl ((zk_gX G ((i : Int) + 3).toNat).toInt), .inl ((zk_gX G ((i : Int) + 4).toNat).toInt), .inl ((zk_gX G ((i : Int) + 5).toNat).toInt)]) (st := []) (d' := (2, 46)) (kc' := 0) (ks' := 0) zbL_31 dL_law_266 rfl (by decide) rfl rfl (Nat.le_of_ble_eq_true rfl) ⟨by decide, by decide⟩ rfl rfl (zd_costs G sw σ α τ β [] hz (zl_rg G _) (zl_rg G _) (zl_rg G _) (zl_rg G _) (zl_rg G _)) (fun v9 h9 q9 => ?_)
        obtain ⟨sw', σ', α', r, rfl, rfl, hM⟩ := q9
        refine zk_W.to (ls' := [some (.inr (some 0)), some (.inr (some 1)), some (.inr (some 22)), some (.inl (i : Int))]) (st' := [.inl r]) (h' := (zk_mk G sw' σ' α' (zk_md τ β []))) rfl rfl rfl ?_
        refine zk_aload_n dL_law_269 rfl ?_
        refine zk_aload_n dL_law_270 rfl ?_
        refine zk_iload_n dL_law_271 rfl ?_
        refine zk_iconst dL_law_272 ?_
        refine zk_iadd dL_law_273 ?_
        refine zk_iald dL_law_274 (n := zk_gL G) (f := fun j => (zk_gX G j).toInt) rfl (by omega) (by omega) (by omega) ?_
        refine zk_aload_n dL_law_275 rfl ?_
        refine zk_iload_n dL_law_276 rfl ?_
        refine zk_iconst dL_law_277 ?_
        refine zk_iadd dL_law_278 ?_
        refine zk_iald dL_law_279 (n := zk_gL G) (f := fun j => (zk_gX G j).toInt) rfl (by omega) (by omega) (by omega) ?_
        refine zk_aload_n dL_law_280 rfl ?_
        refine zk_iload_n dL_law_281 rfl ?_
        refine zk_iconst dL_law_282 ?_
        refine zk_iadd dL_law_283 ?_
        refine zk_iald dL_law_284 (n := zk_gL G) (f := fun j => (zk_gX G j).toInt) rfl (by omega) (by omega) (by omega) ?_
        refine zk_aload_n dL_law_285 rfl ?_
        refine zk_iload_n dL_law_286 rfl ?_
        refine zk_iconst dL_law_287 ?_
        refine zk_iadd dL_law_288 ?_
        refine zk_iald dL_law_289 (n := zk_gL G) (f := fun j => (zk_gX G j).toInt) rfl (by omega) (by omega) (by omega) ?_
        refine zk_aload_n dL_law_290 rfl ?_
        refine zk_iload_n dL_law_291 rfl ?_
        refine zk_iconst dL_law_292 ?_
        refine zk_iadd dL_law_293 ?_
        refine zk_iald dL_law_294 (n := zk_gL G) (f := fun j => (zk_gX G j).toInt) rfl (by omega) (by omega) (by omega) ?_
        refine zk_callV (av := [.inl ((zk_gX G ((i : Int) + 1).toNat).toInt), .inl ((zk_gX G ((i : Int) + 2).toNat).toInt), .inl ((zk_gX G ((i : Int) + 3).toNat).toInt), .inl ((zk_gX G ((i : Int) + 4).toNat).toInt), .inl ((zk_gX G ((i : Int) + 5).toNat).toInt)]) (st := [.inl r]) (d' := (1, 22)) (kc' := 0) (ks' := 0) zbL_35 dL_law_295 rfl (by decide) rfl rfl (Nat.le_of_ble_eq_true rfl) ⟨by decide, by decide⟩ rfl rfl (hM) (fun v9 h9 q9 => ?_)
        obtain ⟨rfl, τ', β', rfl, hz'⟩ := q9
        refine zk_W.to (ls' := [some (.inr (some 0)), some (.inr (some 1)), some (.inr (some 22)), some (.inl (i : Int))]) (st' := [.inl r, .inl r]) (h' := (zk_mk G sw' σ' α' (zk_md τ' β' []))) rfl rfl rfl ?_
        refine zk_icmp_same (tgt := 783) dL_law_298 (by decide) ?_
        refine zk_iinc (ls' := [some (.inr (some 0)), some (.inr (some 1)), some (.inr (some 22)), some (.inl ((i : Int) + 6))]) dL_law_783 rfl (Nat.le_of_ble_eq_true rfl) rfl ?_
        refine zk_goto (tgt := 18) dL_law_786 (by decide) ?_
        have e6 : (i : Int) + 6 = ((i + 6 : Nat) : Int) := by omega
        rw [e6]
        exact ih (i + 6) sw' σ' α' τ' β' (by omega) (by omega) hz'
      by_cases h33_5 : ((zk_gX G (i : Int).toNat).toInt) % 32 = 5
      · skip
        refine zk_tableIn (tgt := 303) dL_law_33 ⟨by omega, by omega⟩ (by omega) (by omega) (by rw [h33_5]; rfl) (by decide) ?_
        refine zk_aload_n dL_law_303 rfl ?_
        refine zk_callV (av := []) (st := []) (d' := (6, 137)) (kc' := 0) (ks' := 0) zbL_36 dL_law_304 rfl (by decide) rfl rfl (Nat.le_of_ble_eq_true rfl) ⟨by decide, by decide⟩ rfl rfl (zd_plan G sw σ α τ β [] hz ) (fun v9 h9 q9 => ?_)
        obtain ⟨sw', σ', α', r, rfl, rfl, hM⟩ := q9
        refine zk_W.to (ls' := [some (.inr (some 0)), some (.inr (some 1)), some (.inr (some 22)), some (.inl (i : Int))]) (st' := [.inl r]) (h' := (zk_mk G sw' σ' α' (zk_md τ β []))) rfl rfl rfl ?_
        refine zk_aload_n dL_law_307 rfl ?_
        refine zk_callV (av := []) (st := [.inl r]) (d' := (3, 75)) (kc' := 0) (ks' := 0) zbL_39 dL_law_308 rfl (by decide) rfl rfl (Nat.le_of_ble_eq_true rfl) ⟨by decide, by decide⟩ rfl rfl (hM) (fun v9 h9 q9 => ?_)
        obtain ⟨rfl, τ', β', rfl, hz'⟩ := q9
        refine zk_W.to (ls' := [some (.inr (some 0)), some (.inr (some 1)), some (.inr (some 22)), some (.inl (i : Int))]) (st' := [.inl r, .inl r]) (h' := (zk_mk G sw' σ' α' (zk_md τ' β' []))) rfl rfl rfl ?_
        refine zk_icmp_same (tgt := 783) dL_law_311 (by decide) ?_
        refine zk_iinc (ls' := [some (.inr (some 0)), some (.inr (some 1)), some (.inr (some 22)), some (.inl ((i : Int) + 6))]) dL_law_783 rfl (Nat.le_of_ble_eq_true rfl) rfl ?_
        refine zk_goto (tgt := 18) dL_law_786 (by decide) ?_
        have e6 : (i : Int) + 6 = ((i + 6 : Nat) : Int) := by omega
        rw [e6]
        exact ih (i + 6) sw' σ' α' τ' β' (by omega) (by omega) hz'
      by_cases h33_6 : ((zk_gX G (i : Int).toNat).toInt) % 32 = 6
      · skip
        refine zk_tableIn (tgt := 316) dL_law_33 ⟨by omega, by omega⟩ (by omega) (by omega) (by rw [h33_6]; rfl) (by decide) ?_
        refine zk_aload_n dL_law_316 rfl ?_
        refine zk_callV (av := []) (st := []) (d' := (3, 63)) (kc' := 0) (ks' := 0) zbL_40 dL_law_317 rfl (by decide) rfl rfl (Nat.le_of_ble_eq_true rfl) ⟨by decide, by decide⟩ rfl rfl (zd_cost G sw σ α τ β [] hz ) (fun v9 h9 q9 => ?_)
        obtain ⟨sw', σ', α', r, rfl, rfl, hM⟩ := q9
        refine zk_W.to (ls' := [some (.inr (some 0)), some (.inr (some 1)), some (.inr (some 22)), some (.inl (i : Int))]) (st' := [.inl r]) (h' := (zk_mk G sw' σ' α' (zk_md τ β []))) rfl rfl rfl ?_
        refine zk_aload_n dL_law_320 rfl ?_
        refine zk_callV (av := []) (st := [.inl r]) (d' := (2, 45)) (kc' := 0) (ks' := 0) zbL_43 dL_law_321 rfl (by decide) rfl rfl (Nat.le_of_ble_eq_true rfl) ⟨by decide, by decide⟩ rfl rfl (hM) (fun v9 h9 q9 => ?_)
        obtain ⟨rfl, τ', β', rfl, hz'⟩ := q9
        refine zk_W.to (ls' := [some (.inr (some 0)), some (.inr (some 1)), some (.inr (some 22)), some (.inl (i : Int))]) (st' := [.inl r, .inl r]) (h' := (zk_mk G sw' σ' α' (zk_md τ' β' []))) rfl rfl rfl ?_
        refine zk_icmp_same (tgt := 783) dL_law_324 (by decide) ?_
        refine zk_iinc (ls' := [some (.inr (some 0)), some (.inr (some 1)), some (.inr (some 22)), some (.inl ((i : Int) + 6))]) dL_law_783 rfl (Nat.le_of_ble_eq_true rfl) rfl ?_
        refine zk_goto (tgt := 18) dL_law_786 (by decide) ?_
        have e6 : (i : Int) + 6 = ((i + 6 : Nat) : Int) := by omega
        rw [e6]
        exact ih (i + 6) sw' σ' α' τ' β' (by omega) (by omega) hz'
      by_cases h33_7 : ((zk_gX G (i : Int).toNat).toInt) % 32 = 7
      · skip
        refine zk_tableIn (tgt := 329) dL_law_33 ⟨by omega, by omega⟩ (by omega) (by omega) (by rw [h33_7]; rfl) (by decide) ?_
        refine zk_aload_n dL_law_329 rfl ?_
        refine zk_aload_n dL_law_330 rfl ?_
        refine zk_iload_n dL_law_331 rfl ?_
        refine zk_iconst dL_law_332 ?_
        refine zk_iadd dL_law_333 ?_
        refine zk_iald dL_law_334 (n := zk_gL G) (f := fun j => (zk_gX G j).toInt) rfl (by omega) (by omega) (by omega) ?_
        refine zk_aload_n dL_law_335 rfl ?_
        refine zk_iload_n dL_law_336 rfl ?_
        refine zk_iconst dL_law_337 ?_
        refine zk_iadd dL_law_338 ?_
        refine zk_iald dL_law_339 (n := zk_gL G) (f := fun j => (zk_gX G j).toInt) rfl (by omega) (by omega) (by omega) ?_
        refine zk_callV (av := [.inl ((zk_gX G ((i : Int) + 1).toNat).toInt), .inl ((zk_gX G ((i : Int) + 2).toNat).toInt)]) (st := []) (d' := (5, 117)) (kc' := 0) (ks' := 0) zbL_44 dL_law_340 rfl (by decide) rfl rfl (Nat.le_of_ble_eq_true rfl) ⟨by decide, by decide⟩ rfl rfl (zd_rest G sw σ α τ β [] hz (zl_rg G _) (zl_rg G _)) (fun v9 h9 q9 => ?_)
        obtain ⟨sw', σ', α', r, rfl, rfl, hM⟩ := q9
        refine zk_W.to (ls' := [some (.inr (some 0)), some (.inr (some 1)), some (.inr (some 22)), some (.inl (i : Int))]) (st' := [.inl r]) (h' := (zk_mk G sw' σ' α' (zk_md τ β []))) rfl rfl rfl ?_
        refine zk_aload_n dL_law_343 rfl ?_
        refine zk_aload_n dL_law_344 rfl ?_
        refine zk_iload_n dL_law_345 rfl ?_
        refine zk_iconst dL_law_346 ?_
        refine zk_iadd dL_law_347 ?_
        refine zk_iald dL_law_348 (n := zk_gL G) (f := fun j => (zk_gX G j).toInt) rfl (by omega) (by omega) (by omega) ?_
        refine zk_aload_n dL_law_349 rfl ?_
        refine zk_iload_n dL_law_350 rfl ?_
        refine zk_iconst dL_law_351 ?_
        refine zk_iadd dL_law_352 ?_
        refine zk_iald dL_law_353 (n := zk_gL G) (f := fun j => (zk_gX G j).toInt) rfl (by omega) (by omega) (by omega) ?_
        refine zk_callV (av := [.inl ((zk_gX G ((i : Int) + 1).toNat).toInt), .inl ((zk_gX G ((i : Int) + 2).toNat).toInt)]) (st := [.inl r]) (d' := (3, 71)) (kc' := 0) (ks' := 0) zbL_47 dL_law_354 rfl (by decide) rfl rfl (Nat.le_of_ble_eq_true rfl) ⟨by decide, by decide⟩ rfl rfl (hM) (fun v9 h9 q9 => ?_)
        obtain ⟨rfl, τ', β', rfl, hz'⟩ := q9
        refine zk_W.to (ls' := [some (.inr (some 0)), some (.inr (some 1)), some (.inr (some 22)), some (.inl (i : Int))]) (st' := [.inl r, .inl r]) (h' := (zk_mk G sw' σ' α' (zk_md τ' β' []))) rfl rfl rfl ?_
        refine zk_icmp_same (tgt := 783) dL_law_357 (by decide) ?_
        refine zk_iinc (ls' := [some (.inr (some 0)), some (.inr (some 1)), some (.inr (some 22)), some (.inl ((i : Int) + 6))]) dL_law_783 rfl (Nat.le_of_ble_eq_true rfl) rfl ?_
        refine zk_goto (tgt := 18) dL_law_786 (by decide) ?_
        have e6 : (i : Int) + 6 = ((i + 6 : Nat) : Int) := by omega
        rw [e6]
        exact ih (i + 6) sw' σ' α' τ' β' (by omega) (by omega) hz'
      by_cases h33_8 : ((zk_gX G (i : Int).toNat).toInt) % 32 = 8
      · skip
        refine zk_tableIn (tgt := 362) dL_law_33 ⟨by omega, by omega⟩ (by omega) (by omega) (by rw [h33_8]; rfl) (by decide) ?_
        refine zk_aload_n dL_law_362 rfl ?_
        refine zk_aload_n dL_law_363 rfl ?_
        refine zk_iload_n dL_law_364 rfl ?_
        refine zk_iconst dL_law_365 ?_
        refine zk_iadd dL_law_366 ?_
        refine zk_iald dL_law_367 (n := zk_gL G) (f := fun j => (zk_gX G j).toInt) rfl (by omega) (by omega) (by omega) ?_
        refine zk_aload_n dL_law_368 rfl ?_
        refine zk_iload_n dL_law_369 rfl ?_
        refine zk_iconst dL_law_370 ?_
        refine zk_iadd dL_law_371 ?_
        refine zk_iald dL_law_372 (n := zk_gL G) (f := fun j => (zk_gX G j).toInt) rfl (by omega) (by omega) (by omega) ?_
        refine zk_aload_n dL_law_373 rfl ?_
        refine zk_iload_n dL_law_374 rfl ?_
        refine zk_iconst dL_law_375 ?_
        refine zk_iadd dL_law_376 ?_
        refine zk_iald dL_law_377 (n := zk_gL G) (f := fun j => (zk_gX G j).toInt) rfl (by omega) (by omega) (by omega) ?_
        refine zk_callV (av := [.inl ((zk_gX G ((i : Int) + 1).toNat).toInt), .inl ((zk_gX G ((i : Int) + 2).toNat).toInt), .inl ((zk_gX G ((i : Int) + 3).toNat).toInt)]) (st := []) (d' := (2, 46)) (kc' := 0) (ks' := 0) zbL_48 dL_law_378 rfl (by decide) rfl rfl (Nat.le_of_ble_eq_true rfl) ⟨by decide, by decide⟩ rfl rfl (zd_match G sw σ α τ β [] hz (zl_rg G _) (zl_rg G _) (zl_rg G _)) (fun v9 h9 q9 => ?_)
        obtain ⟨sw', σ', α', r, rfl, rfl, hM⟩ := q9
        refine zk_W.to (ls' := [some (.inr (some 0)), some (.inr (some 1)), some (.inr (some 22)), some (.inl (i : Int))]) (st' := [.inl r]) (h' := (zk_mk G sw' σ' α' (zk_md τ β []))) rfl rfl rfl ?_
        refine zk_aload_n dL_law_381 rfl ?_
        refine zk_aload_n dL_law_382 rfl ?_
        refine zk_iload_n dL_law_383 rfl ?_
        refine zk_iconst dL_law_384 ?_
        refine zk_iadd dL_law_385 ?_
        refine zk_iald dL_law_386 (n := zk_gL G) (f := fun j => (zk_gX G j).toInt) rfl (by omega) (by omega) (by omega) ?_
        refine zk_aload_n dL_law_387 rfl ?_
        refine zk_iload_n dL_law_388 rfl ?_
        refine zk_iconst dL_law_389 ?_
        refine zk_iadd dL_law_390 ?_
        refine zk_iald dL_law_391 (n := zk_gL G) (f := fun j => (zk_gX G j).toInt) rfl (by omega) (by omega) (by omega) ?_
        refine zk_aload_n dL_law_392 rfl ?_
        refine zk_iload_n dL_law_393 rfl ?_
        refine zk_iconst dL_law_394 ?_
        refine zk_iadd dL_law_395 ?_
        refine zk_iald dL_law_396 (n := zk_gL G) (f := fun j => (zk_gX G j).toInt) rfl (by omega) (by omega) (by omega) ?_
        refine zk_callV (av := [.inl ((zk_gX G ((i : Int) + 1).toNat).toInt), .inl ((zk_gX G ((i : Int) + 2).toNat).toInt), .inl ((zk_gX G ((i : Int) + 3).toNat).toInt)]) (st := [.inl r]) (d' := (2, 46)) (kc' := 0) (ks' := 0) zbL_52 dL_law_397 rfl (by decide) rfl rfl (Nat.le_of_ble_eq_true rfl) ⟨by decide, by decide⟩ rfl rfl (hM) (fun v9 h9 q9 => ?_)
        obtain ⟨rfl, τ', β', rfl, hz'⟩ := q9
        refine zk_W.to (ls' := [some (.inr (some 0)), some (.inr (some 1)), some (.inr (some 22)), some (.inl (i : Int))]) (st' := [.inl r, .inl r]) (h' := (zk_mk G sw' σ' α' (zk_md τ' β' []))) rfl rfl rfl ?_
        refine zk_icmp_same (tgt := 783) dL_law_400 (by decide) ?_
        refine zk_iinc (ls' := [some (.inr (some 0)), some (.inr (some 1)), some (.inr (some 22)), some (.inl ((i : Int) + 6))]) dL_law_783 rfl (Nat.le_of_ble_eq_true rfl) rfl ?_
        refine zk_goto (tgt := 18) dL_law_786 (by decide) ?_
        have e6 : (i : Int) + 6 = ((i + 6 : Nat) : Int) := by omega
        rw [e6]
        exact ih (i + 6) sw' σ' α' τ' β' (by omega) (by omega) hz'
      by_cases h33_9 : ((zk_gX G (i : Int).toNat).toInt) % 32 = 9
      · skip
        refine zk_tableIn (tgt := 405) dL_law_33 ⟨by omega, by omega⟩ (by omega) (by omega) (by rw [h33_9]; rfl) (by decide) ?_
        refine zk_aload_n dL_law_405 rfl ?_
        refine zk_aload_n dL_law_406 rfl ?_
        refine zk_iload_n dL_law_407 rfl ?_
        refine zk_iconst dL_law_408 ?_
        refine zk_iadd dL_law_409 ?_
        refine zk_iald dL_law_410 (n := zk_gL G) (f := fun j => (zk_gX G j).toInt) rfl (by omega) (by omega) (by omega) ?_
        refine zk_aload_n dL_law_411 rfl ?_
        refine zk_iload_n dL_law_412 rfl ?_
        refine zk_iconst dL_law_413 ?_
        refine zk_iadd dL_law_414 ?_
        refine zk_iald dL_law_415 (n := zk_gL G) (f := fun j => (zk_gX G j).toInt) rfl (by omega) (by omega) (by omega) ?_
        refine zk_callV (av := [.inl ((zk_gX G ((i : Int) + 1).toNat).toInt), .inl ((zk_gX G ((i : Int) + 2).toNat).toInt)]) (st := []) (d' := (3, 63)) (kc' := 0) (ks' := 0) zbL_53 dL_law_416 rfl (by decide) rfl rfl (Nat.le_of_ble_eq_true rfl) ⟨by decide, by decide⟩ rfl rfl (zd_act G sw σ α τ β [] hz (zl_rg G _) (zl_rg G _)) (fun v9 h9 q9 => ?_)
        obtain ⟨sw', σ', α', r, rfl, rfl, hM⟩ := q9
        refine zk_W.to (ls' := [some (.inr (some 0)), some (.inr (some 1)), some (.inr (some 22)), some (.inl (i : Int))]) (st' := [.inl r]) (h' := (zk_mk G sw' σ' α' (zk_md τ β []))) rfl rfl rfl ?_
        refine zk_aload_n dL_law_419 rfl ?_
        refine zk_aload_n dL_law_420 rfl ?_
        refine zk_iload_n dL_law_421 rfl ?_
        refine zk_iconst dL_law_422 ?_
        refine zk_iadd dL_law_423 ?_
        refine zk_iald dL_law_424 (n := zk_gL G) (f := fun j => (zk_gX G j).toInt) rfl (by omega) (by omega) (by omega) ?_
        refine zk_aload_n dL_law_425 rfl ?_
        refine zk_iload_n dL_law_426 rfl ?_
        refine zk_iconst dL_law_427 ?_
        refine zk_iadd dL_law_428 ?_
        refine zk_iald dL_law_429 (n := zk_gL G) (f := fun j => (zk_gX G j).toInt) rfl (by omega) (by omega) (by omega) ?_
        refine zk_callV (av := [.inl ((zk_gX G ((i : Int) + 1).toNat).toInt), .inl ((zk_gX G ((i : Int) + 2).toNat).toInt)]) (st := [.inl r]) (d' := (2, 45)) (kc' := 0) (ks' := 0) zbL_56 dL_law_430 rfl (by decide) rfl rfl (Nat.le_of_ble_eq_true rfl) ⟨by decide, by decide⟩ rfl rfl (hM) (fun v9 h9 q9 => ?_)
        obtain ⟨rfl, τ', β', rfl, hz'⟩ := q9
        refine zk_W.to (ls' := [some (.inr (some 0)), some (.inr (some 1)), some (.inr (some 22)), some (.inl (i : Int))]) (st' := [.inl r, .inl r]) (h' := (zk_mk G sw' σ' α' (zk_md τ' β' []))) rfl rfl rfl ?_
        refine zk_icmp_same (tgt := 783) dL_law_433 (by decide) ?_
        refine zk_iinc (ls' := [some (.inr (some 0)), some (.inr (some 1)), some (.inr (some 22)), some (.inl ((i : Int) + 6))]) dL_law_783 rfl (Nat.le_of_ble_eq_true rfl) rfl ?_
        refine zk_goto (tgt := 18) dL_law_786 (by decide) ?_
        have e6 : (i : Int) + 6 = ((i + 6 : Nat) : Int) := by omega
        rw [e6]
        exact ih (i + 6) sw' σ' α' τ' β' (by omega) (by omega) hz'
      by_cases h33_10 : ((zk_gX G (i : Int).toNat).toInt) % 32 = 10
      · skip
        refine zk_tableIn (tgt := 438) dL_law_33 ⟨by omega, by omega⟩ (by omega) (by omega) (by rw [h33_10]; rfl) (by decide) ?_
        refine zk_aload_n dL_law_438 rfl ?_
        refine zk_aload_n dL_law_439 rfl ?_
        refine zk_iload_n dL_law_440 rfl ?_
        refine zk_iconst dL_law_441 ?_
        refine zk_iadd dL_law_442 ?_
        refine zk_iald dL_law_443 (n := zk_gL G) (f := fun j => (zk_gX G j).toInt) rfl (by omega) (by omega) (by omega) ?_
        refine zk_aload_n dL_law_444 rfl ?_
        refine zk_iload_n dL_law_445 rfl ?_
        refine zk_iconst dL_law_446 ?_
        refine zk_iadd dL_law_447 ?_
        refine zk_iald dL_law_448 (n := zk_gL G) (f := fun j => (zk_gX G j).toInt) rfl (by omega) (by omega) (by omega) ?_
        refine zk_callV (av := [.inl ((zk_gX G ((i : Int) + 1).toNat).toInt), .inl ((zk_gX G ((i : Int) + 2).toNat).toInt)]) (st := []) (d' := (3, 64)) (kc' := 0) (ks' := 0) zbL_57 dL_law_449 rfl (by decide) rfl rfl (Nat.le_of_ble_eq_true rfl) ⟨by decide, by decide⟩ rfl rfl (zd_laid G sw σ α τ β [] hz (zl_rg G _) (zl_rg G _)) (fun v9 h9 q9 => ?_)
        obtain ⟨sw', σ', α', r, rfl, rfl, hM⟩ := q9
        refine zk_W.to (ls' := [some (.inr (some 0)), some (.inr (some 1)), some (.inr (some 22)), some (.inl (i : Int))]) (st' := [.inl r]) (h' := (zk_mk G sw' σ' α' (zk_md τ β []))) rfl rfl rfl ?_
        refine zk_aload_n dL_law_452 rfl ?_
        refine zk_aload_n dL_law_453 rfl ?_
        refine zk_iload_n dL_law_454 rfl ?_
        refine zk_iconst dL_law_455 ?_
        refine zk_iadd dL_law_456 ?_
        refine zk_iald dL_law_457 (n := zk_gL G) (f := fun j => (zk_gX G j).toInt) rfl (by omega) (by omega) (by omega) ?_
        refine zk_aload_n dL_law_458 rfl ?_
        refine zk_iload_n dL_law_459 rfl ?_
        refine zk_iconst dL_law_460 ?_
        refine zk_iadd dL_law_461 ?_
        refine zk_iald dL_law_462 (n := zk_gL G) (f := fun j => (zk_gX G j).toInt) rfl (by omega) (by omega) (by omega) ?_
        refine zk_callV (av := [.inl ((zk_gX G ((i : Int) + 1).toNat).toInt), .inl ((zk_gX G ((i : Int) + 2).toNat).toInt)]) (st := [.inl r]) (d' := (1, 22)) (kc' := 0) (ks' := 0) zbL_60 dL_law_463 rfl (by decide) rfl rfl (Nat.le_of_ble_eq_true rfl) ⟨by decide, by decide⟩ rfl rfl (hM) (fun v9 h9 q9 => ?_)
        obtain ⟨rfl, τ', β', rfl, hz'⟩ := q9
        refine zk_W.to (ls' := [some (.inr (some 0)), some (.inr (some 1)), some (.inr (some 22)), some (.inl (i : Int))]) (st' := [.inl r, .inl r]) (h' := (zk_mk G sw' σ' α' (zk_md τ' β' []))) rfl rfl rfl ?_
        refine zk_icmp_same (tgt := 783) dL_law_466 (by decide) ?_
        refine zk_iinc (ls' := [some (.inr (some 0)), some (.inr (some 1)), some (.inr (some 22)), some (.inl ((i : Int) + 6))]) dL_law_783 rfl (Nat.le_of_ble_eq_true rfl) rfl ?_
        refine zk_goto (tgt := 18) dL_law_786 (by decide) ?_
        have e6 : (i : Int) + 6 = ((i + 6 : Nat) : Int) := by omega
        rw [e6]
        exact ih (i + 6) sw' σ' α' τ' β' (by omega) (by omega) hz'
      by_cases h33_11 : ((zk_gX G (i : Int).toNat).toInt) % 32 = 11
      · skip
        refine zk_tableIn (tgt := 471) dL_law_33 ⟨by omega, by omega⟩ (by omega) (by omega) (by rw [h33_11]; rfl) (by decide) ?_
        refine zk_aload_n dL_law_471 rfl ?_
        refine zk_callV (av := []) (st := []) (d' := (2, 41)) (kc' := 0) (ks' := 0) zbL_61 dL_law_472 rfl (by decide) rfl rfl (Nat.le_of_ble_eq_true rfl) ⟨by decide, by decide⟩ rfl rfl (zd_empty G sw σ α τ β [] hz ) (fun v9 h9 q9 => ?_)
        obtain ⟨sw', σ', α', r, rfl, rfl, hM⟩ := q9
        refine zk_W.to (ls' := [some (.inr (some 0)), some (.inr (some 1)), some (.inr (some 22)), some (.inl (i : Int))]) (st' := [.inl r]) (h' := (zk_mk G sw' σ' α' (zk_md τ β []))) rfl rfl rfl ?_
        refine zk_aload_n dL_law_475 rfl ?_
        refine zk_callV (av := []) (st := [.inl r]) (d' := (2, 45)) (kc' := 0) (ks' := 0) zbL_64 dL_law_476 rfl (by decide) rfl rfl (Nat.le_of_ble_eq_true rfl) ⟨by decide, by decide⟩ rfl rfl (hM) (fun v9 h9 q9 => ?_)
        obtain ⟨rfl, τ', β', rfl, hz'⟩ := q9
        refine zk_W.to (ls' := [some (.inr (some 0)), some (.inr (some 1)), some (.inr (some 22)), some (.inl (i : Int))]) (st' := [.inl r, .inl r]) (h' := (zk_mk G sw' σ' α' (zk_md τ' β' []))) rfl rfl rfl ?_
        refine zk_icmp_same (tgt := 783) dL_law_479 (by decide) ?_
        refine zk_iinc (ls' := [some (.inr (some 0)), some (.inr (some 1)), some (.inr (some 22)), some (.inl ((i : Int) + 6))]) dL_law_783 rfl (Nat.le_of_ble_eq_true rfl) rfl ?_
        refine zk_goto (tgt := 18) dL_law_786 (by decide) ?_
        have e6 : (i : Int) + 6 = ((i + 6 : Nat) : Int) := by omega
        rw [e6]
        exact ih (i + 6) sw' σ' α' τ' β' (by omega) (by omega) hz'
      by_cases h33_12 : ((zk_gX G (i : Int).toNat).toInt) % 32 = 12
      · skip
        refine zk_tableIn (tgt := 484) dL_law_33 ⟨by omega, by omega⟩ (by omega) (by omega) (by rw [h33_12]; rfl) (by decide) ?_
        refine zk_aload_n dL_law_484 rfl ?_
        refine zk_aload_n dL_law_485 rfl ?_
        refine zk_iload_n dL_law_486 rfl ?_
        refine zk_iconst dL_law_487 ?_
        refine zk_iadd dL_law_488 ?_
        refine zk_iald dL_law_489 (n := zk_gL G) (f := fun j => (zk_gX G j).toInt) rfl (by omega) (by omega) (by omega) ?_
        refine zk_aload_n dL_law_490 rfl ?_
        refine zk_iload_n dL_law_491 rfl ?_
        refine zk_iconst dL_law_492 ?_
        refine zk_iadd dL_law_493 ?_
        refine zk_iald dL_law_494 (n := zk_gL G) (f := fun j => (zk_gX G j).toInt) rfl (by omega) (by omega) (by omega) ?_
        refine zk_aload_n dL_law_495 rfl ?_
        refine zk_iload_n dL_law_496 rfl ?_
        refine zk_iconst dL_law_497 ?_
        refine zk_iadd dL_law_498 ?_
        refine zk_iald dL_law_499 (n := zk_gL G) (f := fun j => (zk_gX G j).toInt) rfl (by omega) (by omega) (by omega) ?_
        refine zk_callV (av := [.inl ((zk_gX G ((i : Int) + 1).toNat).toInt), .inl ((zk_gX G ((i : Int) + 2).toNat).toInt), .inl ((zk_gX G ((i : Int) + 3).toNat).toInt)]) (st := []) (d' := (2, 43)) (kc' := 0) (ks' := 0) zbL_65 dL_law_500 rfl (by decide) rfl rfl (Nat.le_of_ble_eq_true rfl) ⟨by decide, by decide⟩ rfl rfl (zd_add G sw σ α τ β [] hz (zl_rg G _) (zl_rg G _) (zl_rg G _)) (fun v9 h9 q9 => ?_)
        obtain ⟨sw', σ', α', r, rfl, rfl, hM⟩ := q9
        refine zk_W.to (ls' := [some (.inr (some 0)), some (.inr (some 1)), some (.inr (some 22)), some (.inl (i : Int))]) (st' := [.inl r]) (h' := (zk_mk G sw' σ' α' (zk_md τ β []))) rfl rfl rfl ?_
        refine zk_aload_n dL_law_503 rfl ?_
        refine zk_aload_n dL_law_504 rfl ?_
        refine zk_iload_n dL_law_505 rfl ?_
        refine zk_iconst dL_law_506 ?_
        refine zk_iadd dL_law_507 ?_
        refine zk_iald dL_law_508 (n := zk_gL G) (f := fun j => (zk_gX G j).toInt) rfl (by omega) (by omega) (by omega) ?_
        refine zk_aload_n dL_law_509 rfl ?_
        refine zk_iload_n dL_law_510 rfl ?_
        refine zk_iconst dL_law_511 ?_
        refine zk_iadd dL_law_512 ?_
        refine zk_iald dL_law_513 (n := zk_gL G) (f := fun j => (zk_gX G j).toInt) rfl (by omega) (by omega) (by omega) ?_
        refine zk_aload_n dL_law_514 rfl ?_
        refine zk_iload_n dL_law_515 rfl ?_
        refine zk_iconst dL_law_516 ?_
        refine zk_iadd dL_law_517 ?_
        refine zk_iald dL_law_518 (n := zk_gL G) (f := fun j => (zk_gX G j).toInt) rfl (by omega) (by omega) (by omega) ?_
        refine zk_callV (av := [.inl ((zk_gX G ((i : Int) + 1).toNat).toInt), .inl ((zk_gX G ((i : Int) + 2).toNat).toInt), .inl ((zk_gX G ((i : Int) + 3).toNat).toInt)]) (st := [.inl r]) (d' := (1, 22)) (kc' := 0) (ks' := 0) zbL_68 dL_law_519 rfl (by decide) rfl rfl (Nat.le_of_ble_eq_true rfl) ⟨by decide, by decide⟩ rfl rfl (hM) (fun v9 h9 q9 => ?_)
        obtain ⟨rfl, τ', β', rfl, hz'⟩ := q9
        refine zk_W.to (ls' := [some (.inr (some 0)), some (.inr (some 1)), some (.inr (some 22)), some (.inl (i : Int))]) (st' := [.inl r, .inl r]) (h' := (zk_mk G sw' σ' α' (zk_md τ' β' []))) rfl rfl rfl ?_
        refine zk_icmp_same (tgt := 783) dL_law_522 (by decide) ?_
        refine zk_iinc (ls' := [some (.inr (some 0)), some (.inr (some 1)), some (.inr (some 22)), some (.inl ((i : Int) + 6))]) dL_law_783 rfl (Nat.le_of_ble_eq_true rfl) rfl ?_
        refine zk_goto (tgt := 18) dL_law_786 (by decide) ?_
        have e6 : (i : Int) + 6 = ((i + 6 : Nat) : Int) := by omega
        rw [e6]
        exact ih (i + 6) sw' σ' α' τ' β' (by omega) (by omega) hz'
      by_cases h33_13 : ((zk_gX G (i : Int).toNat).toInt) % 32 = 13
      · skip
        refine zk_tableIn (tgt := 527) dL_law_33 ⟨by omega, by omega⟩ (by omega) (by omega) (by rw [h33_13]; rfl) (by decide) ?_
        refine zk_aload_n dL_law_527 rfl ?_
        refine zk_aload_n dL_law_528 rfl ?_
        refine zk_iload_n dL_law_529 rfl ?_
        refine zk_iconst dL_law_530 ?_
        refine zk_iadd dL_law_531 ?_
        refine zk_iald dL_law_532 (n := zk_gL G) (f := fun j => (zk_gX G j).toInt) rfl (by omega) (by omega) (by omega) ?_
        refine zk_callV (av := [.inl ((zk_gX G ((i : Int) + 1).toNat).toInt)]) (st := []) (d' := (4, 83)) (kc' := 0) (ks' := 0) zbL_69 dL_law_533 rfl (by decide) rfl rfl (Nat.le_of_ble_eq_true rfl) ⟨by decide, by decide⟩ rfl rfl (zd_lay G sw σ α τ β [] hz (zl_rg G _)) (fun v9 h9 q9 => ?_)
        obtain ⟨sw', σ', α', r, rfl, rfl, hM⟩ := q9
        refine zk_W.to (ls' := [some (.inr (some 0)), some (.inr (some 1)), some (.inr (some 22)), some (.inl (i : Int))]) (st' := [.inl r]) (h' := (zk_mk G sw' σ' α' (zk_md τ β []))) rfl rfl rfl ?_
        refine zk_aload_n dL_law_536 rfl ?_
        refine zk_aload_n dL_law_537 rfl ?_
        refine zk_iload_n dL_law_538 rfl ?_
        refine zk_iconst dL_law_539 ?_
        refine zk_iadd dL_law_540 ?_
        refine zk_iald dL_law_541 (n := zk_gL G) (f := fun j => (zk_gX G j).toInt) rfl (by omega) (by omega) (by omega) ?_
        refine zk_callV (av := [.inl ((zk_gX G ((i : Int) + 1).toNat).toInt)]) (st := [.inl r]) (d' := (1, 22)) (kc' := 0) (ks' := 0) zbL_73 dL_law_542 rfl (by decide) rfl rfl (Nat.le_of_ble_eq_true rfl) ⟨by decide, by decide⟩ rfl rfl (hM) (fun v9 h9 q9 => ?_)
        obtain ⟨rfl, τ', β', rfl, hz'⟩ := q9
        refine zk_W.to (ls' := [some (.inr (some 0)), some (.inr (some 1)), some (.inr (some 22)), some (.inl (i : Int))]) (st' := [.inl r, .inl r]) (h' := (zk_mk G sw' σ' α' (zk_md τ' β' []))) rfl rfl rfl ?_
        refine zk_icmp_same (tgt := 783) dL_law_545 (by decide) ?_
        refine zk_iinc (ls' := [some (.inr (some 0)), some (.inr (some 1)), some (.inr (some 22)), some (.inl ((i : Int) + 6))]) dL_law_783 rfl (Nat.le_of_ble_eq_true rfl) rfl ?_
        refine zk_goto (tgt := 18) dL_law_786 (by decide) ?_
        have e6 : (i : Int) + 6 = ((i + 6 : Nat) : Int) := by omega
        rw [e6]
        exact ih (i + 6) sw' σ' α' τ' β' (by omega) (by omega) hz'
      by_cases h33_14 : ((zk_gX G (i : Int).toNat).toInt) % 32 = 14
      · skip
        refine zk_tableIn (tgt := 550) dL_law_33 ⟨by omega, by omega⟩ (by omega) (by omega) (by rw [h33_14]; rfl) (by decide) ?_
        refine zk_aload_n dL_law_550 rfl ?_
        refine zk_callV (av := []) (st := []) (d' := (5, 108)) (kc' := 0) (ks' := 0) zbL_74 dL_law_551 rfl (by decide) rfl rfl (Nat.le_of_ble_eq_true rfl) ⟨by decide, by decide⟩ rfl rfl (zd_make G sw σ α τ β [] hz ) (fun v9 h9 q9 => ?_)
        obtain ⟨sw', σ', α', r, rfl, rfl, hM⟩ := q9
        refine zk_W.to (ls' := [some (.inr (some 0)), some (.inr (some 1)), some (.inr (some 22)), some (.inl (i : Int))]) (st' := [.inl r]) (h' := (zk_mk G sw' σ' α' (zk_md τ β []))) rfl rfl rfl ?_
        refine zk_aload_n dL_law_554 rfl ?_
        refine zk_callV (av := []) (st := [.inl r]) (d' := (2, 45)) (kc' := 0) (ks' := 0) zbL_77 dL_law_555 rfl (by decide) rfl rfl (Nat.le_of_ble_eq_true rfl) ⟨by decide, by decide⟩ rfl rfl (hM) (fun v9 h9 q9 => ?_)
        obtain ⟨rfl, τ', β', rfl, hz'⟩ := q9
        refine zk_W.to (ls' := [some (.inr (some 0)), some (.inr (some 1)), some (.inr (some 22)), some (.inl (i : Int))]) (st' := [.inl r, .inl r]) (h' := (zk_mk G sw' σ' α' (zk_md τ' β' []))) rfl rfl rfl ?_
        refine zk_icmp_same (tgt := 783) dL_law_558 (by decide) ?_
        refine zk_iinc (ls' := [some (.inr (some 0)), some (.inr (some 1)), some (.inr (some 22)), some (.inl ((i : Int) + 6))]) dL_law_783 rfl (Nat.le_of_ble_eq_true rfl) rfl ?_
        refine zk_goto (tgt := 18) dL_law_786 (by decide) ?_
        have e6 : (i : Int) + 6 = ((i + 6 : Nat) : Int) := by omega
        rw [e6]
        exact ih (i + 6) sw' σ' α' τ' β' (by omega) (by omega) hz'
      by_cases h33_15 : ((zk_gX G (i : Int).toNat).toInt) % 32 = 15
      · skip
        refine zk_tableIn (tgt := 563) dL_law_33 ⟨by omega, by omega⟩ (by omega) (by omega) (by rw [h33_15]; rfl) (by decide) ?_
        refine zk_aload_n dL_law_563 rfl ?_
        refine zk_aload_n dL_law_564 rfl ?_
        refine zk_iload_n dL_law_565 rfl ?_
        refine zk_iconst dL_law_566 ?_
        refine zk_iadd dL_law_567 ?_
        refine zk_iald dL_law_568 (n := zk_gL G) (f := fun j => (zk_gX G j).toInt) rfl (by omega) (by omega) (by omega) ?_
        refine zk_callV (av := [.inl ((zk_gX G ((i : Int) + 1).toNat).toInt)]) (st := []) (d' := (2, 42)) (kc' := 0) (ks' := 0) zbL_78 dL_law_569 rfl (by decide) rfl rfl (Nat.le_of_ble_eq_true rfl) ⟨by decide, by decide⟩ rfl rfl (zd_made G sw σ α τ β [] hz (zl_rg G _)) (fun v9 h9 q9 => ?_)
        obtain ⟨sw', σ', α', r, rfl, rfl, hM⟩ := q9
        refine zk_W.to (ls' := [some (.inr (some 0)), some (.inr (some 1)), some (.inr (some 22)), some (.inl (i : Int))]) (st' := [.inl r]) (h' := (zk_mk G sw' σ' α' (zk_md τ β []))) rfl rfl rfl ?_
        refine zk_aload_n dL_law_572 rfl ?_
        refine zk_aload_n dL_law_573 rfl ?_
        refine zk_iload_n dL_law_574 rfl ?_
        refine zk_iconst dL_law_575 ?_
        refine zk_iadd dL_law_576 ?_
        refine zk_iald dL_law_577 (n := zk_gL G) (f := fun j => (zk_gX G j).toInt) rfl (by omega) (by omega) (by omega) ?_
        refine zk_callV (av := [.inl ((zk_gX G ((i : Int) + 1).toNat).toInt)]) (st := [.inl r]) (d' := (1, 22)) (kc' := 0) (ks' := 0) zbL_81 dL_law_578 rfl (by decide) rfl rfl (Nat.le_of_ble_eq_true rfl) ⟨by decide, by decide⟩ rfl rfl (hM) (fun v9 h9 q9 => ?_)
        obtain ⟨rfl, τ', β', rfl, hz'⟩ := q9
        refine zk_W.to (ls' := [some (.inr (some 0)), some (.inr (some 1)), some (.inr (some 22)), some (.inl (i : Int))]) (st' := [.inl r, .inl r]) (h' := (zk_mk G sw' σ' α' (zk_md τ' β' []))) rfl rfl rfl ?_
        refine zk_icmp_same (tgt := 783) dL_law_581 (by decide) ?_
        refine zk_iinc (ls' := [some (.inr (some 0)), some (.inr (some 1)), some (.inr (some 22)), some (.inl ((i : Int) + 6))]) dL_law_783 rfl (Nat.le_of_ble_eq_true rfl) rfl ?_
        refine zk_goto (tgt := 18) dL_law_786 (by decide) ?_
        have e6 : (i : Int) + 6 = ((i + 6 : Nat) : Int) := by omega
        rw [e6]
        exact ih (i + 6) sw' σ' α' τ' β' (by omega) (by omega) hz'
      by_cases h33_16 : ((zk_gX G (i : Int).toNat).toInt) % 32 = 16
      · skip
        refine zk_tableIn (tgt := 586) dL_law_33 ⟨by omega, by omega⟩ (by omega) (by omega) (by rw [h33_16]; rfl) (by decide) ?_
        refine zk_aload_n dL_law_586 rfl ?_
        refine zk_callV (av := []) (st := []) (d' := (3, 67)) (kc' := 0) (ks' := 0) zbL_82 dL_law_587 rfl (by decide) rfl rfl (Nat.le_of_ble_eq_true rfl) ⟨by decide, by decide⟩ rfl rfl (zd_isNew G sw σ α τ β [] hz ) (fun v9 h9 q9 => ?_)
        obtain ⟨sw', σ', α', r, rfl, rfl, hM⟩ := q9
        refine zk_W.to (ls' := [some (.inr (some 0)), some (.inr (some 1)), some (.inr (some 22)), some (.inl (i : Int))]) (st' := [.inl r]) (h' := (zk_mk G sw' σ' α' (zk_md τ β []))) rfl rfl rfl ?_
        refine zk_aload_n dL_law_590 rfl ?_
        refine zk_callV (av := []) (st := [.inl r]) (d' := (1, 22)) (kc' := 0) (ks' := 0) zbL_85 dL_law_591 rfl (by decide) rfl rfl (Nat.le_of_ble_eq_true rfl) ⟨by decide, by decide⟩ rfl rfl (hM) (fun v9 h9 q9 => ?_)
        obtain ⟨rfl, τ', β', rfl, hz'⟩ := q9
        refine zk_W.to (ls' := [some (.inr (some 0)), some (.inr (some 1)), some (.inr (some 22)), some (.inl (i : Int))]) (st' := [.inl r, .inl r]) (h' := (zk_mk G sw' σ' α' (zk_md τ' β' []))) rfl rfl rfl ?_
        refine zk_icmp_same (tgt := 783) dL_law_594 (by decide) ?_
        refine zk_iinc (ls' := [some (.inr (some 0)), some (.inr (some 1)), some (.inr (some 22)), some (.inl ((i : Int) + 6))]) dL_law_783 rfl (Nat.le_of_ble_eq_true rfl) rfl ?_
        refine zk_goto (tgt := 18) dL_law_786 (by decide) ?_
        have e6 : (i : Int) + 6 = ((i + 6 : Nat) : Int) := by omega
        rw [e6]
        exact ih (i + 6) sw' σ' α' τ' β' (by omega) (by omega) hz'
      by_cases h33_17 : ((zk_gX G (i : Int).toNat).toInt) % 32 = 17
      · skip
        refine zk_tableIn (tgt := 599) dL_law_33 ⟨by omega, by omega⟩ (by omega) (by omega) (by rw [h33_17]; rfl) (by decide) ?_
        refine zk_aload_n dL_law_599 rfl ?_
        refine zk_callV (av := []) (st := []) (d' := (4, 86)) (kc' := 0) (ks' := 0) zbL_86 dL_law_600 rfl (by decide) rfl rfl (Nat.le_of_ble_eq_true rfl) ⟨by decide, by decide⟩ rfl rfl (zd_write G sw σ α τ β [] hz ) (fun v9 h9 q9 => ?_)
        obtain ⟨sw', σ', α', r, rfl, rfl, hM⟩ := q9
        refine zk_W.to (ls' := [some (.inr (some 0)), some (.inr (some 1)), some (.inr (some 22)), some (.inl (i : Int))]) (st' := [.inl r]) (h' := (zk_mk G sw' σ' α' (zk_md τ β []))) rfl rfl rfl ?_
        refine zk_aload_n dL_law_603 rfl ?_
        refine zk_callV (av := []) (st := [.inl r]) (d' := (1, 21)) (kc' := 0) (ks' := 0) zbL_89 dL_law_604 rfl (by decide) rfl rfl (Nat.le_of_ble_eq_true rfl) ⟨by decide, by decide⟩ rfl rfl (hM) (fun v9 h9 q9 => ?_)
        obtain ⟨rfl, τ', β', rfl, hz'⟩ := q9
        refine zk_W.to (ls' := [some (.inr (some 0)), some (.inr (some 1)), some (.inr (some 22)), some (.inl (i : Int))]) (st' := [.inl r, .inl r]) (h' := (zk_mk G sw' σ' α' (zk_md τ' β' []))) rfl rfl rfl ?_
        refine zk_icmp_same (tgt := 783) dL_law_607 (by decide) ?_
        refine zk_iinc (ls' := [some (.inr (some 0)), some (.inr (some 1)), some (.inr (some 22)), some (.inl ((i : Int) + 6))]) dL_law_783 rfl (Nat.le_of_ble_eq_true rfl) rfl ?_
        refine zk_goto (tgt := 18) dL_law_786 (by decide) ?_
        have e6 : (i : Int) + 6 = ((i + 6 : Nat) : Int) := by omega
        rw [e6]
        exact ih (i + 6) sw' σ' α' τ' β' (by omega) (by omega) hz'
      by_cases h33_18 : ((zk_gX G (i : Int).toNat).toInt) % 32 = 18
      · skip
        refine zk_tableIn (tgt := 612) dL_law_33 ⟨by omega, by omega⟩ (by omega) (by omega) (by rw [h33_18]; rfl) (by decide) ?_
        refine zk_aload_n dL_law_612 rfl ?_
        refine zk_aload_n dL_law_613 rfl ?_
        refine zk_iload_n dL_law_614 rfl ?_
        refine zk_iconst dL_law_615 ?_
        refine zk_iadd dL_law_616 ?_
        refine zk_iald dL_law_617 (n := zk_gL G) (f := fun j => (zk_gX G j).toInt) rfl (by omega) (by omega) (by omega) ?_
        refine zk_callV (av := [.inl ((zk_gX G ((i : Int) + 1).toNat).toInt)]) (st := []) (d' := (2, 42)) (kc' := 0) (ks' := 0) zbL_90 dL_law_618 rfl (by decide) rfl rfl (Nat.le_of_ble_eq_true rfl) ⟨by decide, by decide⟩ rfl rfl (zd_code G sw σ α τ β [] hz (zl_rg G _)) (fun v9 h9 q9 => ?_)
        obtain ⟨sw', σ', α', r, rfl, rfl, hM⟩ := q9
        refine zk_W.to (ls' := [some (.inr (some 0)), some (.inr (some 1)), some (.inr (some 22)), some (.inl (i : Int))]) (st' := [.inl r]) (h' := (zk_mk G sw' σ' α' (zk_md τ β []))) rfl rfl rfl ?_
        refine zk_aload_n dL_law_621 rfl ?_
        refine zk_aload_n dL_law_622 rfl ?_
        refine zk_iload_n dL_law_623 rfl ?_
        refine zk_iconst dL_law_624 ?_
        refine zk_iadd dL_law_625 ?_
        refine zk_iald dL_law_626 (n := zk_gL G) (f := fun j => (zk_gX G j).toInt) rfl (by omega) (by omega) (by omega) ?_
        refine zk_callV (av := [.inl ((zk_gX G ((i : Int) + 1).toNat).toInt)]) (st := [.inl r]) (d' := (1, 22)) (kc' := 0) (ks' := 0) zbL_93 dL_law_627 rfl (by decide) rfl rfl (Nat.le_of_ble_eq_true rfl) ⟨by decide, by decide⟩ rfl rfl (hM) (fun v9 h9 q9 => ?_)
        obtain ⟨rfl, τ', β', rfl, hz'⟩ := q9
        refine zk_W.to (ls' := [some (.inr (some 0)), some (.inr (some 1)), some (.inr (some 22)), some (.inl (i : Int))]) (st' := [.inl r, .inl r]) (h' := (zk_mk G sw' σ' α' (zk_md τ' β' []))) rfl rfl rfl ?_
        refine zk_icmp_same (tgt := 783) dL_law_630 (by decide) ?_
        refine zk_iinc (ls' := [some (.inr (some 0)), some (.inr (some 1)), some (.inr (some 22)), some (.inl ((i : Int) + 6))]) dL_law_783 rfl (Nat.le_of_ble_eq_true rfl) rfl ?_
        refine zk_goto (tgt := 18) dL_law_786 (by decide) ?_
        have e6 : (i : Int) + 6 = ((i + 6 : Nat) : Int) := by omega
        rw [e6]
        exact ih (i + 6) sw' σ' α' τ' β' (by omega) (by omega) hz'
      by_cases h33_19 : ((zk_gX G (i : Int).toNat).toInt) % 32 = 19
      · skip
        refine zk_tableIn (tgt := 635) dL_law_33 ⟨by omega, by omega⟩ (by omega) (by omega) (by rw [h33_19]; rfl) (by decide) ?_
        refine zk_aload_n dL_law_635 rfl ?_
        refine zk_aload_n dL_law_636 rfl ?_
        refine zk_iload_n dL_law_637 rfl ?_
        refine zk_iconst dL_law_638 ?_
        refine zk_iadd dL_law_639 ?_
        refine zk_iald dL_law_640 (n := zk_gL G) (f := fun j => (zk_gX G j).toInt) rfl (by omega) (by omega) (by omega) ?_
        refine zk_aload_n dL_law_641 rfl ?_
        refine zk_iload_n dL_law_642 rfl ?_
        refine zk_iconst dL_law_643 ?_
        refine zk_iadd dL_law_644 ?_
        refine zk_iald dL_law_645 (n := zk_gL G) (f := fun j => (zk_gX G j).toInt) rfl (by omega) (by omega) (by omega) ?_
        refine zk_callV (av := [.inl ((zk_gX G ((i : Int) + 1).toNat).toInt), .inl ((zk_gX G ((i : Int) + 2).toNat).toInt)]) (st := []) (d' := (2, 43)) (kc' := 0) (ks' := 0) zbL_94 dL_law_646 rfl (by decide) rfl rfl (Nat.le_of_ble_eq_true rfl) ⟨by decide, by decide⟩ rfl rfl (zd_poke G sw σ α τ β [] hz (zl_rg G _) (zl_rg G _)) (fun v9 h9 q9 => ?_)
        obtain ⟨sw', σ', α', r, rfl, rfl, hM⟩ := q9
        refine zk_W.to (ls' := [some (.inr (some 0)), some (.inr (some 1)), some (.inr (some 22)), some (.inl (i : Int))]) (st' := [.inl r]) (h' := (zk_mk G sw' σ' α' (zk_md τ β []))) rfl rfl rfl ?_
        refine zk_aload_n dL_law_649 rfl ?_
        refine zk_aload_n dL_law_650 rfl ?_
        refine zk_iload_n dL_law_651 rfl ?_
        refine zk_iconst dL_law_652 ?_
        refine zk_iadd dL_law_653 ?_
        refine zk_iald dL_law_654 (n := zk_gL G) (f := fun j => (zk_gX G j).toInt) rfl (by omega) (by omega) (by omega) ?_
        refine zk_aload_n dL_law_655 rfl ?_
        refine zk_iload_n dL_law_656 rfl ?_
        refine zk_iconst dL_law_657 ?_
        refine zk_iadd dL_law_658 ?_
        refine zk_iald dL_law_659 (n := zk_gL G) (f := fun j => (zk_gX G j).toInt) rfl (by omega) (by omega) (by omega) ?_
        refine zk_callV (av := [.inl ((zk_gX G ((i : Int) + 1).toNat).toInt), .inl ((zk_gX G ((i : Int) + 2).toNat).toInt)]) (st := [.inl r]) (d' := (1, 22)) (kc' := 0) (ks' := 0) zbL_97 dL_law_660 rfl (by decide) rfl rfl (Nat.le_of_ble_eq_true rfl) ⟨by decide, by decide⟩ rfl rfl (hM) (fun v9 h9 q9 => ?_)
        obtain ⟨rfl, τ', β', rfl, hz'⟩ := q9
        refine zk_W.to (ls' := [some (.inr (some 0)), some (.inr (some 1)), some (.inr (some 22)), some (.inl (i : Int))]) (st' := [.inl r, .inl r]) (h' := (zk_mk G sw' σ' α' (zk_md τ' β' []))) rfl rfl rfl ?_
        refine zk_icmp_same (tgt := 783) dL_law_663 (by decide) ?_
        refine zk_iinc (ls' := [some (.inr (some 0)), some (.inr (some 1)), some (.inr (some 22)), some (.inl ((i : Int) + 6))]) dL_law_783 rfl (Nat.le_of_ble_eq_true rfl) rfl ?_
        refine zk_goto (tgt := 18) dL_law_786 (by decide) ?_
        have e6 : (i : Int) + 6 = ((i + 6 : Nat) : Int) := by omega
        rw [e6]
        exact ih (i + 6) sw' σ' α' τ' β' (by omega) (by omega) hz'
      by_cases h33_20 : ((zk_gX G (i : Int).toNat).toInt) % 32 = 20
      · skip
        refine zk_tableIn (tgt := 668) dL_law_33 ⟨by omega, by omega⟩ (by omega) (by omega) (by rw [h33_20]; rfl) (by decide) ?_
        refine zk_aload_n dL_law_668 rfl ?_
        refine zk_aload_n dL_law_669 rfl ?_
        refine zk_iload_n dL_law_670 rfl ?_
        refine zk_iconst dL_law_671 ?_
        refine zk_iadd dL_law_672 ?_
        refine zk_iald dL_law_673 (n := zk_gL G) (f := fun j => (zk_gX G j).toInt) rfl (by omega) (by omega) (by omega) ?_
        refine zk_callV (av := [.inl ((zk_gX G ((i : Int) + 1).toNat).toInt)]) (st := []) (d' := (2, 39)) (kc' := 0) (ks' := 0) zbL_98 dL_law_674 rfl (by decide) rfl rfl (Nat.le_of_ble_eq_true rfl) ⟨by decide, by decide⟩ rfl rfl (zd_shorten G sw σ α τ β [] hz (zl_rg G _)) (fun v9 h9 q9 => ?_)
        obtain ⟨sw', σ', α', r, rfl, rfl, hM⟩ := q9
        refine zk_W.to (ls' := [some (.inr (some 0)), some (.inr (some 1)), some (.inr (some 22)), some (.inl (i : Int))]) (st' := [.inl r]) (h' := (zk_mk G sw' σ' α' (zk_md τ β []))) rfl rfl rfl ?_
        refine zk_aload_n dL_law_677 rfl ?_
        refine zk_aload_n dL_law_678 rfl ?_
        refine zk_iload_n dL_law_679 rfl ?_
        refine zk_iconst dL_law_680 ?_
        refine zk_iadd dL_law_681 ?_
        refine zk_iald dL_law_682 (n := zk_gL G) (f := fun j => (zk_gX G j).toInt) rfl (by omega) (by omega) (by omega) ?_
        refine zk_callV (av := [.inl ((zk_gX G ((i : Int) + 1).toNat).toInt)]) (st := [.inl r]) (d' := (1, 22)) (kc' := 0) (ks' := 0) zbL_101 dL_law_683 rfl (by decide) rfl rfl (Nat.le_of_ble_eq_true rfl) ⟨by decide, by decide⟩ rfl rfl (hM) (fun v9 h9 q9 => ?_)
        obtain ⟨rfl, τ', β', rfl, hz'⟩ := q9
        refine zk_W.to (ls' := [some (.inr (some 0)), some (.inr (some 1)), some (.inr (some 22)), some (.inl (i : Int))]) (st' := [.inl r, .inl r]) (h' := (zk_mk G sw' σ' α' (zk_md τ' β' []))) rfl rfl rfl ?_
        refine zk_icmp_same (tgt := 783) dL_law_686 (by decide) ?_
        refine zk_iinc (ls' := [some (.inr (some 0)), some (.inr (some 1)), some (.inr (some 22)), some (.inl ((i : Int) + 6))]) dL_law_783 rfl (Nat.le_of_ble_eq_true rfl) rfl ?_
        refine zk_goto (tgt := 18) dL_law_786 (by decide) ?_
        have e6 : (i : Int) + 6 = ((i + 6 : Nat) : Int) := by omega
        rw [e6]
        exact ih (i + 6) sw' σ' α' τ' β' (by omega) (by omega) hz'
      by_cases h33_21 : ((zk_gX G (i : Int).toNat).toInt) % 32 = 21
      · skip
        refine zk_tableIn (tgt := 691) dL_law_33 ⟨by omega, by omega⟩ (by omega) (by omega) (by rw [h33_21]; rfl) (by decide) ?_
        refine zk_aload_n dL_law_691 rfl ?_
        refine zk_callV (av := []) (st := []) (d' := (5, 107)) (kc' := 0) (ks' := 0) zbL_102 dL_law_692 rfl (by decide) rfl rfl (Nat.le_of_ble_eq_true rfl) ⟨by decide, by decide⟩ rfl rfl (zd_read G sw σ α τ β [] hz ) (fun v9 h9 q9 => ?_)
        obtain ⟨sw', σ', α', r, rfl, rfl, hM⟩ := q9
        refine zk_W.to (ls' := [some (.inr (some 0)), some (.inr (some 1)), some (.inr (some 22)), some (.inl (i : Int))]) (st' := [.inl r]) (h' := (zk_mk G sw' σ' α' (zk_md τ β []))) rfl rfl rfl ?_
        refine zk_aload_n dL_law_695 rfl ?_
        refine zk_callV (av := []) (st := [.inl r]) (d' := (1, 25)) (kc' := 0) (ks' := 0) zbL_105 dL_law_696 rfl (by decide) rfl rfl (Nat.le_of_ble_eq_true rfl) ⟨by decide, by decide⟩ rfl rfl (hM) (fun v9 h9 q9 => ?_)
        obtain ⟨rfl, τ', β', rfl, hz'⟩ := q9
        refine zk_W.to (ls' := [some (.inr (some 0)), some (.inr (some 1)), some (.inr (some 22)), some (.inl (i : Int))]) (st' := [.inl r, .inl r]) (h' := (zk_mk G sw' σ' α' (zk_md τ' β' []))) rfl rfl rfl ?_
        refine zk_icmp_same (tgt := 783) dL_law_699 (by decide) ?_
        refine zk_iinc (ls' := [some (.inr (some 0)), some (.inr (some 1)), some (.inr (some 22)), some (.inl ((i : Int) + 6))]) dL_law_783 rfl (Nat.le_of_ble_eq_true rfl) rfl ?_
        refine zk_goto (tgt := 18) dL_law_786 (by decide) ?_
        have e6 : (i : Int) + 6 = ((i + 6 : Nat) : Int) := by omega
        rw [e6]
        exact ih (i + 6) sw' σ' α' τ' β' (by omega) (by omega) hz'
      by_cases h33_22 : ((zk_gX G (i : Int).toNat).toInt) % 32 = 22
      · skip
        refine zk_tableIn (tgt := 704) dL_law_33 ⟨by omega, by omega⟩ (by omega) (by omega) (by rw [h33_22]; rfl) (by decide) ?_
        refine zk_aload_n dL_law_704 rfl ?_
        refine zk_aload_n dL_law_705 rfl ?_
        refine zk_iload_n dL_law_706 rfl ?_
        refine zk_iconst dL_law_707 ?_
        refine zk_iadd dL_law_708 ?_
        refine zk_iald dL_law_709 (n := zk_gL G) (f := fun j => (zk_gX G j).toInt) rfl (by omega) (by omega) (by omega) ?_
        refine zk_callV (av := [.inl ((zk_gX G ((i : Int) + 1).toNat).toInt)]) (st := []) (d' := (6, 137)) (kc' := 0) (ks' := 0) zbL_106 dL_law_710 rfl (by decide) rfl rfl (Nat.le_of_ble_eq_true rfl) ⟨by decide, by decide⟩ rfl rfl (zd_moved G sw σ α τ β [] hz (zl_rg G _)) (fun v9 h9 q9 => ?_)
        obtain ⟨sw', σ', α', r, rfl, rfl, hM⟩ := q9
        refine zk_W.to (ls' := [some (.inr (some 0)), some (.inr (some 1)), some (.inr (some 22)), some (.inl (i : Int))]) (st' := [.inl r]) (h' := (zk_mk G sw' σ' α' (zk_md τ β []))) rfl rfl rfl ?_
        refine zk_aload_n dL_law_713 rfl ?_
        refine zk_aload_n dL_law_714 rfl ?_
        refine zk_iload_n dL_law_715 rfl ?_
        refine zk_iconst dL_law_716 ?_
        refine zk_iadd dL_law_717 ?_
        refine zk_iald dL_law_718 (n := zk_gL G) (f := fun j => (zk_gX G j).toInt) rfl (by omega) (by omega) (by omega) ?_
        refine zk_callV (av := [.inl ((zk_gX G ((i : Int) + 1).toNat).toInt)]) (st := [.inl r]) (d' := (3, 75)) (kc' := 0) (ks' := 0) zbL_109 dL_law_719 rfl (by decide) rfl rfl (Nat.le_of_ble_eq_true rfl) ⟨by decide, by decide⟩ rfl rfl (hM) (fun v9 h9 q9 => ?_)
        obtain ⟨rfl, τ', β', rfl, hz'⟩ := q9
        refine zk_W.to (ls' := [some (.inr (some 0)), some (.inr (some 1)), some (.inr (some 22)), some (.inl (i : Int))]) (st' := [.inl r, .inl r]) (h' := (zk_mk G sw' σ' α' (zk_md τ' β' []))) rfl rfl rfl ?_
        refine zk_icmp_same (tgt := 783) dL_law_722 (by decide) ?_
        refine zk_iinc (ls' := [some (.inr (some 0)), some (.inr (some 1)), some (.inr (some 22)), some (.inl ((i : Int) + 6))]) dL_law_783 rfl (Nat.le_of_ble_eq_true rfl) rfl ?_
        refine zk_goto (tgt := 18) dL_law_786 (by decide) ?_
        have e6 : (i : Int) + 6 = ((i + 6 : Nat) : Int) := by omega
        rw [e6]
        exact ih (i + 6) sw' σ' α' τ' β' (by omega) (by omega) hz'
      by_cases h33_23 : ((zk_gX G (i : Int).toNat).toInt) % 32 = 23
      · skip
        refine zk_tableIn (tgt := 727) dL_law_33 ⟨by omega, by omega⟩ (by omega) (by omega) (by rw [h33_23]; rfl) (by decide) ?_
        refine zk_aload_n dL_law_727 rfl ?_
        refine zk_aload_n dL_law_728 rfl ?_
        refine zk_iload_n dL_law_729 rfl ?_
        refine zk_iconst dL_law_730 ?_
        refine zk_iadd dL_law_731 ?_
        refine zk_iald dL_law_732 (n := zk_gL G) (f := fun j => (zk_gX G j).toInt) rfl (by omega) (by omega) (by omega) ?_
        refine zk_callV (av := [.inl ((zk_gX G ((i : Int) + 1).toNat).toInt)]) (st := []) (d' := (1, 22)) (kc' := 0) (ks' := 0) zbL_110 dL_law_733 rfl (by decide) rfl rfl (Nat.le_of_ble_eq_true rfl) ⟨by decide, by decide⟩ rfl rfl (zd_of G sw σ α τ β [] hz (zl_rg G _)) (fun v9 h9 q9 => ?_)
        obtain ⟨sw', σ', α', r, rfl, rfl, hM⟩ := q9
        refine zk_W.to (ls' := [some (.inr (some 0)), some (.inr (some 1)), some (.inr (some 22)), some (.inl (i : Int))]) (st' := [.inl r]) (h' := (zk_mk G sw' σ' α' (zk_md τ β []))) rfl rfl rfl ?_
        refine zk_aload_n dL_law_736 rfl ?_
        refine zk_aload_n dL_law_737 rfl ?_
        refine zk_iload_n dL_law_738 rfl ?_
        refine zk_iconst dL_law_739 ?_
        refine zk_iadd dL_law_740 ?_
        refine zk_iald dL_law_741 (n := zk_gL G) (f := fun j => (zk_gX G j).toInt) rfl (by omega) (by omega) (by omega) ?_
        refine zk_callV (av := [.inl ((zk_gX G ((i : Int) + 1).toNat).toInt)]) (st := [.inl r]) (d' := (2, 45)) (kc' := 0) (ks' := 0) zbL_113 dL_law_742 rfl (by decide) rfl rfl (Nat.le_of_ble_eq_true rfl) ⟨by decide, by decide⟩ rfl rfl (hM) (fun v9 h9 q9 => ?_)
        obtain ⟨rfl, τ', β', rfl, hz'⟩ := q9
        refine zk_W.to (ls' := [some (.inr (some 0)), some (.inr (some 1)), some (.inr (some 22)), some (.inl (i : Int))]) (st' := [.inl r, .inl r]) (h' := (zk_mk G sw' σ' α' (zk_md τ' β' []))) rfl rfl rfl ?_
        refine zk_icmp_same (tgt := 783) dL_law_745 (by decide) ?_
        refine zk_iinc (ls' := [some (.inr (some 0)), some (.inr (some 1)), some (.inr (some 22)), some (.inl ((i : Int) + 6))]) dL_law_783 rfl (Nat.le_of_ble_eq_true rfl) rfl ?_
        refine zk_goto (tgt := 18) dL_law_786 (by decide) ?_
        have e6 : (i : Int) + 6 = ((i + 6 : Nat) : Int) := by omega
        rw [e6]
        exact ih (i + 6) sw' σ' α' τ' β' (by omega) (by omega) hz'
      by_cases h33_24 : ((zk_gX G (i : Int).toNat).toInt) % 32 = 24
      · skip
        refine zk_tableIn (tgt := 750) dL_law_33 ⟨by omega, by omega⟩ (by omega) (by omega) (by rw [h33_24]; rfl) (by decide) ?_
        refine zk_aload_n dL_law_750 rfl ?_
        refine zk_aload_n dL_law_751 rfl ?_
        refine zk_iload_n dL_law_752 rfl ?_
        refine zk_iconst dL_law_753 ?_
        refine zk_iadd dL_law_754 ?_
        refine zk_iald dL_law_755 (n := zk_gL G) (f := fun j => (zk_gX G j).toInt) rfl (by omega) (by omega) (by omega) ?_
        refine zk_aload_n dL_law_756 rfl ?_
        refine zk_iload_n dL_law_757 rfl ?_
        refine zk_iconst dL_law_758 ?_
        refine zk_iadd dL_law_759 ?_
        refine zk_iald dL_law_760 (n := zk_gL G) (f := fun j => (zk_gX G j).toInt) rfl (by omega) (by omega) (by omega) ?_
        refine zk_callV (av := [.inl ((zk_gX G ((i : Int) + 1).toNat).toInt), .inl ((zk_gX G ((i : Int) + 2).toNat).toInt)]) (st := []) (d' := (2, 42)) (kc' := 0) (ks' := 0) zbL_114 dL_law_761 rfl (by decide) rfl rfl (Nat.le_of_ble_eq_true rfl) ⟨by decide, by decide⟩ rfl rfl (zd_at G sw σ α τ β [] hz (zl_rg G _) (zl_rg G _)) (fun v9 h9 q9 => ?_)
        obtain ⟨sw', σ', α', r, rfl, rfl, hM⟩ := q9
        refine zk_W.to (ls' := [some (.inr (some 0)), some (.inr (some 1)), some (.inr (some 22)), some (.inl (i : Int))]) (st' := [.inl r]) (h' := (zk_mk G sw' σ' α' (zk_md τ β []))) rfl rfl rfl ?_
        refine zk_aload_n dL_law_764 rfl ?_
        refine zk_aload_n dL_law_765 rfl ?_
        refine zk_iload_n dL_law_766 rfl ?_
        refine zk_iconst dL_law_767 ?_
        refine zk_iadd dL_law_768 ?_
        refine zk_iald dL_law_769 (n := zk_gL G) (f := fun j => (zk_gX G j).toInt) rfl (by omega) (by omega) (by omega) ?_
        refine zk_aload_n dL_law_770 rfl ?_
        refine zk_iload_n dL_law_771 rfl ?_
        refine zk_iconst dL_law_772 ?_
        refine zk_iadd dL_law_773 ?_
        refine zk_iald dL_law_774 (n := zk_gL G) (f := fun j => (zk_gX G j).toInt) rfl (by omega) (by omega) (by omega) ?_
        refine zk_callV (av := [.inl ((zk_gX G ((i : Int) + 1).toNat).toInt), .inl ((zk_gX G ((i : Int) + 2).toNat).toInt)]) (st := [.inl r]) (d' := (1, 22)) (kc' := 0) (ks' := 0) zbL_117 dL_law_775 rfl (by decide) rfl rfl (Nat.le_of_ble_eq_true rfl) ⟨by decide, by decide⟩ rfl rfl (hM) (fun v9 h9 q9 => ?_)
        obtain ⟨rfl, τ', β', rfl, hz'⟩ := q9
        refine zk_W.to (ls' := [some (.inr (some 0)), some (.inr (some 1)), some (.inr (some 22)), some (.inl (i : Int))]) (st' := [.inl r, .inl r]) (h' := (zk_mk G sw' σ' α' (zk_md τ' β' []))) rfl rfl rfl ?_
        refine zk_icmp_same (tgt := 783) dL_law_778 (by decide) ?_
        refine zk_iinc (ls' := [some (.inr (some 0)), some (.inr (some 1)), some (.inr (some 22)), some (.inl ((i : Int) + 6))]) dL_law_783 rfl (Nat.le_of_ble_eq_true rfl) rfl ?_
        refine zk_goto (tgt := 18) dL_law_786 (by decide) ?_
        have e6 : (i : Int) + 6 = ((i + 6 : Nat) : Int) := by omega
        rw [e6]
        exact ih (i + 6) sw' σ' α' τ' β' (by omega) (by omega) hz'
      refine zk_tableOut (tgt := 783) dL_law_33 ⟨by omega, by omega⟩ (by omega) (by decide) ?_
      refine zk_iinc (ls' := [some (.inr (some 0)), some (.inr (some 1)), some (.inr (some 22)), some (.inl ((i : Int) + 6))]) dL_law_783 rfl (Nat.le_of_ble_eq_true rfl) rfl ?_
      refine zk_goto (tgt := 18) dL_law_786 (by decide) ?_
      have e6 : (i : Int) + 6 = ((i + 6 : Nat) : Int) := by omega
      rw [e6]
      exact ih (i + 6) sw σ α τ β (by omega) (by omega) hz

theorem zz_0 : zz zi_s zi_a (zk_up (zk_up (zk_up (zk_up (zk_up (zk_up (zk_up (zk_up (zk_up (zk_up zi_t 0 4) 1 2) 2 4) 3 2) 4 3) 5 0) 6 1) 7 0) 8 0) 9 0) (zk_ua (zk_ua zi_a 1 (zk_up (zi_a 1) 0 0)) 1 (zk_up (zk_up (zi_a 1) 0 0) 1 0)) := by
  have rg0 : zk_rg 0 := zk_rg0
  refine ⟨zc_I_new (fun q hq j => ⟨Int.le_refl 0, by show (0 : Int) ≤ 255; omega⟩) (fun q j hq => rg0) (fun q hq => ?_) (fun j hj => ?_) rfl rfl rfl, ⟨rfl, rfl, fun j hj => rfl, fun j hj => rfl, fun j => ⟨Int.le_refl 0, by show (0 : Int) ≤ 255; omega⟩⟩, ⟨rfl, rfl, rfl, rfl, rfl⟩, ⟨rfl, rfl, fun k hk => absurd hk (Nat.not_lt_zero k)⟩, ⟨rfl, fun x hx => rfl⟩, ⟨rfl, fun x hx => rfl⟩, zl_0 rfl⟩
  · match q, hq with
    | 0, _ => rfl
    | 1, _ => rfl
    | 2, _ => rfl
    | 3, _ => rfl
    | 4, _ => rfl
  · match j, hj with
    | 0, _ => exact (by decide : (0 : Int) ≤ 4 ∧ (4 : Int) ≤ 100)
    | 1, _ => exact (by decide : (0 : Int) ≤ 2 ∧ (2 : Int) ≤ 100)
    | 2, _ => exact (by decide : (0 : Int) ≤ 4 ∧ (4 : Int) ≤ 100)
    | 3, _ => exact (by decide : (0 : Int) ≤ 2 ∧ (2 : Int) ≤ 100)
    | 4, _ => exact (by decide : (0 : Int) ≤ 3 ∧ (3 : Int) ≤ 100)

set_option maxRecDepth 100000 in
set_option maxHeartbeats 4000000 in
theorem wL_law (G : zk_G) (nm : String) (hL : zk_gL G ≤ 3072) : zk_W G (mLaw nm) (7, 160) 31 20742 0 [some (.inr (some 0)), none, none, none] [] [zk_scr G] (fun v h' => v = some (.inl 1)) := by
  refine zk_new (h' := ([zk_scr G, .inr (4, [.inr none, .inr none, .inr none, .inr none, .inr none, .inr none, .inr none])] : zk_H)) (kc' := 30) (ks' := 20735) zoL_7 dL_law_0 rfl rfl rfl ?_
  refine zk_W.to (ls' := [some (.inr (some 0)), none, none, none]) (st' := [.inr (some 1)]) (h' := ([zk_scr G, .inr (4, [.inr none, .inr none, .inr none, .inr none, .inr none, .inr none, .inr none])] : zk_H)) rfl rfl rfl ?_
  refine zk_dup dL_law_3 ?_
  refine zk_callI (av := []) (k := 1) (st := [.inr (some 1)]) (d' := (3, 65)) (kc' := 10) (ks' := 10275) zbL_9 dL_law_4 rfl rfl (Nat.le_of_ble_eq_true rfl) ⟨by decide, by decide⟩ rfl rfl (ki10_C_init G) (fun v9 h9 q9 => ?_)
  obtain ⟨rfl, rfl⟩ := q9
  refine zk_W.to (ls' := [some (.inr (some 0)), none, none, none]) (st' := [.inr (some 1)]) (h' := ([zk_scr G, .inr (4, [.inr (some 2), .inr (some 4), .inr (some 6), .inr (some 8), .inr (some 10), .inr (some 11), .inr (some 18)]), .inr (2, [.inr (some 3), .inl 0]), .inl (40, fun _ => 0), .inr (2, [.inr (some 5), .inl 0]), .inl (40, fun _ => 0), .inr (2, [.inr (some 7), .inl 0]), .inl (80, fun _ => 0), .inr (2, [.inr (some 9), .inl 0]), .inl (4102, fun _ => 0), .inr (1, [.inl 4, .inl 2, .inl 4, .inl 2, .inl 3]), .inr (0, [.inr (some 12), .inr (some 13), .inr (some 14), .inr (some 15), .inr (some 16), .inl 0, .inl 1]), .inl (100, fun _ => 0), .inl (100, fun _ => 0), .inl (100, fun _ => 0), .inl (100, fun _ => 0), .inr (2, [.inr (some 17), .inl 0]), .inl (4000, fun _ => 0), .inr (3, [.inr (some 2), .inr (some 4), .inr (some 10), .inr (some 19), .inr (some 20), .inr (some 21), .inl 0, .inl 0, .inl 0, .inl 0, .inl 0, .inl 0, .inl 0]), .inl (1681, fun _ => 0), .inl (41, fun _ => 0), .inl (41, fun _ => 0)] : zk_H)) rfl rfl rfl ?_
  refine zk_astore_n (ls' := [some (.inr (some 0)), some (.inr (some 1)), none, none]) dL_law_7 (Nat.le_of_ble_eq_true rfl) rfl ?_
  refine zk_new (h' := ([zk_scr G, .inr (4, [.inr (some 2), .inr (some 4), .inr (some 6), .inr (some 8), .inr (some 10), .inr (some 11), .inr (some 18)]), .inr (2, [.inr (some 3), .inl 0]), .inl (40, fun _ => 0), .inr (2, [.inr (some 5), .inl 0]), .inl (40, fun _ => 0), .inr (2, [.inr (some 7), .inl 0]), .inl (80, fun _ => 0), .inr (2, [.inr (some 9), .inl 0]), .inl (4102, fun _ => 0), .inr (1, [.inl 4, .inl 2, .inl 4, .inl 2, .inl 3]), .inr (0, [.inr (some 12), .inr (some 13), .inr (some 14), .inr (some 15), .inr (some 16), .inl 0, .inl 1]), .inl (100, fun _ => 0), .inl (100, fun _ => 0), .inl (100, fun _ => 0), .inl (100, fun _ => 0), .inr (2, [.inr (some 17), .inl 0]), .inl (4000, fun _ => 0), .inr (3, [.inr (some 2), .inr (some 4), .inr (some 10), .inr (some 19), .inr (some 20), .inr (some 21), .inl 0, .inl 0, .inl 0, .inl 0, .inl 0, .inl 0, .inl 0]), .inl (1681, fun _ => 0), .inl (41, fun _ => 0), .inl (41, fun _ => 0), .inr (5, [.inr none, .inr none, .inl 0, .inl 0, .inl 0, .inl 0, .inl 0, .inl 0, .inr none, .inr none, .inr none, .inr none, .inl 0, .inl 0, .inr none, .inl 0, .inr none, .inl 0, .inr none, .inl 0, .inl 0, .inl 0])] : zk_H)) (kc' := 9) (ks' := 10253) zoL_10 dL_law_8 rfl rfl rfl ?_
  refine zk_W.to (ls' := [some (.inr (some 0)), some (.inr (some 1)), none, none]) (st' := [.inr (some 22)]) (h' := ([zk_scr G, .inr (4, [.inr (some 2), .inr (some 4), .inr (some 6), .inr (some 8), .inr (some 10), .inr (some 11), .inr (some 18)]), .inr (2, [.inr (some 3), .inl 0]), .inl (40, fun _ => 0), .inr (2, [.inr (some 5), .inl 0]), .inl (40, fun _ => 0), .inr (2, [.inr (some 7), .inl 0]), .inl (80, fun _ => 0), .inr (2, [.inr (some 9), .inl 0]), .inl (4102, fun _ => 0), .inr (1, [.inl 4, .inl 2, .inl 4, .inl 2, .inl 3]), .inr (0, [.inr (some 12), .inr (some 13), .inr (some 14), .inr (some 15), .inr (some 16), .inl 0, .inl 1]), .inl (100, fun _ => 0), .inl (100, fun _ => 0), .inl (100, fun _ => 0), .inl (100, fun _ => 0), .inr (2, [.inr (some 17), .inl 0]), .inl (4000, fun _ => 0), .inr (3, [.inr (some 2), .inr (some 4), .inr (some 10), .inr (some 19), .inr (some 20), .inr (some 21), .inl 0, .inl 0, .inl 0, .inl 0, .inl 0, .inl 0, .inl 0]), .inl (1681, fun _ => 0), .inl (41, fun _ => 0), .inl (41, fun _ => 0), .inr (5, [.inr none, .inr none, .inl 0, .inl 0, .inl 0, .inl 0, .inl 0, .inl 0, .inr none, .inr none, .inr none, .inr none, .inl 0, .inl 0, .inr none, .inl 0, .inr none, .inl 0, .inr none, .inl 0, .inl 0, .inl 0])] : zk_H)) rfl rfl rfl ?_
  refine zk_dup dL_law_11 ?_
  refine zk_callI (av := []) (k := 22) (st := [.inr (some 22)]) (d' := (1, 20)) (kc' := 0) (ks' := 0) zbL_12 dL_law_12 rfl rfl (Nat.le_of_ble_eq_true rfl) ⟨by decide, by decide⟩ rfl rfl (ki11_M_init G) (fun v9 h9 q9 => ?_)
  obtain ⟨rfl, rfl⟩ := q9
  refine zk_W.to (ls' := [some (.inr (some 0)), some (.inr (some 1)), none, none]) (st' := [.inr (some 22)]) (h' := zk_mk G false zi_s zi_a (zk_md (zk_up (zk_up (zk_up (zk_up (zk_up (zk_up (zk_up (zk_up (zk_up (zk_up zi_t 0 4) 1 2) 2 4) 3 2) 4 3) 5 0) 6 1) 7 0) 8 0) 9 0) (zk_ua (zk_ua zi_a 1 (zk_up (zi_a 1) 0 0)) 1 (zk_up (zk_up (zi_a 1) 0 0) 1 0)) [])) rfl rfl rfl ?_
  refine zk_astore_n (ls' := [some (.inr (some 0)), some (.inr (some 1)), some (.inr (some 22)), none]) dL_law_15 (Nat.le_of_ble_eq_true rfl) rfl ?_
  refine zk_iconst dL_law_16 ?_
  refine zk_istore_n (ls' := [some (.inr (some 0)), some (.inr (some 1)), some (.inr (some 22)), some (.inl 0)]) dL_law_17 (Nat.le_of_ble_eq_true rfl) rfl ?_
  exact wL_loop G nm hL (zk_gL G + 7) 0 false zi_s zi_a _ _ (by omega) (by omega) zz_0
