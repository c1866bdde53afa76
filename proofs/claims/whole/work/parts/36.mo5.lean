/-! The reference: execute (g_mo5.py) -/
def xT (τ : Sg) (p h q r : Nat) : Sg := U (U (U τ 18 p h q) 19 p q r) 10 p 0 (h + 1)
noncomputable def xS (σ : Sg) (p q : Nat) : Sg := xT (exS σ p (σ 6 0 q) (σ 7 0 q)) p (σ 10 p 0) q (exR σ p (σ 6 0 q) (σ 7 0 q))
/-- inputs are older than the transaction -/
def INP (σ : Sg) : Prop := ∀ t, t < σ 33 0 0 → σ 1 0 t < 4 + 2 * t ∧ σ 2 0 t ≤ 4 + 2 * t

set_option maxHeartbeats 4000000 in
set_option maxRecDepth 100000 in
theorem lp_ex_end {l : Launch} {D : va_G} {M nx : Nat} {L : Int32} {σ τ ρ : Sg} {g : Nat → Option va_E} {p : Nat} (hp : p < 8) (q r : Nat) (hq : q < 32) (h10 : τ 10 = σ 10) (h16 : σ 10 p 0 < 16) (x3 x6 x7 x8 x9 : Option Value) : J (G0 l D) jT m_Mo_execute 0 (fun v h => v = none ∧ h = (hM D M L (xT (τ) p (σ 10 p 0) q (r)) ρ g, nx)) 0 0 296 [some (.ref (M + 0)), some (.int (nI p)), some (.int (nI q)), x3, some (.int (nI (p / 4))), some (.int (nI r)), x6, x7, x8, x9] [] (hM D M L τ ρ g, nx) := by
  have e10 : τ 10 p 0 = σ 10 p 0 := by rw [h10]
  first | refine j_aload_n d_Mo_execute_296 rfl ?_ | refine j_aload_nq d_Mo_execute_296 rfl ?_ | refine j_aload_nN d_Mo_execute_296 rfl ?_
  refine j_get d_Mo_execute_297 f_Mo_62 (hM_o (by decide)) rfl ?_
  refine j_bipush (v := nI 16) d_Mo_execute_300 (by decide +kernel) ?_
  refine j_iload_n d_Mo_execute_302 rfl ?_
  refine jn_imul d_Mo_execute_303 ?_
  first | refine j_aload_n d_Mo_execute_304 rfl ?_ | refine j_aload_nq d_Mo_execute_304 rfl ?_ | refine j_aload_nN d_Mo_execute_304 rfl ?_
  refine j_get d_Mo_execute_305 f_Mo_37 (hM_o (by decide)) rfl ?_
  refine j_iload_n d_Mo_execute_308 rfl ?_
  refine j_iald (t := 0) d_Mo_execute_309 rfl (hM_o (by decide)) rfl (by omega) (by decide) ?_
  refine jn_iadd d_Mo_execute_310 ?_
  refine j_iload_n d_Mo_execute_311 rfl ?_
  refine j_iast (t := 0) d_Mo_execute_312 rfl (hM_o (by decide)) rfl (by omega) (by decide) (J.hq (o18 (by omega)) ?_)
  first | refine j_aload_n d_Mo_execute_313 rfl ?_ | refine j_aload_nq d_Mo_execute_313 rfl ?_ | refine j_aload_nN d_Mo_execute_313 rfl ?_
  refine j_get d_Mo_execute_314 f_Mo_65 (hM_o (by decide)) rfl ?_
  refine j_bipush (v := nI 32) d_Mo_execute_317 (by decide +kernel) ?_
  refine j_iload_n d_Mo_execute_319 rfl ?_
  refine jn_imul d_Mo_execute_320 ?_
  refine j_iload_n d_Mo_execute_321 rfl ?_
  refine jn_iadd d_Mo_execute_322 ?_
  refine j_iload d_Mo_execute_323 rfl ?_
  refine j_iast (t := 0) d_Mo_execute_325 rfl (hM_o (by decide)) rfl (by omega) (by decide) (J.hq (o19 hq) ?_)
  first | refine j_aload_n d_Mo_execute_326 rfl ?_ | refine j_aload_nq d_Mo_execute_326 rfl ?_ | refine j_aload_nN d_Mo_execute_326 rfl ?_
  refine j_get d_Mo_execute_327 f_Mo_37 (hM_o (by decide)) rfl ?_
  refine j_iload_n d_Mo_execute_330 rfl ?_
  refine j_dup2 d_Mo_execute_331 rfl rfl ?_
  refine j_iald (t := 0) d_Mo_execute_332 rfl (hM_o (by decide)) rfl (by omega) (by decide) ?_
  refine j_iconst (v := nI 1) d_Mo_execute_333 (by decide +kernel) ?_
  refine jn_iadd d_Mo_execute_334 ?_
  refine j_iast (t := 0) d_Mo_execute_335 rfl (hM_o (by decide)) rfl (by omega) (by decide) (J.hq o10 ?_)
  exact j_vret d_Mo_execute_336 rfl ⟨rfl, by unfold xT; rw [← h10]; rfl⟩

set_option maxHeartbeats 4000000 in
set_option maxRecDepth 100000 in
theorem lp_ex_k0 {l : Launch} {D : va_G} {M nx : Nat} {L : Int32} {σ ρ : Sg} {g : Nat → Option va_E} {p : Nat} (hp : p < 8) (hb : bd σ) (q t : Nat) (hq : q < 32) (ht : t < 8) (h16 : σ 10 p 0 < 16) (hk : σ 6 0 q = 0) : ∀ (m : Nat) (j : Nat) (τ : Sg) (x7 x8 x9 : Option Value), j ≤ 10 → 10 - j < m → τ = exLk σ p t j → J (G0 l D) jT m_Mo_execute 0 (fun v h => v = none ∧ h = (hM D M L (xT (exLk σ p t 10) p (σ 10 p 0) q (1)) ρ g, nx)) 0 0 91 [some (.ref (M + 0)), some (.int (nI p)), some (.int (nI q)), some (.int (nI t)), some (.int (nI (p / 4))), some (.int (nI 1)), some (.int (nI (p / 4 + 2 * j))), x7, x8, x9] [] (hM D M L τ ρ g, nx) := by
  intro m
  induction m with
  | zero =>
    intros
    exfalso
    omega
  | succ m ih =>
    intro j τ x7 x8 x9 h1 h2 hτ
    have ne : ∀ f, f ≠ 8 → f ≠ 9 → τ f = σ f := fun f h8 h9 => by rw [hτ]; exact exLk_ne h8 h9 _
    have e6 : τ 6 0 q = 0 := by rw [ne 6 (by decide) (by decide)]; exact hk
    have e1 : τ 1 0 t = σ 1 0 t := by rw [ne 1 (by decide) (by decide)]
    have e2 : τ 2 0 t = σ 2 0 t := by rw [ne 2 (by decide) (by decide)]
    have e4 : τ 4 0 (p / 4 + 2 * j) = σ 4 0 (p / 4 + 2 * j) := by rw [ne 4 (by decide) (by decide)]
    have b1 := hb 1 0 t
    have b2 := hb 2 0 t
    have b4 := hb 4 0 (p / 4 + 2 * j)
    have b8 : τ 8 p (p / 4 + 2 * j) < 100000 := by rw [hτ]; exact exLk_bd hb (by omega) j _ _ _
    have b9 : τ 9 p (p / 4 + 2 * j) < 100000 := by rw [hτ]; exact exLk_bd hb (by omega) j _ _ _
    refine j_iload d_Mo_execute_91 rfl ?_
    refine j_bipush (v := nI 20) d_Mo_execute_93 (by decide +kernel) ?_
    first | refine nn_icmp_ge (t := 296) d_Mo_execute_95 (by decide) (by omega) (by omega) (fun c95 => ?_) (fun c95 => ?_) | refine mm_icmp_ge (t := 296) d_Mo_execute_95 (by decide) (by omega) (by omega) (fun c95 => ?_) (fun c95 => ?_) | refine mn_icmp_ge (t := 296) d_Mo_execute_95 (by decide) (by omega) (by omega) (fun c95 => ?_) (fun c95 => ?_) | refine nm_icmp_ge (t := 296) d_Mo_execute_95 (by decide) (by omega) (by omega) (fun c95 => ?_) (fun c95 => ?_) | refine j_icmp_ge (t := 296) d_Mo_execute_95 (by decide) (fun c95 => ?_) (fun c95 => ?_)
    · have hj : j = 10 := by omega
      subst hj
      rw [← hτ]
      exact lp_ex_end hp q 1 hq (by rw [hτ]; exact exLk_ne (by decide) (by decide) _) h16 _ _ _ _ _
    · refine j_bipush (v := nI 20) d_Mo_execute_98 (by decide +kernel) ?_
      refine j_iload_n d_Mo_execute_100 rfl ?_
      refine jn_imul d_Mo_execute_101 ?_
      refine j_iload d_Mo_execute_102 rfl ?_
      refine jn_iadd d_Mo_execute_104 ?_
      refine j_istore (lc' := [_, _, _, _, _, _, _, _, _, _]) d_Mo_execute_105 (by decide) rfl rfl ?_
      refine j_iload d_Mo_execute_107 rfl ?_
      first | refine j_aload_n d_Mo_execute_109 rfl ?_ | refine j_aload_nq d_Mo_execute_109 rfl ?_ | refine j_aload_nN d_Mo_execute_109 rfl ?_
      refine j_get d_Mo_execute_110 f_Mo_7 (hM_o (by decide)) rfl ?_
      refine j_iload_n d_Mo_execute_113 rfl ?_
      refine j_iald (t := 0) d_Mo_execute_114 rfl (hM_o (by decide)) rfl (by omega) (by decide) ?_
      first | refine nn_icmp_eq (t := 129) d_Mo_execute_115 (by decide) (by omega) (by omega) (fun c115 => ?_) (fun c115 => ?_) | refine mm_icmp_eq (t := 129) d_Mo_execute_115 (by decide) (by omega) (by omega) (fun c115 => ?_) (fun c115 => ?_) | refine mn_icmp_eq (t := 129) d_Mo_execute_115 (by decide) (by omega) (by omega) (fun c115 => ?_) (fun c115 => ?_) | refine nm_icmp_eq (t := 129) d_Mo_execute_115 (by decide) (by omega) (by omega) (fun c115 => ?_) (fun c115 => ?_) | refine j_icmp_eq (t := 129) d_Mo_execute_115 (by decide) (fun c115 => ?_) (fun c115 => ?_)
      · refine j_iconst (v := nI 1) d_Mo_execute_129 (by decide +kernel) ?_
        refine j_goto (t := 134) d_Mo_execute_130 (by decide) ?_
        refine j_istore (lc' := [_, _, _, _, _, _, _, _, _, _]) d_Mo_execute_134 (by decide) rfl rfl ?_
        refine j_iload d_Mo_execute_136 rfl ?_
        refine j_iconst (v := nI 2) d_Mo_execute_138 (by decide +kernel) ?_
        refine jn_idiv d_Mo_execute_139 (by omega) (by decide) (by decide) ?_
        refine j_iconst (v := nI 2) d_Mo_execute_140 (by decide +kernel) ?_
        refine j_iload_n d_Mo_execute_141 rfl ?_
        refine jn_iadd d_Mo_execute_142 ?_
        first | refine nn_icmp_ne (t := 160) d_Mo_execute_143 (by decide) (by omega) (by omega) (fun c143 => ?_) (fun c143 => ?_) | refine mm_icmp_ne (t := 160) d_Mo_execute_143 (by decide) (by omega) (by omega) (fun c143 => ?_) (fun c143 => ?_) | refine mn_icmp_ne (t := 160) d_Mo_execute_143 (by decide) (by omega) (by omega) (fun c143 => ?_) (fun c143 => ?_) | refine nm_icmp_ne (t := 160) d_Mo_execute_143 (by decide) (by omega) (by omega) (fun c143 => ?_) (fun c143 => ?_) | refine j_icmp_ne (t := 160) d_Mo_execute_143 (by decide) (fun c143 => ?_) (fun c143 => ?_)
        · refine j_iconst (v := nI 0) d_Mo_execute_160 (by decide +kernel) ?_
          refine j_istore (lc' := [_, _, _, _, _, _, _, _, _, _]) d_Mo_execute_161 (by decide) rfl rfl ?_
          refine j_iload d_Mo_execute_163 rfl ?_
          refine j_if_eq (t := 199) d_Mo_execute_165 (by decide) (fun q => absurd q (by decide +kernel)) (fun _ => ?_)
          first | refine j_aload_n d_Mo_execute_168 rfl ?_ | refine j_aload_nq d_Mo_execute_168 rfl ?_ | refine j_aload_nN d_Mo_execute_168 rfl ?_
          refine j_get d_Mo_execute_169 f_Mo_25 (hM_o (by decide)) rfl ?_
          refine j_iload_n d_Mo_execute_172 rfl ?_
          refine j_iald (t := 0) d_Mo_execute_173 rfl (hM_o (by decide)) rfl (by omega) (by decide) ?_
          first | refine c_if_ne (t := 199) d_Mo_execute_174 (by decide) (fun c174 => ?_) (fun c174 => ?_) | refine n_if_ne (t := 199) d_Mo_execute_174 (by decide) (by omega) (fun c174 => ?_) (fun c174 => ?_) | refine j_if_ne (t := 199) d_Mo_execute_174 (by decide) (fun c174 => ?_) (fun c174 => ?_)
          · exfalso; first | exact c174 | omega
          · refine j_iload d_Mo_execute_177 rfl ?_
            refine j_iconst (v := nI 1) d_Mo_execute_179 (by decide +kernel) ?_
            first | refine nn_icmp_ne (t := 199) d_Mo_execute_180 (by decide) (by omega) (by omega) (fun c180 => ?_) (fun c180 => ?_) | refine mm_icmp_ne (t := 199) d_Mo_execute_180 (by decide) (by omega) (by omega) (fun c180 => ?_) (fun c180 => ?_) | refine mn_icmp_ne (t := 199) d_Mo_execute_180 (by decide) (by omega) (by omega) (fun c180 => ?_) (fun c180 => ?_) | refine nm_icmp_ne (t := 199) d_Mo_execute_180 (by decide) (by omega) (by omega) (fun c180 => ?_) (fun c180 => ?_) | refine j_icmp_ne (t := 199) d_Mo_execute_180 (by decide) (fun c180 => ?_) (fun c180 => ?_)
            · exfalso; first | exact c180 | omega
            · first | refine j_aload_n d_Mo_execute_183 rfl ?_ | refine j_aload_nq d_Mo_execute_183 rfl ?_ | refine j_aload_nN d_Mo_execute_183 rfl ?_
              refine j_get d_Mo_execute_184 f_Mo_31 (hM_o (by decide)) rfl ?_
              refine j_iload d_Mo_execute_187 rfl ?_
              refine j_iconst (v := nI 2) d_Mo_execute_189 (by decide +kernel) ?_
              refine j_iast (t := 0) d_Mo_execute_190 rfl (hM_o (by decide)) rfl (by omega) (by decide) (J.hq (o8 (by omega)) ?_)
              first | refine j_aload_n d_Mo_execute_191 rfl ?_ | refine j_aload_nq d_Mo_execute_191 rfl ?_ | refine j_aload_nN d_Mo_execute_191 rfl ?_
              refine j_get d_Mo_execute_192 f_Mo_34 (hM_o (by decide)) rfl ?_
              refine j_iload d_Mo_execute_195 rfl ?_
              refine j_iload_n d_Mo_execute_197 rfl ?_
              refine j_iast (t := 0) d_Mo_execute_198 rfl (hM_o (by decide)) rfl (by omega) (by decide) (J.hq (o9 (by omega)) ?_)
              generalize hτ' : U (U τ 8 p (p / 4 + 2 * j) 2) 9 p (p / 4 + 2 * j) t = τ'
              have e6 : τ' 6 0 q = 0 := by rw [← hτ']; exact e6
              refine j_iload d_Mo_execute_199 rfl ?_
              refine j_if_eq (t := 222) d_Mo_execute_201 (by decide) (fun q => absurd q (by decide +kernel)) (fun _ => ?_)
              first | refine j_aload_n d_Mo_execute_204 rfl ?_ | refine j_aload_nq d_Mo_execute_204 rfl ?_ | refine j_aload_nN d_Mo_execute_204 rfl ?_
              refine j_get d_Mo_execute_205 f_Mo_25 (hM_o (by decide)) rfl ?_
              refine j_iload_n d_Mo_execute_208 rfl ?_
              refine j_iald (t := 0) d_Mo_execute_209 rfl (hM_o (by decide)) rfl (by omega) (by decide) ?_
              refine j_iconst (v := nI 1) d_Mo_execute_210 (by decide +kernel) ?_
              first | refine nn_icmp_ne (t := 222) d_Mo_execute_211 (by decide) (by omega) (by omega) (fun c211 => ?_) (fun c211 => ?_) | refine mm_icmp_ne (t := 222) d_Mo_execute_211 (by decide) (by omega) (by omega) (fun c211 => ?_) (fun c211 => ?_) | refine mn_icmp_ne (t := 222) d_Mo_execute_211 (by decide) (by omega) (by omega) (fun c211 => ?_) (fun c211 => ?_) | refine nm_icmp_ne (t := 222) d_Mo_execute_211 (by decide) (by omega) (by omega) (fun c211 => ?_) (fun c211 => ?_) | refine j_icmp_ne (t := 222) d_Mo_execute_211 (by decide) (fun c211 => ?_) (fun c211 => ?_)
              · refine j_iload d_Mo_execute_222 rfl ?_
                refine j_if_eq (t := 267) d_Mo_execute_224 (by decide) (fun q => absurd q (by decide +kernel)) (fun _ => ?_)
                first | refine j_aload_n d_Mo_execute_227 rfl ?_ | refine j_aload_nq d_Mo_execute_227 rfl ?_ | refine j_aload_nN d_Mo_execute_227 rfl ?_
                refine j_get d_Mo_execute_228 f_Mo_25 (hM_o (by decide)) rfl ?_
                refine j_iload_n d_Mo_execute_231 rfl ?_
                refine j_iald (t := 0) d_Mo_execute_232 rfl (hM_o (by decide)) rfl (by omega) (by decide) ?_
                refine j_iconst (v := nI 2) d_Mo_execute_233 (by decide +kernel) ?_
                first | refine nn_icmp_ne (t := 267) d_Mo_execute_234 (by decide) (by omega) (by omega) (fun c234 => ?_) (fun c234 => ?_) | refine mm_icmp_ne (t := 267) d_Mo_execute_234 (by decide) (by omega) (by omega) (fun c234 => ?_) (fun c234 => ?_) | refine mn_icmp_ne (t := 267) d_Mo_execute_234 (by decide) (by omega) (by omega) (fun c234 => ?_) (fun c234 => ?_) | refine nm_icmp_ne (t := 267) d_Mo_execute_234 (by decide) (by omega) (by omega) (fun c234 => ?_) (fun c234 => ?_) | refine j_icmp_ne (t := 267) d_Mo_execute_234 (by decide) (fun c234 => ?_) (fun c234 => ?_)
                · refine j_iload d_Mo_execute_267 rfl ?_
                  refine j_if_eq (t := 290) d_Mo_execute_269 (by decide) (fun _ => ?_) (fun q => absurd q (by decide +kernel))
                  refine n_iinc (k := 2) (lc' := [_, _, _, _, _, _, _, _, _, _]) d_Mo_execute_290 (by decide +kernel) rfl (by decide) rfl rfl ?_
                  refine j_goto (t := 91) d_Mo_execute_293 (by decide) ?_
                  exact ih (j + 1) _ _ _ _ (by omega) (by omega) (by rw [← hτ', exLk, ifP_t (show inp σ t (p / 4 + 2 * j) from Or.inl (by omega)), ← hτ])
                · exfalso; first | exact c234 | omega
              · exfalso; first | exact c211 | omega
        · first | refine j_aload_n d_Mo_execute_146 rfl ?_ | refine j_aload_nq d_Mo_execute_146 rfl ?_ | refine j_aload_nN d_Mo_execute_146 rfl ?_
          refine j_get d_Mo_execute_147 f_Mo_19 (hM_o (by decide)) rfl ?_
          refine j_iload d_Mo_execute_150 rfl ?_
          refine j_iald (t := 0) d_Mo_execute_152 rfl (hM_o (by decide)) rfl (by omega) (by decide) ?_
          first | refine n_if_le (t := 160) d_Mo_execute_153 (by decide) (by omega) (fun c153 => ?_) (fun c153 => ?_) | refine j_if_le (t := 160) d_Mo_execute_153 (by decide) (fun c153 => ?_) (fun c153 => ?_)
          · refine j_iconst (v := nI 0) d_Mo_execute_160 (by decide +kernel) ?_
            refine j_istore (lc' := [_, _, _, _, _, _, _, _, _, _]) d_Mo_execute_161 (by decide) rfl rfl ?_
            refine j_iload d_Mo_execute_163 rfl ?_
            refine j_if_eq (t := 199) d_Mo_execute_165 (by decide) (fun q => absurd q (by decide +kernel)) (fun _ => ?_)
            first | refine j_aload_n d_Mo_execute_168 rfl ?_ | refine j_aload_nq d_Mo_execute_168 rfl ?_ | refine j_aload_nN d_Mo_execute_168 rfl ?_
            refine j_get d_Mo_execute_169 f_Mo_25 (hM_o (by decide)) rfl ?_
            refine j_iload_n d_Mo_execute_172 rfl ?_
            refine j_iald (t := 0) d_Mo_execute_173 rfl (hM_o (by decide)) rfl (by omega) (by decide) ?_
            first | refine c_if_ne (t := 199) d_Mo_execute_174 (by decide) (fun c174 => ?_) (fun c174 => ?_) | refine n_if_ne (t := 199) d_Mo_execute_174 (by decide) (by omega) (fun c174 => ?_) (fun c174 => ?_) | refine j_if_ne (t := 199) d_Mo_execute_174 (by decide) (fun c174 => ?_) (fun c174 => ?_)
            · exfalso; first | exact c174 | omega
            · refine j_iload d_Mo_execute_177 rfl ?_
              refine j_iconst (v := nI 1) d_Mo_execute_179 (by decide +kernel) ?_
              first | refine nn_icmp_ne (t := 199) d_Mo_execute_180 (by decide) (by omega) (by omega) (fun c180 => ?_) (fun c180 => ?_) | refine mm_icmp_ne (t := 199) d_Mo_execute_180 (by decide) (by omega) (by omega) (fun c180 => ?_) (fun c180 => ?_) | refine mn_icmp_ne (t := 199) d_Mo_execute_180 (by decide) (by omega) (by omega) (fun c180 => ?_) (fun c180 => ?_) | refine nm_icmp_ne (t := 199) d_Mo_execute_180 (by decide) (by omega) (by omega) (fun c180 => ?_) (fun c180 => ?_) | refine j_icmp_ne (t := 199) d_Mo_execute_180 (by decide) (fun c180 => ?_) (fun c180 => ?_)
              · exfalso; first | exact c180 | omega
              · first | refine j_aload_n d_Mo_execute_183 rfl ?_ | refine j_aload_nq d_Mo_execute_183 rfl ?_ | refine j_aload_nN d_Mo_execute_183 rfl ?_
                refine j_get d_Mo_execute_184 f_Mo_31 (hM_o (by decide)) rfl ?_
                refine j_iload d_Mo_execute_187 rfl ?_
                refine j_iconst (v := nI 2) d_Mo_execute_189 (by decide +kernel) ?_
                refine j_iast (t := 0) d_Mo_execute_190 rfl (hM_o (by decide)) rfl (by omega) (by decide) (J.hq (o8 (by omega)) ?_)
                first | refine j_aload_n d_Mo_execute_191 rfl ?_ | refine j_aload_nq d_Mo_execute_191 rfl ?_ | refine j_aload_nN d_Mo_execute_191 rfl ?_
                refine j_get d_Mo_execute_192 f_Mo_34 (hM_o (by decide)) rfl ?_
                refine j_iload d_Mo_execute_195 rfl ?_
                refine j_iload_n d_Mo_execute_197 rfl ?_
                refine j_iast (t := 0) d_Mo_execute_198 rfl (hM_o (by decide)) rfl (by omega) (by decide) (J.hq (o9 (by omega)) ?_)
                generalize hτ' : U (U τ 8 p (p / 4 + 2 * j) 2) 9 p (p / 4 + 2 * j) t = τ'
                have e6 : τ' 6 0 q = 0 := by rw [← hτ']; exact e6
                refine j_iload d_Mo_execute_199 rfl ?_
                refine j_if_eq (t := 222) d_Mo_execute_201 (by decide) (fun q => absurd q (by decide +kernel)) (fun _ => ?_)
                first | refine j_aload_n d_Mo_execute_204 rfl ?_ | refine j_aload_nq d_Mo_execute_204 rfl ?_ | refine j_aload_nN d_Mo_execute_204 rfl ?_
                refine j_get d_Mo_execute_205 f_Mo_25 (hM_o (by decide)) rfl ?_
                refine j_iload_n d_Mo_execute_208 rfl ?_
                refine j_iald (t := 0) d_Mo_execute_209 rfl (hM_o (by decide)) rfl (by omega) (by decide) ?_
                refine j_iconst (v := nI 1) d_Mo_execute_210 (by decide +kernel) ?_
                first | refine nn_icmp_ne (t := 222) d_Mo_execute_211 (by decide) (by omega) (by omega) (fun c211 => ?_) (fun c211 => ?_) | refine mm_icmp_ne (t := 222) d_Mo_execute_211 (by decide) (by omega) (by omega) (fun c211 => ?_) (fun c211 => ?_) | refine mn_icmp_ne (t := 222) d_Mo_execute_211 (by decide) (by omega) (by omega) (fun c211 => ?_) (fun c211 => ?_) | refine nm_icmp_ne (t := 222) d_Mo_execute_211 (by decide) (by omega) (by omega) (fun c211 => ?_) (fun c211 => ?_) | refine j_icmp_ne (t := 222) d_Mo_execute_211 (by decide) (fun c211 => ?_) (fun c211 => ?_)
                · refine j_iload d_Mo_execute_222 rfl ?_
                  refine j_if_eq (t := 267) d_Mo_execute_224 (by decide) (fun q => absurd q (by decide +kernel)) (fun _ => ?_)
                  first | refine j_aload_n d_Mo_execute_227 rfl ?_ | refine j_aload_nq d_Mo_execute_227 rfl ?_ | refine j_aload_nN d_Mo_execute_227 rfl ?_
                  refine j_get d_Mo_execute_228 f_Mo_25 (hM_o (by decide)) rfl ?_
                  refine j_iload_n d_Mo_execute_231 rfl ?_
                  refine j_iald (t := 0) d_Mo_execute_232 rfl (hM_o (by decide)) rfl (by omega) (by decide) ?_
                  refine j_iconst (v := nI 2) d_Mo_execute_233 (by decide +kernel) ?_
                  first | refine nn_icmp_ne (t := 267) d_Mo_execute_234 (by decide) (by omega) (by omega) (fun c234 => ?_) (fun c234 => ?_) | refine mm_icmp_ne (t := 267) d_Mo_execute_234 (by decide) (by omega) (by omega) (fun c234 => ?_) (fun c234 => ?_) | refine mn_icmp_ne (t := 267) d_Mo_execute_234 (by decide) (by omega) (by omega) (fun c234 => ?_) (fun c234 => ?_) | refine nm_icmp_ne (t := 267) d_Mo_execute_234 (by decide) (by omega) (by omega) (fun c234 => ?_) (fun c234 => ?_) | refine j_icmp_ne (t := 267) d_Mo_execute_234 (by decide) (fun c234 => ?_) (fun c234 => ?_)
                  · refine j_iload d_Mo_execute_267 rfl ?_
                    refine j_if_eq (t := 290) d_Mo_execute_269 (by decide) (fun _ => ?_) (fun q => absurd q (by decide +kernel))
                    refine n_iinc (k := 2) (lc' := [_, _, _, _, _, _, _, _, _, _]) d_Mo_execute_290 (by decide +kernel) rfl (by decide) rfl rfl ?_
                    refine j_goto (t := 91) d_Mo_execute_293 (by decide) ?_
                    exact ih (j + 1) _ _ _ _ (by omega) (by omega) (by rw [← hτ', exLk, ifP_t (show inp σ t (p / 4 + 2 * j) from Or.inl (by omega)), ← hτ])
                  · exfalso; first | exact c234 | omega
                · exfalso; first | exact c211 | omega
          · refine j_iconst (v := nI 1) d_Mo_execute_156 (by decide +kernel) ?_
            refine j_goto (t := 161) d_Mo_execute_157 (by decide) ?_
            refine j_istore (lc' := [_, _, _, _, _, _, _, _, _, _]) d_Mo_execute_161 (by decide) rfl rfl ?_
            refine j_iload d_Mo_execute_163 rfl ?_
            refine j_if_eq (t := 199) d_Mo_execute_165 (by decide) (fun q => absurd q (by decide +kernel)) (fun _ => ?_)
            first | refine j_aload_n d_Mo_execute_168 rfl ?_ | refine j_aload_nq d_Mo_execute_168 rfl ?_ | refine j_aload_nN d_Mo_execute_168 rfl ?_
            refine j_get d_Mo_execute_169 f_Mo_25 (hM_o (by decide)) rfl ?_
            refine j_iload_n d_Mo_execute_172 rfl ?_
            refine j_iald (t := 0) d_Mo_execute_173 rfl (hM_o (by decide)) rfl (by omega) (by decide) ?_
            first | refine c_if_ne (t := 199) d_Mo_execute_174 (by decide) (fun c174 => ?_) (fun c174 => ?_) | refine n_if_ne (t := 199) d_Mo_execute_174 (by decide) (by omega) (fun c174 => ?_) (fun c174 => ?_) | refine j_if_ne (t := 199) d_Mo_execute_174 (by decide) (fun c174 => ?_) (fun c174 => ?_)
            · exfalso; first | exact c174 | omega
            · refine j_iload d_Mo_execute_177 rfl ?_
              refine j_iconst (v := nI 1) d_Mo_execute_179 (by decide +kernel) ?_
              first | refine nn_icmp_ne (t := 199) d_Mo_execute_180 (by decide) (by omega) (by omega) (fun c180 => ?_) (fun c180 => ?_) | refine mm_icmp_ne (t := 199) d_Mo_execute_180 (by decide) (by omega) (by omega) (fun c180 => ?_) (fun c180 => ?_) | refine mn_icmp_ne (t := 199) d_Mo_execute_180 (by decide) (by omega) (by omega) (fun c180 => ?_) (fun c180 => ?_) | refine nm_icmp_ne (t := 199) d_Mo_execute_180 (by decide) (by omega) (by omega) (fun c180 => ?_) (fun c180 => ?_) | refine j_icmp_ne (t := 199) d_Mo_execute_180 (by decide) (fun c180 => ?_) (fun c180 => ?_)
              · exfalso; first | exact c180 | omega
              · first | refine j_aload_n d_Mo_execute_183 rfl ?_ | refine j_aload_nq d_Mo_execute_183 rfl ?_ | refine j_aload_nN d_Mo_execute_183 rfl ?_
                refine j_get d_Mo_execute_184 f_Mo_31 (hM_o (by decide)) rfl ?_
                refine j_iload d_Mo_execute_187 rfl ?_
                refine j_iconst (v := nI 2) d_Mo_execute_189 (by decide +kernel) ?_
                refine j_iast (t := 0) d_Mo_execute_190 rfl (hM_o (by decide)) rfl (by omega) (by decide) (J.hq (o8 (by omega)) ?_)
                first | refine j_aload_n d_Mo_execute_191 rfl ?_ | refine j_aload_nq d_Mo_execute_191 rfl ?_ | refine j_aload_nN d_Mo_execute_191 rfl ?_
                refine j_get d_Mo_execute_192 f_Mo_34 (hM_o (by decide)) rfl ?_
                refine j_iload d_Mo_execute_195 rfl ?_
                refine j_iload_n d_Mo_execute_197 rfl ?_
                refine j_iast (t := 0) d_Mo_execute_198 rfl (hM_o (by decide)) rfl (by omega) (by decide) (J.hq (o9 (by omega)) ?_)
                generalize hτ' : U (U τ 8 p (p / 4 + 2 * j) 2) 9 p (p / 4 + 2 * j) t = τ'
                have e6 : τ' 6 0 q = 0 := by rw [← hτ']; exact e6
                refine j_iload d_Mo_execute_199 rfl ?_
                refine j_if_eq (t := 222) d_Mo_execute_201 (by decide) (fun q => absurd q (by decide +kernel)) (fun _ => ?_)
                first | refine j_aload_n d_Mo_execute_204 rfl ?_ | refine j_aload_nq d_Mo_execute_204 rfl ?_ | refine j_aload_nN d_Mo_execute_204 rfl ?_
                refine j_get d_Mo_execute_205 f_Mo_25 (hM_o (by decide)) rfl ?_
                refine j_iload_n d_Mo_execute_208 rfl ?_
                refine j_iald (t := 0) d_Mo_execute_209 rfl (hM_o (by decide)) rfl (by omega) (by decide) ?_
                refine j_iconst (v := nI 1) d_Mo_execute_210 (by decide +kernel) ?_
                first | refine nn_icmp_ne (t := 222) d_Mo_execute_211 (by decide) (by omega) (by omega) (fun c211 => ?_) (fun c211 => ?_) | refine mm_icmp_ne (t := 222) d_Mo_execute_211 (by decide) (by omega) (by omega) (fun c211 => ?_) (fun c211 => ?_) | refine mn_icmp_ne (t := 222) d_Mo_execute_211 (by decide) (by omega) (by omega) (fun c211 => ?_) (fun c211 => ?_) | refine nm_icmp_ne (t := 222) d_Mo_execute_211 (by decide) (by omega) (by omega) (fun c211 => ?_) (fun c211 => ?_) | refine j_icmp_ne (t := 222) d_Mo_execute_211 (by decide) (fun c211 => ?_) (fun c211 => ?_)
                · refine j_iload d_Mo_execute_222 rfl ?_
                  refine j_if_eq (t := 267) d_Mo_execute_224 (by decide) (fun q => absurd q (by decide +kernel)) (fun _ => ?_)
                  first | refine j_aload_n d_Mo_execute_227 rfl ?_ | refine j_aload_nq d_Mo_execute_227 rfl ?_ | refine j_aload_nN d_Mo_execute_227 rfl ?_
                  refine j_get d_Mo_execute_228 f_Mo_25 (hM_o (by decide)) rfl ?_
                  refine j_iload_n d_Mo_execute_231 rfl ?_
                  refine j_iald (t := 0) d_Mo_execute_232 rfl (hM_o (by decide)) rfl (by omega) (by decide) ?_
                  refine j_iconst (v := nI 2) d_Mo_execute_233 (by decide +kernel) ?_
                  first | refine nn_icmp_ne (t := 267) d_Mo_execute_234 (by decide) (by omega) (by omega) (fun c234 => ?_) (fun c234 => ?_) | refine mm_icmp_ne (t := 267) d_Mo_execute_234 (by decide) (by omega) (by omega) (fun c234 => ?_) (fun c234 => ?_) | refine mn_icmp_ne (t := 267) d_Mo_execute_234 (by decide) (by omega) (by omega) (fun c234 => ?_) (fun c234 => ?_) | refine nm_icmp_ne (t := 267) d_Mo_execute_234 (by decide) (by omega) (by omega) (fun c234 => ?_) (fun c234 => ?_) | refine j_icmp_ne (t := 267) d_Mo_execute_234 (by decide) (fun c234 => ?_) (fun c234 => ?_)
                  · refine j_iload d_Mo_execute_267 rfl ?_
                    refine j_if_eq (t := 290) d_Mo_execute_269 (by decide) (fun q => absurd q (by decide +kernel)) (fun _ => ?_)
                    first | refine j_aload_n d_Mo_execute_272 rfl ?_ | refine j_aload_nq d_Mo_execute_272 rfl ?_ | refine j_aload_nN d_Mo_execute_272 rfl ?_
                    refine j_get d_Mo_execute_273 f_Mo_25 (hM_o (by decide)) rfl ?_
                    refine j_iload_n d_Mo_execute_276 rfl ?_
                    refine j_iald (t := 0) d_Mo_execute_277 rfl (hM_o (by decide)) rfl (by omega) (by decide) ?_
                    refine j_iconst (v := nI 1) d_Mo_execute_278 (by decide +kernel) ?_
                    first | refine nn_icmp_ne (t := 290) d_Mo_execute_279 (by decide) (by omega) (by omega) (fun c279 => ?_) (fun c279 => ?_) | refine mm_icmp_ne (t := 290) d_Mo_execute_279 (by decide) (by omega) (by omega) (fun c279 => ?_) (fun c279 => ?_) | refine mn_icmp_ne (t := 290) d_Mo_execute_279 (by decide) (by omega) (by omega) (fun c279 => ?_) (fun c279 => ?_) | refine nm_icmp_ne (t := 290) d_Mo_execute_279 (by decide) (by omega) (by omega) (fun c279 => ?_) (fun c279 => ?_) | refine j_icmp_ne (t := 290) d_Mo_execute_279 (by decide) (fun c279 => ?_) (fun c279 => ?_)
                    · refine n_iinc (k := 2) (lc' := [_, _, _, _, _, _, _, _, _, _]) d_Mo_execute_290 (by decide +kernel) rfl (by decide) rfl rfl ?_
                      refine j_goto (t := 91) d_Mo_execute_293 (by decide) ?_
                      exact ih (j + 1) _ _ _ _ (by omega) (by omega) (by rw [← hτ', exLk, ifP_t (show inp σ t (p / 4 + 2 * j) from Or.inl (by omega)), ← hτ])
                    · exfalso; first | exact c279 | omega
                  · exfalso; first | exact c234 | omega
                · exfalso; first | exact c211 | omega
      · refine j_iload d_Mo_execute_118 rfl ?_
        first | refine j_aload_n d_Mo_execute_120 rfl ?_ | refine j_aload_nq d_Mo_execute_120 rfl ?_ | refine j_aload_nN d_Mo_execute_120 rfl ?_
        refine j_get d_Mo_execute_121 f_Mo_13 (hM_o (by decide)) rfl ?_
        refine j_iload_n d_Mo_execute_124 rfl ?_
        refine j_iald (t := 0) d_Mo_execute_125 rfl (hM_o (by decide)) rfl (by omega) (by decide) ?_
        first | refine nn_icmp_ne (t := 133) d_Mo_execute_126 (by decide) (by omega) (by omega) (fun c126 => ?_) (fun c126 => ?_) | refine mm_icmp_ne (t := 133) d_Mo_execute_126 (by decide) (by omega) (by omega) (fun c126 => ?_) (fun c126 => ?_) | refine mn_icmp_ne (t := 133) d_Mo_execute_126 (by decide) (by omega) (by omega) (fun c126 => ?_) (fun c126 => ?_) | refine nm_icmp_ne (t := 133) d_Mo_execute_126 (by decide) (by omega) (by omega) (fun c126 => ?_) (fun c126 => ?_) | refine j_icmp_ne (t := 133) d_Mo_execute_126 (by decide) (fun c126 => ?_) (fun c126 => ?_)
        · refine j_iconst (v := nI 0) d_Mo_execute_133 (by decide +kernel) ?_
          refine j_istore (lc' := [_, _, _, _, _, _, _, _, _, _]) d_Mo_execute_134 (by decide) rfl rfl ?_
          refine j_iload d_Mo_execute_136 rfl ?_
          refine j_iconst (v := nI 2) d_Mo_execute_138 (by decide +kernel) ?_
          refine jn_idiv d_Mo_execute_139 (by omega) (by decide) (by decide) ?_
          refine j_iconst (v := nI 2) d_Mo_execute_140 (by decide +kernel) ?_
          refine j_iload_n d_Mo_execute_141 rfl ?_
          refine jn_iadd d_Mo_execute_142 ?_
          first | refine nn_icmp_ne (t := 160) d_Mo_execute_143 (by decide) (by omega) (by omega) (fun c143 => ?_) (fun c143 => ?_) | refine mm_icmp_ne (t := 160) d_Mo_execute_143 (by decide) (by omega) (by omega) (fun c143 => ?_) (fun c143 => ?_) | refine mn_icmp_ne (t := 160) d_Mo_execute_143 (by decide) (by omega) (by omega) (fun c143 => ?_) (fun c143 => ?_) | refine nm_icmp_ne (t := 160) d_Mo_execute_143 (by decide) (by omega) (by omega) (fun c143 => ?_) (fun c143 => ?_) | refine j_icmp_ne (t := 160) d_Mo_execute_143 (by decide) (fun c143 => ?_) (fun c143 => ?_)
          · refine j_iconst (v := nI 0) d_Mo_execute_160 (by decide +kernel) ?_
            refine j_istore (lc' := [_, _, _, _, _, _, _, _, _, _]) d_Mo_execute_161 (by decide) rfl rfl ?_
            refine j_iload d_Mo_execute_163 rfl ?_
            refine j_if_eq (t := 199) d_Mo_execute_165 (by decide) (fun _ => ?_) (fun q => absurd q (by decide +kernel))
            refine j_iload d_Mo_execute_199 rfl ?_
            refine j_if_eq (t := 222) d_Mo_execute_201 (by decide) (fun _ => ?_) (fun q => absurd q (by decide +kernel))
            refine j_iload d_Mo_execute_222 rfl ?_
            refine j_if_eq (t := 267) d_Mo_execute_224 (by decide) (fun _ => ?_) (fun q => absurd q (by decide +kernel))
            refine j_iload d_Mo_execute_267 rfl ?_
            refine j_if_eq (t := 290) d_Mo_execute_269 (by decide) (fun _ => ?_) (fun q => absurd q (by decide +kernel))
            refine n_iinc (k := 2) (lc' := [_, _, _, _, _, _, _, _, _, _]) d_Mo_execute_290 (by decide +kernel) rfl (by decide) rfl rfl ?_
            refine j_goto (t := 91) d_Mo_execute_293 (by decide) ?_
            exact ih (j + 1) _ _ _ _ (by omega) (by omega) (by rw [exLk, ifP_f (show ¬ inp σ t (p / 4 + 2 * j) from by rintro (z | z) <;> omega), ← hτ])
          · first | refine j_aload_n d_Mo_execute_146 rfl ?_ | refine j_aload_nq d_Mo_execute_146 rfl ?_ | refine j_aload_nN d_Mo_execute_146 rfl ?_
            refine j_get d_Mo_execute_147 f_Mo_19 (hM_o (by decide)) rfl ?_
            refine j_iload d_Mo_execute_150 rfl ?_
            refine j_iald (t := 0) d_Mo_execute_152 rfl (hM_o (by decide)) rfl (by omega) (by decide) ?_
            first | refine n_if_le (t := 160) d_Mo_execute_153 (by decide) (by omega) (fun c153 => ?_) (fun c153 => ?_) | refine j_if_le (t := 160) d_Mo_execute_153 (by decide) (fun c153 => ?_) (fun c153 => ?_)
            · refine j_iconst (v := nI 0) d_Mo_execute_160 (by decide +kernel) ?_
              refine j_istore (lc' := [_, _, _, _, _, _, _, _, _, _]) d_Mo_execute_161 (by decide) rfl rfl ?_
              refine j_iload d_Mo_execute_163 rfl ?_
              refine j_if_eq (t := 199) d_Mo_execute_165 (by decide) (fun _ => ?_) (fun q => absurd q (by decide +kernel))
              refine j_iload d_Mo_execute_199 rfl ?_
              refine j_if_eq (t := 222) d_Mo_execute_201 (by decide) (fun _ => ?_) (fun q => absurd q (by decide +kernel))
              refine j_iload d_Mo_execute_222 rfl ?_
              refine j_if_eq (t := 267) d_Mo_execute_224 (by decide) (fun _ => ?_) (fun q => absurd q (by decide +kernel))
              refine j_iload d_Mo_execute_267 rfl ?_
              refine j_if_eq (t := 290) d_Mo_execute_269 (by decide) (fun _ => ?_) (fun q => absurd q (by decide +kernel))
              refine n_iinc (k := 2) (lc' := [_, _, _, _, _, _, _, _, _, _]) d_Mo_execute_290 (by decide +kernel) rfl (by decide) rfl rfl ?_
              refine j_goto (t := 91) d_Mo_execute_293 (by decide) ?_
              exact ih (j + 1) _ _ _ _ (by omega) (by omega) (by rw [exLk, ifP_f (show ¬ inp σ t (p / 4 + 2 * j) from by rintro (z | z) <;> omega), ← hτ])
            · refine j_iconst (v := nI 1) d_Mo_execute_156 (by decide +kernel) ?_
              refine j_goto (t := 161) d_Mo_execute_157 (by decide) ?_
              refine j_istore (lc' := [_, _, _, _, _, _, _, _, _, _]) d_Mo_execute_161 (by decide) rfl rfl ?_
              refine j_iload d_Mo_execute_163 rfl ?_
              refine j_if_eq (t := 199) d_Mo_execute_165 (by decide) (fun _ => ?_) (fun q => absurd q (by decide +kernel))
              refine j_iload d_Mo_execute_199 rfl ?_
              refine j_if_eq (t := 222) d_Mo_execute_201 (by decide) (fun _ => ?_) (fun q => absurd q (by decide +kernel))
              refine j_iload d_Mo_execute_222 rfl ?_
              refine j_if_eq (t := 267) d_Mo_execute_224 (by decide) (fun _ => ?_) (fun q => absurd q (by decide +kernel))
              refine j_iload d_Mo_execute_267 rfl ?_
              refine j_if_eq (t := 290) d_Mo_execute_269 (by decide) (fun q => absurd q (by decide +kernel)) (fun _ => ?_)
              first | refine j_aload_n d_Mo_execute_272 rfl ?_ | refine j_aload_nq d_Mo_execute_272 rfl ?_ | refine j_aload_nN d_Mo_execute_272 rfl ?_
              refine j_get d_Mo_execute_273 f_Mo_25 (hM_o (by decide)) rfl ?_
              refine j_iload_n d_Mo_execute_276 rfl ?_
              refine j_iald (t := 0) d_Mo_execute_277 rfl (hM_o (by decide)) rfl (by omega) (by decide) ?_
              refine j_iconst (v := nI 1) d_Mo_execute_278 (by decide +kernel) ?_
              first | refine nn_icmp_ne (t := 290) d_Mo_execute_279 (by decide) (by omega) (by omega) (fun c279 => ?_) (fun c279 => ?_) | refine mm_icmp_ne (t := 290) d_Mo_execute_279 (by decide) (by omega) (by omega) (fun c279 => ?_) (fun c279 => ?_) | refine mn_icmp_ne (t := 290) d_Mo_execute_279 (by decide) (by omega) (by omega) (fun c279 => ?_) (fun c279 => ?_) | refine nm_icmp_ne (t := 290) d_Mo_execute_279 (by decide) (by omega) (by omega) (fun c279 => ?_) (fun c279 => ?_) | refine j_icmp_ne (t := 290) d_Mo_execute_279 (by decide) (fun c279 => ?_) (fun c279 => ?_)
              · refine n_iinc (k := 2) (lc' := [_, _, _, _, _, _, _, _, _, _]) d_Mo_execute_290 (by decide +kernel) rfl (by decide) rfl rfl ?_
                refine j_goto (t := 91) d_Mo_execute_293 (by decide) ?_
                exact ih (j + 1) _ _ _ _ (by omega) (by omega) (by rw [exLk, ifP_f (show ¬ inp σ t (p / 4 + 2 * j) from by rintro (z | z) <;> omega), ← hτ])
              · exfalso; first | exact c279 | omega
        · refine j_iconst (v := nI 1) d_Mo_execute_129 (by decide +kernel) ?_
          refine j_goto (t := 134) d_Mo_execute_130 (by decide) ?_
          refine j_istore (lc' := [_, _, _, _, _, _, _, _, _, _]) d_Mo_execute_134 (by decide) rfl rfl ?_
          refine j_iload d_Mo_execute_136 rfl ?_
          refine j_iconst (v := nI 2) d_Mo_execute_138 (by decide +kernel) ?_
          refine jn_idiv d_Mo_execute_139 (by omega) (by decide) (by decide) ?_
          refine j_iconst (v := nI 2) d_Mo_execute_140 (by decide +kernel) ?_
          refine j_iload_n d_Mo_execute_141 rfl ?_
          refine jn_iadd d_Mo_execute_142 ?_
          first | refine nn_icmp_ne (t := 160) d_Mo_execute_143 (by decide) (by omega) (by omega) (fun c143 => ?_) (fun c143 => ?_) | refine mm_icmp_ne (t := 160) d_Mo_execute_143 (by decide) (by omega) (by omega) (fun c143 => ?_) (fun c143 => ?_) | refine mn_icmp_ne (t := 160) d_Mo_execute_143 (by decide) (by omega) (by omega) (fun c143 => ?_) (fun c143 => ?_) | refine nm_icmp_ne (t := 160) d_Mo_execute_143 (by decide) (by omega) (by omega) (fun c143 => ?_) (fun c143 => ?_) | refine j_icmp_ne (t := 160) d_Mo_execute_143 (by decide) (fun c143 => ?_) (fun c143 => ?_)
          · refine j_iconst (v := nI 0) d_Mo_execute_160 (by decide +kernel) ?_
            refine j_istore (lc' := [_, _, _, _, _, _, _, _, _, _]) d_Mo_execute_161 (by decide) rfl rfl ?_
            refine j_iload d_Mo_execute_163 rfl ?_
            refine j_if_eq (t := 199) d_Mo_execute_165 (by decide) (fun q => absurd q (by decide +kernel)) (fun _ => ?_)
            first | refine j_aload_n d_Mo_execute_168 rfl ?_ | refine j_aload_nq d_Mo_execute_168 rfl ?_ | refine j_aload_nN d_Mo_execute_168 rfl ?_
            refine j_get d_Mo_execute_169 f_Mo_25 (hM_o (by decide)) rfl ?_
            refine j_iload_n d_Mo_execute_172 rfl ?_
            refine j_iald (t := 0) d_Mo_execute_173 rfl (hM_o (by decide)) rfl (by omega) (by decide) ?_
            first | refine c_if_ne (t := 199) d_Mo_execute_174 (by decide) (fun c174 => ?_) (fun c174 => ?_) | refine n_if_ne (t := 199) d_Mo_execute_174 (by decide) (by omega) (fun c174 => ?_) (fun c174 => ?_) | refine j_if_ne (t := 199) d_Mo_execute_174 (by decide) (fun c174 => ?_) (fun c174 => ?_)
            · exfalso; first | exact c174 | omega
            · refine j_iload d_Mo_execute_177 rfl ?_
              refine j_iconst (v := nI 1) d_Mo_execute_179 (by decide +kernel) ?_
              first | refine nn_icmp_ne (t := 199) d_Mo_execute_180 (by decide) (by omega) (by omega) (fun c180 => ?_) (fun c180 => ?_) | refine mm_icmp_ne (t := 199) d_Mo_execute_180 (by decide) (by omega) (by omega) (fun c180 => ?_) (fun c180 => ?_) | refine mn_icmp_ne (t := 199) d_Mo_execute_180 (by decide) (by omega) (by omega) (fun c180 => ?_) (fun c180 => ?_) | refine nm_icmp_ne (t := 199) d_Mo_execute_180 (by decide) (by omega) (by omega) (fun c180 => ?_) (fun c180 => ?_) | refine j_icmp_ne (t := 199) d_Mo_execute_180 (by decide) (fun c180 => ?_) (fun c180 => ?_)
              · exfalso; first | exact c180 | omega
              · first | refine j_aload_n d_Mo_execute_183 rfl ?_ | refine j_aload_nq d_Mo_execute_183 rfl ?_ | refine j_aload_nN d_Mo_execute_183 rfl ?_
                refine j_get d_Mo_execute_184 f_Mo_31 (hM_o (by decide)) rfl ?_
                refine j_iload d_Mo_execute_187 rfl ?_
                refine j_iconst (v := nI 2) d_Mo_execute_189 (by decide +kernel) ?_
                refine j_iast (t := 0) d_Mo_execute_190 rfl (hM_o (by decide)) rfl (by omega) (by decide) (J.hq (o8 (by omega)) ?_)
                first | refine j_aload_n d_Mo_execute_191 rfl ?_ | refine j_aload_nq d_Mo_execute_191 rfl ?_ | refine j_aload_nN d_Mo_execute_191 rfl ?_
                refine j_get d_Mo_execute_192 f_Mo_34 (hM_o (by decide)) rfl ?_
                refine j_iload d_Mo_execute_195 rfl ?_
                refine j_iload_n d_Mo_execute_197 rfl ?_
                refine j_iast (t := 0) d_Mo_execute_198 rfl (hM_o (by decide)) rfl (by omega) (by decide) (J.hq (o9 (by omega)) ?_)
                generalize hτ' : U (U τ 8 p (p / 4 + 2 * j) 2) 9 p (p / 4 + 2 * j) t = τ'
                have e6 : τ' 6 0 q = 0 := by rw [← hτ']; exact e6
                refine j_iload d_Mo_execute_199 rfl ?_
                refine j_if_eq (t := 222) d_Mo_execute_201 (by decide) (fun q => absurd q (by decide +kernel)) (fun _ => ?_)
                first | refine j_aload_n d_Mo_execute_204 rfl ?_ | refine j_aload_nq d_Mo_execute_204 rfl ?_ | refine j_aload_nN d_Mo_execute_204 rfl ?_
                refine j_get d_Mo_execute_205 f_Mo_25 (hM_o (by decide)) rfl ?_
                refine j_iload_n d_Mo_execute_208 rfl ?_
                refine j_iald (t := 0) d_Mo_execute_209 rfl (hM_o (by decide)) rfl (by omega) (by decide) ?_
                refine j_iconst (v := nI 1) d_Mo_execute_210 (by decide +kernel) ?_
                first | refine nn_icmp_ne (t := 222) d_Mo_execute_211 (by decide) (by omega) (by omega) (fun c211 => ?_) (fun c211 => ?_) | refine mm_icmp_ne (t := 222) d_Mo_execute_211 (by decide) (by omega) (by omega) (fun c211 => ?_) (fun c211 => ?_) | refine mn_icmp_ne (t := 222) d_Mo_execute_211 (by decide) (by omega) (by omega) (fun c211 => ?_) (fun c211 => ?_) | refine nm_icmp_ne (t := 222) d_Mo_execute_211 (by decide) (by omega) (by omega) (fun c211 => ?_) (fun c211 => ?_) | refine j_icmp_ne (t := 222) d_Mo_execute_211 (by decide) (fun c211 => ?_) (fun c211 => ?_)
                · refine j_iload d_Mo_execute_222 rfl ?_
                  refine j_if_eq (t := 267) d_Mo_execute_224 (by decide) (fun q => absurd q (by decide +kernel)) (fun _ => ?_)
                  first | refine j_aload_n d_Mo_execute_227 rfl ?_ | refine j_aload_nq d_Mo_execute_227 rfl ?_ | refine j_aload_nN d_Mo_execute_227 rfl ?_
                  refine j_get d_Mo_execute_228 f_Mo_25 (hM_o (by decide)) rfl ?_
                  refine j_iload_n d_Mo_execute_231 rfl ?_
                  refine j_iald (t := 0) d_Mo_execute_232 rfl (hM_o (by decide)) rfl (by omega) (by decide) ?_
                  refine j_iconst (v := nI 2) d_Mo_execute_233 (by decide +kernel) ?_
                  first | refine nn_icmp_ne (t := 267) d_Mo_execute_234 (by decide) (by omega) (by omega) (fun c234 => ?_) (fun c234 => ?_) | refine mm_icmp_ne (t := 267) d_Mo_execute_234 (by decide) (by omega) (by omega) (fun c234 => ?_) (fun c234 => ?_) | refine mn_icmp_ne (t := 267) d_Mo_execute_234 (by decide) (by omega) (by omega) (fun c234 => ?_) (fun c234 => ?_) | refine nm_icmp_ne (t := 267) d_Mo_execute_234 (by decide) (by omega) (by omega) (fun c234 => ?_) (fun c234 => ?_) | refine j_icmp_ne (t := 267) d_Mo_execute_234 (by decide) (fun c234 => ?_) (fun c234 => ?_)
                  · refine j_iload d_Mo_execute_267 rfl ?_
                    refine j_if_eq (t := 290) d_Mo_execute_269 (by decide) (fun _ => ?_) (fun q => absurd q (by decide +kernel))
                    refine n_iinc (k := 2) (lc' := [_, _, _, _, _, _, _, _, _, _]) d_Mo_execute_290 (by decide +kernel) rfl (by decide) rfl rfl ?_
                    refine j_goto (t := 91) d_Mo_execute_293 (by decide) ?_
                    exact ih (j + 1) _ _ _ _ (by omega) (by omega) (by rw [← hτ', exLk, ifP_t (show inp σ t (p / 4 + 2 * j) from Or.inr (by omega)), ← hτ])
                  · exfalso; first | exact c234 | omega
                · exfalso; first | exact c211 | omega
          · first | refine j_aload_n d_Mo_execute_146 rfl ?_ | refine j_aload_nq d_Mo_execute_146 rfl ?_ | refine j_aload_nN d_Mo_execute_146 rfl ?_
            refine j_get d_Mo_execute_147 f_Mo_19 (hM_o (by decide)) rfl ?_
            refine j_iload d_Mo_execute_150 rfl ?_
            refine j_iald (t := 0) d_Mo_execute_152 rfl (hM_o (by decide)) rfl (by omega) (by decide) ?_
            first | refine n_if_le (t := 160) d_Mo_execute_153 (by decide) (by omega) (fun c153 => ?_) (fun c153 => ?_) | refine j_if_le (t := 160) d_Mo_execute_153 (by decide) (fun c153 => ?_) (fun c153 => ?_)
            · refine j_iconst (v := nI 0) d_Mo_execute_160 (by decide +kernel) ?_
              refine j_istore (lc' := [_, _, _, _, _, _, _, _, _, _]) d_Mo_execute_161 (by decide) rfl rfl ?_
              refine j_iload d_Mo_execute_163 rfl ?_
              refine j_if_eq (t := 199) d_Mo_execute_165 (by decide) (fun q => absurd q (by decide +kernel)) (fun _ => ?_)
              first | refine j_aload_n d_Mo_execute_168 rfl ?_ | refine j_aload_nq d_Mo_execute_168 rfl ?_ | refine j_aload_nN d_Mo_execute_168 rfl ?_
              refine j_get d_Mo_execute_169 f_Mo_25 (hM_o (by decide)) rfl ?_
              refine j_iload_n d_Mo_execute_172 rfl ?_
              refine j_iald (t := 0) d_Mo_execute_173 rfl (hM_o (by decide)) rfl (by omega) (by decide) ?_
              first | refine c_if_ne (t := 199) d_Mo_execute_174 (by decide) (fun c174 => ?_) (fun c174 => ?_) | refine n_if_ne (t := 199) d_Mo_execute_174 (by decide) (by omega) (fun c174 => ?_) (fun c174 => ?_) | refine j_if_ne (t := 199) d_Mo_execute_174 (by decide) (fun c174 => ?_) (fun c174 => ?_)
              · exfalso; first | exact c174 | omega
              · refine j_iload d_Mo_execute_177 rfl ?_
                refine j_iconst (v := nI 1) d_Mo_execute_179 (by decide +kernel) ?_
                first | refine nn_icmp_ne (t := 199) d_Mo_execute_180 (by decide) (by omega) (by omega) (fun c180 => ?_) (fun c180 => ?_) | refine mm_icmp_ne (t := 199) d_Mo_execute_180 (by decide) (by omega) (by omega) (fun c180 => ?_) (fun c180 => ?_) | refine mn_icmp_ne (t := 199) d_Mo_execute_180 (by decide) (by omega) (by omega) (fun c180 => ?_) (fun c180 => ?_) | refine nm_icmp_ne (t := 199) d_Mo_execute_180 (by decide) (by omega) (by omega) (fun c180 => ?_) (fun c180 => ?_) | refine j_icmp_ne (t := 199) d_Mo_execute_180 (by decide) (fun c180 => ?_) (fun c180 => ?_)
                · exfalso; first | exact c180 | omega
                · first | refine j_aload_n d_Mo_execute_183 rfl ?_ | refine j_aload_nq d_Mo_execute_183 rfl ?_ | refine j_aload_nN d_Mo_execute_183 rfl ?_
                  refine j_get d_Mo_execute_184 f_Mo_31 (hM_o (by decide)) rfl ?_
                  refine j_iload d_Mo_execute_187 rfl ?_
                  refine j_iconst (v := nI 2) d_Mo_execute_189 (by decide +kernel) ?_
                  refine j_iast (t := 0) d_Mo_execute_190 rfl (hM_o (by decide)) rfl (by omega) (by decide) (J.hq (o8 (by omega)) ?_)
                  first | refine j_aload_n d_Mo_execute_191 rfl ?_ | refine j_aload_nq d_Mo_execute_191 rfl ?_ | refine j_aload_nN d_Mo_execute_191 rfl ?_
                  refine j_get d_Mo_execute_192 f_Mo_34 (hM_o (by decide)) rfl ?_
                  refine j_iload d_Mo_execute_195 rfl ?_
                  refine j_iload_n d_Mo_execute_197 rfl ?_
                  refine j_iast (t := 0) d_Mo_execute_198 rfl (hM_o (by decide)) rfl (by omega) (by decide) (J.hq (o9 (by omega)) ?_)
                  generalize hτ' : U (U τ 8 p (p / 4 + 2 * j) 2) 9 p (p / 4 + 2 * j) t = τ'
                  have e6 : τ' 6 0 q = 0 := by rw [← hτ']; exact e6
                  refine j_iload d_Mo_execute_199 rfl ?_
                  refine j_if_eq (t := 222) d_Mo_execute_201 (by decide) (fun q => absurd q (by decide +kernel)) (fun _ => ?_)
                  first | refine j_aload_n d_Mo_execute_204 rfl ?_ | refine j_aload_nq d_Mo_execute_204 rfl ?_ | refine j_aload_nN d_Mo_execute_204 rfl ?_
                  refine j_get d_Mo_execute_205 f_Mo_25 (hM_o (by decide)) rfl ?_
                  refine j_iload_n d_Mo_execute_208 rfl ?_
                  refine j_iald (t := 0) d_Mo_execute_209 rfl (hM_o (by decide)) rfl (by omega) (by decide) ?_
                  refine j_iconst (v := nI 1) d_Mo_execute_210 (by decide +kernel) ?_
                  first | refine nn_icmp_ne (t := 222) d_Mo_execute_211 (by decide) (by omega) (by omega) (fun c211 => ?_) (fun c211 => ?_) | refine mm_icmp_ne (t := 222) d_Mo_execute_211 (by decide) (by omega) (by omega) (fun c211 => ?_) (fun c211 => ?_) | refine mn_icmp_ne (t := 222) d_Mo_execute_211 (by decide) (by omega) (by omega) (fun c211 => ?_) (fun c211 => ?_) | refine nm_icmp_ne (t := 222) d_Mo_execute_211 (by decide) (by omega) (by omega) (fun c211 => ?_) (fun c211 => ?_) | refine j_icmp_ne (t := 222) d_Mo_execute_211 (by decide) (fun c211 => ?_) (fun c211 => ?_)
                  · refine j_iload d_Mo_execute_222 rfl ?_
                    refine j_if_eq (t := 267) d_Mo_execute_224 (by decide) (fun q => absurd q (by decide +kernel)) (fun _ => ?_)
                    first | refine j_aload_n d_Mo_execute_227 rfl ?_ | refine j_aload_nq d_Mo_execute_227 rfl ?_ | refine j_aload_nN d_Mo_execute_227 rfl ?_
                    refine j_get d_Mo_execute_228 f_Mo_25 (hM_o (by decide)) rfl ?_
                    refine j_iload_n d_Mo_execute_231 rfl ?_
                    refine j_iald (t := 0) d_Mo_execute_232 rfl (hM_o (by decide)) rfl (by omega) (by decide) ?_
                    refine j_iconst (v := nI 2) d_Mo_execute_233 (by decide +kernel) ?_
                    first | refine nn_icmp_ne (t := 267) d_Mo_execute_234 (by decide) (by omega) (by omega) (fun c234 => ?_) (fun c234 => ?_) | refine mm_icmp_ne (t := 267) d_Mo_execute_234 (by decide) (by omega) (by omega) (fun c234 => ?_) (fun c234 => ?_) | refine mn_icmp_ne (t := 267) d_Mo_execute_234 (by decide) (by omega) (by omega) (fun c234 => ?_) (fun c234 => ?_) | refine nm_icmp_ne (t := 267) d_Mo_execute_234 (by decide) (by omega) (by omega) (fun c234 => ?_) (fun c234 => ?_) | refine j_icmp_ne (t := 267) d_Mo_execute_234 (by decide) (fun c234 => ?_) (fun c234 => ?_)
                    · refine j_iload d_Mo_execute_267 rfl ?_
                      refine j_if_eq (t := 290) d_Mo_execute_269 (by decide) (fun _ => ?_) (fun q => absurd q (by decide +kernel))
                      refine n_iinc (k := 2) (lc' := [_, _, _, _, _, _, _, _, _, _]) d_Mo_execute_290 (by decide +kernel) rfl (by decide) rfl rfl ?_
                      refine j_goto (t := 91) d_Mo_execute_293 (by decide) ?_
                      exact ih (j + 1) _ _ _ _ (by omega) (by omega) (by rw [← hτ', exLk, ifP_t (show inp σ t (p / 4 + 2 * j) from Or.inr (by omega)), ← hτ])
                    · exfalso; first | exact c234 | omega
                  · exfalso; first | exact c211 | omega
            · refine j_iconst (v := nI 1) d_Mo_execute_156 (by decide +kernel) ?_
              refine j_goto (t := 161) d_Mo_execute_157 (by decide) ?_
              refine j_istore (lc' := [_, _, _, _, _, _, _, _, _, _]) d_Mo_execute_161 (by decide) rfl rfl ?_
              refine j_iload d_Mo_execute_163 rfl ?_
              refine j_if_eq (t := 199) d_Mo_execute_165 (by decide) (fun q => absurd q (by decide +kernel)) (fun _ => ?_)
              first | refine j_aload_n d_Mo_execute_168 rfl ?_ | refine j_aload_nq d_Mo_execute_168 rfl ?_ | refine j_aload_nN d_Mo_execute_168 rfl ?_
              refine j_get d_Mo_execute_169 f_Mo_25 (hM_o (by decide)) rfl ?_
              refine j_iload_n d_Mo_execute_172 rfl ?_
              refine j_iald (t := 0) d_Mo_execute_173 rfl (hM_o (by decide)) rfl (by omega) (by decide) ?_
              first | refine c_if_ne (t := 199) d_Mo_execute_174 (by decide) (fun c174 => ?_) (fun c174 => ?_) | refine n_if_ne (t := 199) d_Mo_execute_174 (by decide) (by omega) (fun c174 => ?_) (fun c174 => ?_) | refine j_if_ne (t := 199) d_Mo_execute_174 (by decide) (fun c174 => ?_) (fun c174 => ?_)
              · exfalso; first | exact c174 | omega
              · refine j_iload d_Mo_execute_177 rfl ?_
                refine j_iconst (v := nI 1) d_Mo_execute_179 (by decide +kernel) ?_
                first | refine nn_icmp_ne (t := 199) d_Mo_execute_180 (by decide) (by omega) (by omega) (fun c180 => ?_) (fun c180 => ?_) | refine mm_icmp_ne (t := 199) d_Mo_execute_180 (by decide) (by omega) (by omega) (fun c180 => ?_) (fun c180 => ?_) | refine mn_icmp_ne (t := 199) d_Mo_execute_180 (by decide) (by omega) (by omega) (fun c180 => ?_) (fun c180 => ?_) | refine nm_icmp_ne (t := 199) d_Mo_execute_180 (by decide) (by omega) (by omega) (fun c180 => ?_) (fun c180 => ?_) | refine j_icmp_ne (t := 199) d_Mo_execute_180 (by decide) (fun c180 => ?_) (fun c180 => ?_)
                · exfalso; first | exact c180 | omega
                · first | refine j_aload_n d_Mo_execute_183 rfl ?_ | refine j_aload_nq d_Mo_execute_183 rfl ?_ | refine j_aload_nN d_Mo_execute_183 rfl ?_
                  refine j_get d_Mo_execute_184 f_Mo_31 (hM_o (by decide)) rfl ?_
                  refine j_iload d_Mo_execute_187 rfl ?_
                  refine j_iconst (v := nI 2) d_Mo_execute_189 (by decide +kernel) ?_
                  refine j_iast (t := 0) d_Mo_execute_190 rfl (hM_o (by decide)) rfl (by omega) (by decide) (J.hq (o8 (by omega)) ?_)
                  first | refine j_aload_n d_Mo_execute_191 rfl ?_ | refine j_aload_nq d_Mo_execute_191 rfl ?_ | refine j_aload_nN d_Mo_execute_191 rfl ?_
                  refine j_get d_Mo_execute_192 f_Mo_34 (hM_o (by decide)) rfl ?_
                  refine j_iload d_Mo_execute_195 rfl ?_
                  refine j_iload_n d_Mo_execute_197 rfl ?_
                  refine j_iast (t := 0) d_Mo_execute_198 rfl (hM_o (by decide)) rfl (by omega) (by decide) (J.hq (o9 (by omega)) ?_)
                  generalize hτ' : U (U τ 8 p (p / 4 + 2 * j) 2) 9 p (p / 4 + 2 * j) t = τ'
                  have e6 : τ' 6 0 q = 0 := by rw [← hτ']; exact e6
                  refine j_iload d_Mo_execute_199 rfl ?_
                  refine j_if_eq (t := 222) d_Mo_execute_201 (by decide) (fun q => absurd q (by decide +kernel)) (fun _ => ?_)
                  first | refine j_aload_n d_Mo_execute_204 rfl ?_ | refine j_aload_nq d_Mo_execute_204 rfl ?_ | refine j_aload_nN d_Mo_execute_204 rfl ?_
                  refine j_get d_Mo_execute_205 f_Mo_25 (hM_o (by decide)) rfl ?_
                  refine j_iload_n d_Mo_execute_208 rfl ?_
                  refine j_iald (t := 0) d_Mo_execute_209 rfl (hM_o (by decide)) rfl (by omega) (by decide) ?_
                  refine j_iconst (v := nI 1) d_Mo_execute_210 (by decide +kernel) ?_
                  first | refine nn_icmp_ne (t := 222) d_Mo_execute_211 (by decide) (by omega) (by omega) (fun c211 => ?_) (fun c211 => ?_) | refine mm_icmp_ne (t := 222) d_Mo_execute_211 (by decide) (by omega) (by omega) (fun c211 => ?_) (fun c211 => ?_) | refine mn_icmp_ne (t := 222) d_Mo_execute_211 (by decide) (by omega) (by omega) (fun c211 => ?_) (fun c211 => ?_) | refine nm_icmp_ne (t := 222) d_Mo_execute_211 (by decide) (by omega) (by omega) (fun c211 => ?_) (fun c211 => ?_) | refine j_icmp_ne (t := 222) d_Mo_execute_211 (by decide) (fun c211 => ?_) (fun c211 => ?_)
                  · refine j_iload d_Mo_execute_222 rfl ?_
                    refine j_if_eq (t := 267) d_Mo_execute_224 (by decide) (fun q => absurd q (by decide +kernel)) (fun _ => ?_)
                    first | refine j_aload_n d_Mo_execute_227 rfl ?_ | refine j_aload_nq d_Mo_execute_227 rfl ?_ | refine j_aload_nN d_Mo_execute_227 rfl ?_
                    refine j_get d_Mo_execute_228 f_Mo_25 (hM_o (by decide)) rfl ?_
                    refine j_iload_n d_Mo_execute_231 rfl ?_
                    refine j_iald (t := 0) d_Mo_execute_232 rfl (hM_o (by decide)) rfl (by omega) (by decide) ?_
                    refine j_iconst (v := nI 2) d_Mo_execute_233 (by decide +kernel) ?_
                    first | refine nn_icmp_ne (t := 267) d_Mo_execute_234 (by decide) (by omega) (by omega) (fun c234 => ?_) (fun c234 => ?_) | refine mm_icmp_ne (t := 267) d_Mo_execute_234 (by decide) (by omega) (by omega) (fun c234 => ?_) (fun c234 => ?_) | refine mn_icmp_ne (t := 267) d_Mo_execute_234 (by decide) (by omega) (by omega) (fun c234 => ?_) (fun c234 => ?_) | refine nm_icmp_ne (t := 267) d_Mo_execute_234 (by decide) (by omega) (by omega) (fun c234 => ?_) (fun c234 => ?_) | refine j_icmp_ne (t := 267) d_Mo_execute_234 (by decide) (fun c234 => ?_) (fun c234 => ?_)
                    · refine j_iload d_Mo_execute_267 rfl ?_
                      refine j_if_eq (t := 290) d_Mo_execute_269 (by decide) (fun q => absurd q (by decide +kernel)) (fun _ => ?_)
                      first | refine j_aload_n d_Mo_execute_272 rfl ?_ | refine j_aload_nq d_Mo_execute_272 rfl ?_ | refine j_aload_nN d_Mo_execute_272 rfl ?_
                      refine j_get d_Mo_execute_273 f_Mo_25 (hM_o (by decide)) rfl ?_
                      refine j_iload_n d_Mo_execute_276 rfl ?_
                      refine j_iald (t := 0) d_Mo_execute_277 rfl (hM_o (by decide)) rfl (by omega) (by decide) ?_
                      refine j_iconst (v := nI 1) d_Mo_execute_278 (by decide +kernel) ?_
                      first | refine nn_icmp_ne (t := 290) d_Mo_execute_279 (by decide) (by omega) (by omega) (fun c279 => ?_) (fun c279 => ?_) | refine mm_icmp_ne (t := 290) d_Mo_execute_279 (by decide) (by omega) (by omega) (fun c279 => ?_) (fun c279 => ?_) | refine mn_icmp_ne (t := 290) d_Mo_execute_279 (by decide) (by omega) (by omega) (fun c279 => ?_) (fun c279 => ?_) | refine nm_icmp_ne (t := 290) d_Mo_execute_279 (by decide) (by omega) (by omega) (fun c279 => ?_) (fun c279 => ?_) | refine j_icmp_ne (t := 290) d_Mo_execute_279 (by decide) (fun c279 => ?_) (fun c279 => ?_)
                      · refine n_iinc (k := 2) (lc' := [_, _, _, _, _, _, _, _, _, _]) d_Mo_execute_290 (by decide +kernel) rfl (by decide) rfl rfl ?_
                        refine j_goto (t := 91) d_Mo_execute_293 (by decide) ?_
                        exact ih (j + 1) _ _ _ _ (by omega) (by omega) (by rw [← hτ', exLk, ifP_t (show inp σ t (p / 4 + 2 * j) from Or.inr (by omega)), ← hτ])
                      · exfalso; first | exact c279 | omega
                    · exfalso; first | exact c234 | omega
                  · exfalso; first | exact c211 | omega

set_option maxHeartbeats 4000000 in
set_option maxRecDepth 100000 in
theorem lp_ex_k0b {l : Launch} {D : va_G} {M nx : Nat} {L : Int32} {σ ρ : Sg} {g : Nat → Option va_E} {p : Nat} (hp : p < 8) (hb : bd σ) (q t : Nat) (hq : q < 32) (ht : t < 8) (h16 : σ 10 p 0 < 16) (hk : σ 6 0 q = 0) : ∀ (m : Nat) (j : Nat) (τ : Sg) (x7 x8 x9 : Option Value), j ≤ 10 → 10 - j < m → τ = σ → J (G0 l D) jT m_Mo_execute 0 (fun v h => v = none ∧ h = (hM D M L (xT (σ) p (σ 10 p 0) q (2)) ρ g, nx)) 0 0 91 [some (.ref (M + 0)), some (.int (nI p)), some (.int (nI q)), some (.int (nI t)), some (.int (nI (p / 4))), some (.int (nI 2)), some (.int (nI (p / 4 + 2 * j))), x7, x8, x9] [] (hM D M L τ ρ g, nx) := by
  intro m
  induction m with
  | zero =>
    intros
    exfalso
    omega
  | succ m ih =>
    intro j τ x7 x8 x9 h1 h2 hτ
    have ne : ∀ f, f ≠ 8 → f ≠ 9 → τ f = σ f := fun f h8 h9 => by rw [hτ]; skip
    have e6 : τ 6 0 q = 0 := by rw [ne 6 (by decide) (by decide)]; exact hk
    have e1 : τ 1 0 t = σ 1 0 t := by rw [ne 1 (by decide) (by decide)]
    have e2 : τ 2 0 t = σ 2 0 t := by rw [ne 2 (by decide) (by decide)]
    have e4 : τ 4 0 (p / 4 + 2 * j) = σ 4 0 (p / 4 + 2 * j) := by rw [ne 4 (by decide) (by decide)]
    have b1 := hb 1 0 t
    have b2 := hb 2 0 t
    have b4 := hb 4 0 (p / 4 + 2 * j)
    have b8 : τ 8 p (p / 4 + 2 * j) < 100000 := by rw [hτ]; exact hb _ _ _
    have b9 : τ 9 p (p / 4 + 2 * j) < 100000 := by rw [hτ]; exact hb _ _ _
    refine j_iload d_Mo_execute_91 rfl ?_
    refine j_bipush (v := nI 20) d_Mo_execute_93 (by decide +kernel) ?_
    first | refine nn_icmp_ge (t := 296) d_Mo_execute_95 (by decide) (by omega) (by omega) (fun c95 => ?_) (fun c95 => ?_) | refine mm_icmp_ge (t := 296) d_Mo_execute_95 (by decide) (by omega) (by omega) (fun c95 => ?_) (fun c95 => ?_) | refine mn_icmp_ge (t := 296) d_Mo_execute_95 (by decide) (by omega) (by omega) (fun c95 => ?_) (fun c95 => ?_) | refine nm_icmp_ge (t := 296) d_Mo_execute_95 (by decide) (by omega) (by omega) (fun c95 => ?_) (fun c95 => ?_) | refine j_icmp_ge (t := 296) d_Mo_execute_95 (by decide) (fun c95 => ?_) (fun c95 => ?_)
    · have hj : j = 10 := by omega
      subst hj
      subst hτ
      exact lp_ex_end hp q 2 hq rfl h16 _ _ _ _ _
    · refine j_bipush (v := nI 20) d_Mo_execute_98 (by decide +kernel) ?_
      refine j_iload_n d_Mo_execute_100 rfl ?_
      refine jn_imul d_Mo_execute_101 ?_
      refine j_iload d_Mo_execute_102 rfl ?_
      refine jn_iadd d_Mo_execute_104 ?_
      refine j_istore (lc' := [_, _, _, _, _, _, _, _, _, _]) d_Mo_execute_105 (by decide) rfl rfl ?_
      refine j_iload d_Mo_execute_107 rfl ?_
      first | refine j_aload_n d_Mo_execute_109 rfl ?_ | refine j_aload_nq d_Mo_execute_109 rfl ?_ | refine j_aload_nN d_Mo_execute_109 rfl ?_
      refine j_get d_Mo_execute_110 f_Mo_7 (hM_o (by decide)) rfl ?_
      refine j_iload_n d_Mo_execute_113 rfl ?_
      refine j_iald (t := 0) d_Mo_execute_114 rfl (hM_o (by decide)) rfl (by omega) (by decide) ?_
      first | refine nn_icmp_eq (t := 129) d_Mo_execute_115 (by decide) (by omega) (by omega) (fun c115 => ?_) (fun c115 => ?_) | refine mm_icmp_eq (t := 129) d_Mo_execute_115 (by decide) (by omega) (by omega) (fun c115 => ?_) (fun c115 => ?_) | refine mn_icmp_eq (t := 129) d_Mo_execute_115 (by decide) (by omega) (by omega) (fun c115 => ?_) (fun c115 => ?_) | refine nm_icmp_eq (t := 129) d_Mo_execute_115 (by decide) (by omega) (by omega) (fun c115 => ?_) (fun c115 => ?_) | refine j_icmp_eq (t := 129) d_Mo_execute_115 (by decide) (fun c115 => ?_) (fun c115 => ?_)
      · refine j_iconst (v := nI 1) d_Mo_execute_129 (by decide +kernel) ?_
        refine j_goto (t := 134) d_Mo_execute_130 (by decide) ?_
        refine j_istore (lc' := [_, _, _, _, _, _, _, _, _, _]) d_Mo_execute_134 (by decide) rfl rfl ?_
        refine j_iload d_Mo_execute_136 rfl ?_
        refine j_iconst (v := nI 2) d_Mo_execute_138 (by decide +kernel) ?_
        refine jn_idiv d_Mo_execute_139 (by omega) (by decide) (by decide) ?_
        refine j_iconst (v := nI 2) d_Mo_execute_140 (by decide +kernel) ?_
        refine j_iload_n d_Mo_execute_141 rfl ?_
        refine jn_iadd d_Mo_execute_142 ?_
        first | refine nn_icmp_ne (t := 160) d_Mo_execute_143 (by decide) (by omega) (by omega) (fun c143 => ?_) (fun c143 => ?_) | refine mm_icmp_ne (t := 160) d_Mo_execute_143 (by decide) (by omega) (by omega) (fun c143 => ?_) (fun c143 => ?_) | refine mn_icmp_ne (t := 160) d_Mo_execute_143 (by decide) (by omega) (by omega) (fun c143 => ?_) (fun c143 => ?_) | refine nm_icmp_ne (t := 160) d_Mo_execute_143 (by decide) (by omega) (by omega) (fun c143 => ?_) (fun c143 => ?_) | refine j_icmp_ne (t := 160) d_Mo_execute_143 (by decide) (fun c143 => ?_) (fun c143 => ?_)
        · refine j_iconst (v := nI 0) d_Mo_execute_160 (by decide +kernel) ?_
          refine j_istore (lc' := [_, _, _, _, _, _, _, _, _, _]) d_Mo_execute_161 (by decide) rfl rfl ?_
          refine j_iload d_Mo_execute_163 rfl ?_
          refine j_if_eq (t := 199) d_Mo_execute_165 (by decide) (fun q => absurd q (by decide +kernel)) (fun _ => ?_)
          first | refine j_aload_n d_Mo_execute_168 rfl ?_ | refine j_aload_nq d_Mo_execute_168 rfl ?_ | refine j_aload_nN d_Mo_execute_168 rfl ?_
          refine j_get d_Mo_execute_169 f_Mo_25 (hM_o (by decide)) rfl ?_
          refine j_iload_n d_Mo_execute_172 rfl ?_
          refine j_iald (t := 0) d_Mo_execute_173 rfl (hM_o (by decide)) rfl (by omega) (by decide) ?_
          first | refine c_if_ne (t := 199) d_Mo_execute_174 (by decide) (fun c174 => ?_) (fun c174 => ?_) | refine n_if_ne (t := 199) d_Mo_execute_174 (by decide) (by omega) (fun c174 => ?_) (fun c174 => ?_) | refine j_if_ne (t := 199) d_Mo_execute_174 (by decide) (fun c174 => ?_) (fun c174 => ?_)
          · exfalso; first | exact c174 | omega
          · refine j_iload d_Mo_execute_177 rfl ?_
            refine j_iconst (v := nI 1) d_Mo_execute_179 (by decide +kernel) ?_
            first | refine nn_icmp_ne (t := 199) d_Mo_execute_180 (by decide) (by omega) (by omega) (fun c180 => ?_) (fun c180 => ?_) | refine mm_icmp_ne (t := 199) d_Mo_execute_180 (by decide) (by omega) (by omega) (fun c180 => ?_) (fun c180 => ?_) | refine mn_icmp_ne (t := 199) d_Mo_execute_180 (by decide) (by omega) (by omega) (fun c180 => ?_) (fun c180 => ?_) | refine nm_icmp_ne (t := 199) d_Mo_execute_180 (by decide) (by omega) (by omega) (fun c180 => ?_) (fun c180 => ?_) | refine j_icmp_ne (t := 199) d_Mo_execute_180 (by decide) (fun c180 => ?_) (fun c180 => ?_)
            · refine j_iload d_Mo_execute_199 rfl ?_
              refine j_if_eq (t := 222) d_Mo_execute_201 (by decide) (fun q => absurd q (by decide +kernel)) (fun _ => ?_)
              first | refine j_aload_n d_Mo_execute_204 rfl ?_ | refine j_aload_nq d_Mo_execute_204 rfl ?_ | refine j_aload_nN d_Mo_execute_204 rfl ?_
              refine j_get d_Mo_execute_205 f_Mo_25 (hM_o (by decide)) rfl ?_
              refine j_iload_n d_Mo_execute_208 rfl ?_
              refine j_iald (t := 0) d_Mo_execute_209 rfl (hM_o (by decide)) rfl (by omega) (by decide) ?_
              refine j_iconst (v := nI 1) d_Mo_execute_210 (by decide +kernel) ?_
              first | refine nn_icmp_ne (t := 222) d_Mo_execute_211 (by decide) (by omega) (by omega) (fun c211 => ?_) (fun c211 => ?_) | refine mm_icmp_ne (t := 222) d_Mo_execute_211 (by decide) (by omega) (by omega) (fun c211 => ?_) (fun c211 => ?_) | refine mn_icmp_ne (t := 222) d_Mo_execute_211 (by decide) (by omega) (by omega) (fun c211 => ?_) (fun c211 => ?_) | refine nm_icmp_ne (t := 222) d_Mo_execute_211 (by decide) (by omega) (by omega) (fun c211 => ?_) (fun c211 => ?_) | refine j_icmp_ne (t := 222) d_Mo_execute_211 (by decide) (fun c211 => ?_) (fun c211 => ?_)
              · refine j_iload d_Mo_execute_222 rfl ?_
                refine j_if_eq (t := 267) d_Mo_execute_224 (by decide) (fun q => absurd q (by decide +kernel)) (fun _ => ?_)
                first | refine j_aload_n d_Mo_execute_227 rfl ?_ | refine j_aload_nq d_Mo_execute_227 rfl ?_ | refine j_aload_nN d_Mo_execute_227 rfl ?_
                refine j_get d_Mo_execute_228 f_Mo_25 (hM_o (by decide)) rfl ?_
                refine j_iload_n d_Mo_execute_231 rfl ?_
                refine j_iald (t := 0) d_Mo_execute_232 rfl (hM_o (by decide)) rfl (by omega) (by decide) ?_
                refine j_iconst (v := nI 2) d_Mo_execute_233 (by decide +kernel) ?_
                first | refine nn_icmp_ne (t := 267) d_Mo_execute_234 (by decide) (by omega) (by omega) (fun c234 => ?_) (fun c234 => ?_) | refine mm_icmp_ne (t := 267) d_Mo_execute_234 (by decide) (by omega) (by omega) (fun c234 => ?_) (fun c234 => ?_) | refine mn_icmp_ne (t := 267) d_Mo_execute_234 (by decide) (by omega) (by omega) (fun c234 => ?_) (fun c234 => ?_) | refine nm_icmp_ne (t := 267) d_Mo_execute_234 (by decide) (by omega) (by omega) (fun c234 => ?_) (fun c234 => ?_) | refine j_icmp_ne (t := 267) d_Mo_execute_234 (by decide) (fun c234 => ?_) (fun c234 => ?_)
                · refine j_iload d_Mo_execute_267 rfl ?_
                  refine j_if_eq (t := 290) d_Mo_execute_269 (by decide) (fun _ => ?_) (fun q => absurd q (by decide +kernel))
                  refine n_iinc (k := 2) (lc' := [_, _, _, _, _, _, _, _, _, _]) d_Mo_execute_290 (by decide +kernel) rfl (by decide) rfl rfl ?_
                  refine j_goto (t := 91) d_Mo_execute_293 (by decide) ?_
                  exact ih (j + 1) _ _ _ _ (by omega) (by omega) (by exact hτ)
                · exfalso; first | exact c234 | omega
              · exfalso; first | exact c211 | omega
            · exfalso; first | exact c180 | omega
        · first | refine j_aload_n d_Mo_execute_146 rfl ?_ | refine j_aload_nq d_Mo_execute_146 rfl ?_ | refine j_aload_nN d_Mo_execute_146 rfl ?_
          refine j_get d_Mo_execute_147 f_Mo_19 (hM_o (by decide)) rfl ?_
          refine j_iload d_Mo_execute_150 rfl ?_
          refine j_iald (t := 0) d_Mo_execute_152 rfl (hM_o (by decide)) rfl (by omega) (by decide) ?_
          first | refine n_if_le (t := 160) d_Mo_execute_153 (by decide) (by omega) (fun c153 => ?_) (fun c153 => ?_) | refine j_if_le (t := 160) d_Mo_execute_153 (by decide) (fun c153 => ?_) (fun c153 => ?_)
          · refine j_iconst (v := nI 0) d_Mo_execute_160 (by decide +kernel) ?_
            refine j_istore (lc' := [_, _, _, _, _, _, _, _, _, _]) d_Mo_execute_161 (by decide) rfl rfl ?_
            refine j_iload d_Mo_execute_163 rfl ?_
            refine j_if_eq (t := 199) d_Mo_execute_165 (by decide) (fun q => absurd q (by decide +kernel)) (fun _ => ?_)
            first | refine j_aload_n d_Mo_execute_168 rfl ?_ | refine j_aload_nq d_Mo_execute_168 rfl ?_ | refine j_aload_nN d_Mo_execute_168 rfl ?_
            refine j_get d_Mo_execute_169 f_Mo_25 (hM_o (by decide)) rfl ?_
            refine j_iload_n d_Mo_execute_172 rfl ?_
            refine j_iald (t := 0) d_Mo_execute_173 rfl (hM_o (by decide)) rfl (by omega) (by decide) ?_
            first | refine c_if_ne (t := 199) d_Mo_execute_174 (by decide) (fun c174 => ?_) (fun c174 => ?_) | refine n_if_ne (t := 199) d_Mo_execute_174 (by decide) (by omega) (fun c174 => ?_) (fun c174 => ?_) | refine j_if_ne (t := 199) d_Mo_execute_174 (by decide) (fun c174 => ?_) (fun c174 => ?_)
            · exfalso; first | exact c174 | omega
            · refine j_iload d_Mo_execute_177 rfl ?_
              refine j_iconst (v := nI 1) d_Mo_execute_179 (by decide +kernel) ?_
              first | refine nn_icmp_ne (t := 199) d_Mo_execute_180 (by decide) (by omega) (by omega) (fun c180 => ?_) (fun c180 => ?_) | refine mm_icmp_ne (t := 199) d_Mo_execute_180 (by decide) (by omega) (by omega) (fun c180 => ?_) (fun c180 => ?_) | refine mn_icmp_ne (t := 199) d_Mo_execute_180 (by decide) (by omega) (by omega) (fun c180 => ?_) (fun c180 => ?_) | refine nm_icmp_ne (t := 199) d_Mo_execute_180 (by decide) (by omega) (by omega) (fun c180 => ?_) (fun c180 => ?_) | refine j_icmp_ne (t := 199) d_Mo_execute_180 (by decide) (fun c180 => ?_) (fun c180 => ?_)
              · refine j_iload d_Mo_execute_199 rfl ?_
                refine j_if_eq (t := 222) d_Mo_execute_201 (by decide) (fun q => absurd q (by decide +kernel)) (fun _ => ?_)
                first | refine j_aload_n d_Mo_execute_204 rfl ?_ | refine j_aload_nq d_Mo_execute_204 rfl ?_ | refine j_aload_nN d_Mo_execute_204 rfl ?_
                refine j_get d_Mo_execute_205 f_Mo_25 (hM_o (by decide)) rfl ?_
                refine j_iload_n d_Mo_execute_208 rfl ?_
                refine j_iald (t := 0) d_Mo_execute_209 rfl (hM_o (by decide)) rfl (by omega) (by decide) ?_
                refine j_iconst (v := nI 1) d_Mo_execute_210 (by decide +kernel) ?_
                first | refine nn_icmp_ne (t := 222) d_Mo_execute_211 (by decide) (by omega) (by omega) (fun c211 => ?_) (fun c211 => ?_) | refine mm_icmp_ne (t := 222) d_Mo_execute_211 (by decide) (by omega) (by omega) (fun c211 => ?_) (fun c211 => ?_) | refine mn_icmp_ne (t := 222) d_Mo_execute_211 (by decide) (by omega) (by omega) (fun c211 => ?_) (fun c211 => ?_) | refine nm_icmp_ne (t := 222) d_Mo_execute_211 (by decide) (by omega) (by omega) (fun c211 => ?_) (fun c211 => ?_) | refine j_icmp_ne (t := 222) d_Mo_execute_211 (by decide) (fun c211 => ?_) (fun c211 => ?_)
                · refine j_iload d_Mo_execute_222 rfl ?_
                  refine j_if_eq (t := 267) d_Mo_execute_224 (by decide) (fun q => absurd q (by decide +kernel)) (fun _ => ?_)
                  first | refine j_aload_n d_Mo_execute_227 rfl ?_ | refine j_aload_nq d_Mo_execute_227 rfl ?_ | refine j_aload_nN d_Mo_execute_227 rfl ?_
                  refine j_get d_Mo_execute_228 f_Mo_25 (hM_o (by decide)) rfl ?_
                  refine j_iload_n d_Mo_execute_231 rfl ?_
                  refine j_iald (t := 0) d_Mo_execute_232 rfl (hM_o (by decide)) rfl (by omega) (by decide) ?_
                  refine j_iconst (v := nI 2) d_Mo_execute_233 (by decide +kernel) ?_
                  first | refine nn_icmp_ne (t := 267) d_Mo_execute_234 (by decide) (by omega) (by omega) (fun c234 => ?_) (fun c234 => ?_) | refine mm_icmp_ne (t := 267) d_Mo_execute_234 (by decide) (by omega) (by omega) (fun c234 => ?_) (fun c234 => ?_) | refine mn_icmp_ne (t := 267) d_Mo_execute_234 (by decide) (by omega) (by omega) (fun c234 => ?_) (fun c234 => ?_) | refine nm_icmp_ne (t := 267) d_Mo_execute_234 (by decide) (by omega) (by omega) (fun c234 => ?_) (fun c234 => ?_) | refine j_icmp_ne (t := 267) d_Mo_execute_234 (by decide) (fun c234 => ?_) (fun c234 => ?_)
                  · refine j_iload d_Mo_execute_267 rfl ?_
                    refine j_if_eq (t := 290) d_Mo_execute_269 (by decide) (fun _ => ?_) (fun q => absurd q (by decide +kernel))
                    refine n_iinc (k := 2) (lc' := [_, _, _, _, _, _, _, _, _, _]) d_Mo_execute_290 (by decide +kernel) rfl (by decide) rfl rfl ?_
                    refine j_goto (t := 91) d_Mo_execute_293 (by decide) ?_
                    exact ih (j + 1) _ _ _ _ (by omega) (by omega) (by exact hτ)
                  · exfalso; first | exact c234 | omega
                · exfalso; first | exact c211 | omega
              · exfalso; first | exact c180 | omega
          · refine j_iconst (v := nI 1) d_Mo_execute_156 (by decide +kernel) ?_
            refine j_goto (t := 161) d_Mo_execute_157 (by decide) ?_
            refine j_istore (lc' := [_, _, _, _, _, _, _, _, _, _]) d_Mo_execute_161 (by decide) rfl rfl ?_
            refine j_iload d_Mo_execute_163 rfl ?_
            refine j_if_eq (t := 199) d_Mo_execute_165 (by decide) (fun q => absurd q (by decide +kernel)) (fun _ => ?_)
            first | refine j_aload_n d_Mo_execute_168 rfl ?_ | refine j_aload_nq d_Mo_execute_168 rfl ?_ | refine j_aload_nN d_Mo_execute_168 rfl ?_
            refine j_get d_Mo_execute_169 f_Mo_25 (hM_o (by decide)) rfl ?_
            refine j_iload_n d_Mo_execute_172 rfl ?_
            refine j_iald (t := 0) d_Mo_execute_173 rfl (hM_o (by decide)) rfl (by omega) (by decide) ?_
            first | refine c_if_ne (t := 199) d_Mo_execute_174 (by decide) (fun c174 => ?_) (fun c174 => ?_) | refine n_if_ne (t := 199) d_Mo_execute_174 (by decide) (by omega) (fun c174 => ?_) (fun c174 => ?_) | refine j_if_ne (t := 199) d_Mo_execute_174 (by decide) (fun c174 => ?_) (fun c174 => ?_)
            · exfalso; first | exact c174 | omega
            · refine j_iload d_Mo_execute_177 rfl ?_
              refine j_iconst (v := nI 1) d_Mo_execute_179 (by decide +kernel) ?_
              first | refine nn_icmp_ne (t := 199) d_Mo_execute_180 (by decide) (by omega) (by omega) (fun c180 => ?_) (fun c180 => ?_) | refine mm_icmp_ne (t := 199) d_Mo_execute_180 (by decide) (by omega) (by omega) (fun c180 => ?_) (fun c180 => ?_) | refine mn_icmp_ne (t := 199) d_Mo_execute_180 (by decide) (by omega) (by omega) (fun c180 => ?_) (fun c180 => ?_) | refine nm_icmp_ne (t := 199) d_Mo_execute_180 (by decide) (by omega) (by omega) (fun c180 => ?_) (fun c180 => ?_) | refine j_icmp_ne (t := 199) d_Mo_execute_180 (by decide) (fun c180 => ?_) (fun c180 => ?_)
              · refine j_iload d_Mo_execute_199 rfl ?_
                refine j_if_eq (t := 222) d_Mo_execute_201 (by decide) (fun q => absurd q (by decide +kernel)) (fun _ => ?_)
                first | refine j_aload_n d_Mo_execute_204 rfl ?_ | refine j_aload_nq d_Mo_execute_204 rfl ?_ | refine j_aload_nN d_Mo_execute_204 rfl ?_
                refine j_get d_Mo_execute_205 f_Mo_25 (hM_o (by decide)) rfl ?_
                refine j_iload_n d_Mo_execute_208 rfl ?_
                refine j_iald (t := 0) d_Mo_execute_209 rfl (hM_o (by decide)) rfl (by omega) (by decide) ?_
                refine j_iconst (v := nI 1) d_Mo_execute_210 (by decide +kernel) ?_
                first | refine nn_icmp_ne (t := 222) d_Mo_execute_211 (by decide) (by omega) (by omega) (fun c211 => ?_) (fun c211 => ?_) | refine mm_icmp_ne (t := 222) d_Mo_execute_211 (by decide) (by omega) (by omega) (fun c211 => ?_) (fun c211 => ?_) | refine mn_icmp_ne (t := 222) d_Mo_execute_211 (by decide) (by omega) (by omega) (fun c211 => ?_) (fun c211 => ?_) | refine nm_icmp_ne (t := 222) d_Mo_execute_211 (by decide) (by omega) (by omega) (fun c211 => ?_) (fun c211 => ?_) | refine j_icmp_ne (t := 222) d_Mo_execute_211 (by decide) (fun c211 => ?_) (fun c211 => ?_)
                · refine j_iload d_Mo_execute_222 rfl ?_
                  refine j_if_eq (t := 267) d_Mo_execute_224 (by decide) (fun q => absurd q (by decide +kernel)) (fun _ => ?_)
                  first | refine j_aload_n d_Mo_execute_227 rfl ?_ | refine j_aload_nq d_Mo_execute_227 rfl ?_ | refine j_aload_nN d_Mo_execute_227 rfl ?_
                  refine j_get d_Mo_execute_228 f_Mo_25 (hM_o (by decide)) rfl ?_
                  refine j_iload_n d_Mo_execute_231 rfl ?_
                  refine j_iald (t := 0) d_Mo_execute_232 rfl (hM_o (by decide)) rfl (by omega) (by decide) ?_
                  refine j_iconst (v := nI 2) d_Mo_execute_233 (by decide +kernel) ?_
                  first | refine nn_icmp_ne (t := 267) d_Mo_execute_234 (by decide) (by omega) (by omega) (fun c234 => ?_) (fun c234 => ?_) | refine mm_icmp_ne (t := 267) d_Mo_execute_234 (by decide) (by omega) (by omega) (fun c234 => ?_) (fun c234 => ?_) | refine mn_icmp_ne (t := 267) d_Mo_execute_234 (by decide) (by omega) (by omega) (fun c234 => ?_) (fun c234 => ?_) | refine nm_icmp_ne (t := 267) d_Mo_execute_234 (by decide) (by omega) (by omega) (fun c234 => ?_) (fun c234 => ?_) | refine j_icmp_ne (t := 267) d_Mo_execute_234 (by decide) (fun c234 => ?_) (fun c234 => ?_)
                  · refine j_iload d_Mo_execute_267 rfl ?_
                    refine j_if_eq (t := 290) d_Mo_execute_269 (by decide) (fun q => absurd q (by decide +kernel)) (fun _ => ?_)
                    first | refine j_aload_n d_Mo_execute_272 rfl ?_ | refine j_aload_nq d_Mo_execute_272 rfl ?_ | refine j_aload_nN d_Mo_execute_272 rfl ?_
                    refine j_get d_Mo_execute_273 f_Mo_25 (hM_o (by decide)) rfl ?_
                    refine j_iload_n d_Mo_execute_276 rfl ?_
                    refine j_iald (t := 0) d_Mo_execute_277 rfl (hM_o (by decide)) rfl (by omega) (by decide) ?_
                    refine j_iconst (v := nI 1) d_Mo_execute_278 (by decide +kernel) ?_
                    first | refine nn_icmp_ne (t := 290) d_Mo_execute_279 (by decide) (by omega) (by omega) (fun c279 => ?_) (fun c279 => ?_) | refine mm_icmp_ne (t := 290) d_Mo_execute_279 (by decide) (by omega) (by omega) (fun c279 => ?_) (fun c279 => ?_) | refine mn_icmp_ne (t := 290) d_Mo_execute_279 (by decide) (by omega) (by omega) (fun c279 => ?_) (fun c279 => ?_) | refine nm_icmp_ne (t := 290) d_Mo_execute_279 (by decide) (by omega) (by omega) (fun c279 => ?_) (fun c279 => ?_) | refine j_icmp_ne (t := 290) d_Mo_execute_279 (by decide) (fun c279 => ?_) (fun c279 => ?_)
                    · refine n_iinc (k := 2) (lc' := [_, _, _, _, _, _, _, _, _, _]) d_Mo_execute_290 (by decide +kernel) rfl (by decide) rfl rfl ?_
                      refine j_goto (t := 91) d_Mo_execute_293 (by decide) ?_
                      exact ih (j + 1) _ _ _ _ (by omega) (by omega) (by exact hτ)
                    · exfalso; first | exact c279 | omega
                  · exfalso; first | exact c234 | omega
                · exfalso; first | exact c211 | omega
              · exfalso; first | exact c180 | omega
      · refine j_iload d_Mo_execute_118 rfl ?_
        first | refine j_aload_n d_Mo_execute_120 rfl ?_ | refine j_aload_nq d_Mo_execute_120 rfl ?_ | refine j_aload_nN d_Mo_execute_120 rfl ?_
        refine j_get d_Mo_execute_121 f_Mo_13 (hM_o (by decide)) rfl ?_
        refine j_iload_n d_Mo_execute_124 rfl ?_
        refine j_iald (t := 0) d_Mo_execute_125 rfl (hM_o (by decide)) rfl (by omega) (by decide) ?_
        first | refine nn_icmp_ne (t := 133) d_Mo_execute_126 (by decide) (by omega) (by omega) (fun c126 => ?_) (fun c126 => ?_) | refine mm_icmp_ne (t := 133) d_Mo_execute_126 (by decide) (by omega) (by omega) (fun c126 => ?_) (fun c126 => ?_) | refine mn_icmp_ne (t := 133) d_Mo_execute_126 (by decide) (by omega) (by omega) (fun c126 => ?_) (fun c126 => ?_) | refine nm_icmp_ne (t := 133) d_Mo_execute_126 (by decide) (by omega) (by omega) (fun c126 => ?_) (fun c126 => ?_) | refine j_icmp_ne (t := 133) d_Mo_execute_126 (by decide) (fun c126 => ?_) (fun c126 => ?_)
        · refine j_iconst (v := nI 0) d_Mo_execute_133 (by decide +kernel) ?_
          refine j_istore (lc' := [_, _, _, _, _, _, _, _, _, _]) d_Mo_execute_134 (by decide) rfl rfl ?_
          refine j_iload d_Mo_execute_136 rfl ?_
          refine j_iconst (v := nI 2) d_Mo_execute_138 (by decide +kernel) ?_
          refine jn_idiv d_Mo_execute_139 (by omega) (by decide) (by decide) ?_
          refine j_iconst (v := nI 2) d_Mo_execute_140 (by decide +kernel) ?_
          refine j_iload_n d_Mo_execute_141 rfl ?_
          refine jn_iadd d_Mo_execute_142 ?_
          first | refine nn_icmp_ne (t := 160) d_Mo_execute_143 (by decide) (by omega) (by omega) (fun c143 => ?_) (fun c143 => ?_) | refine mm_icmp_ne (t := 160) d_Mo_execute_143 (by decide) (by omega) (by omega) (fun c143 => ?_) (fun c143 => ?_) | refine mn_icmp_ne (t := 160) d_Mo_execute_143 (by decide) (by omega) (by omega) (fun c143 => ?_) (fun c143 => ?_) | refine nm_icmp_ne (t := 160) d_Mo_execute_143 (by decide) (by omega) (by omega) (fun c143 => ?_) (fun c143 => ?_) | refine j_icmp_ne (t := 160) d_Mo_execute_143 (by decide) (fun c143 => ?_) (fun c143 => ?_)
          · refine j_iconst (v := nI 0) d_Mo_execute_160 (by decide +kernel) ?_
            refine j_istore (lc' := [_, _, _, _, _, _, _, _, _, _]) d_Mo_execute_161 (by decide) rfl rfl ?_
            refine j_iload d_Mo_execute_163 rfl ?_
            refine j_if_eq (t := 199) d_Mo_execute_165 (by decide) (fun _ => ?_) (fun q => absurd q (by decide +kernel))
            refine j_iload d_Mo_execute_199 rfl ?_
            refine j_if_eq (t := 222) d_Mo_execute_201 (by decide) (fun _ => ?_) (fun q => absurd q (by decide +kernel))
            refine j_iload d_Mo_execute_222 rfl ?_
            refine j_if_eq (t := 267) d_Mo_execute_224 (by decide) (fun _ => ?_) (fun q => absurd q (by decide +kernel))
            refine j_iload d_Mo_execute_267 rfl ?_
            refine j_if_eq (t := 290) d_Mo_execute_269 (by decide) (fun _ => ?_) (fun q => absurd q (by decide +kernel))
            refine n_iinc (k := 2) (lc' := [_, _, _, _, _, _, _, _, _, _]) d_Mo_execute_290 (by decide +kernel) rfl (by decide) rfl rfl ?_
            refine j_goto (t := 91) d_Mo_execute_293 (by decide) ?_
            exact ih (j + 1) _ _ _ _ (by omega) (by omega) (by exact hτ)
          · first | refine j_aload_n d_Mo_execute_146 rfl ?_ | refine j_aload_nq d_Mo_execute_146 rfl ?_ | refine j_aload_nN d_Mo_execute_146 rfl ?_
            refine j_get d_Mo_execute_147 f_Mo_19 (hM_o (by decide)) rfl ?_
            refine j_iload d_Mo_execute_150 rfl ?_
            refine j_iald (t := 0) d_Mo_execute_152 rfl (hM_o (by decide)) rfl (by omega) (by decide) ?_
            first | refine n_if_le (t := 160) d_Mo_execute_153 (by decide) (by omega) (fun c153 => ?_) (fun c153 => ?_) | refine j_if_le (t := 160) d_Mo_execute_153 (by decide) (fun c153 => ?_) (fun c153 => ?_)
            · refine j_iconst (v := nI 0) d_Mo_execute_160 (by decide +kernel) ?_
              refine j_istore (lc' := [_, _, _, _, _, _, _, _, _, _]) d_Mo_execute_161 (by decide) rfl rfl ?_
              refine j_iload d_Mo_execute_163 rfl ?_
              refine j_if_eq (t := 199) d_Mo_execute_165 (by decide) (fun _ => ?_) (fun q => absurd q (by decide +kernel))
              refine j_iload d_Mo_execute_199 rfl ?_
              refine j_if_eq (t := 222) d_Mo_execute_201 (by decide) (fun _ => ?_) (fun q => absurd q (by decide +kernel))
              refine j_iload d_Mo_execute_222 rfl ?_
              refine j_if_eq (t := 267) d_Mo_execute_224 (by decide) (fun _ => ?_) (fun q => absurd q (by decide +kernel))
              refine j_iload d_Mo_execute_267 rfl ?_
              refine j_if_eq (t := 290) d_Mo_execute_269 (by decide) (fun _ => ?_) (fun q => absurd q (by decide +kernel))
              refine n_iinc (k := 2) (lc' := [_, _, _, _, _, _, _, _, _, _]) d_Mo_execute_290 (by decide +kernel) rfl (by decide) rfl rfl ?_
              refine j_goto (t := 91) d_Mo_execute_293 (by decide) ?_
              exact ih (j + 1) _ _ _ _ (by omega) (by omega) (by exact hτ)
            · refine j_iconst (v := nI 1) d_Mo_execute_156 (by decide +kernel) ?_
              refine j_goto (t := 161) d_Mo_execute_157 (by decide) ?_
              refine j_istore (lc' := [_, _, _, _, _, _, _, _, _, _]) d_Mo_execute_161 (by decide) rfl rfl ?_
              refine j_iload d_Mo_execute_163 rfl ?_
              refine j_if_eq (t := 199) d_Mo_execute_165 (by decide) (fun _ => ?_) (fun q => absurd q (by decide +kernel))
              refine j_iload d_Mo_execute_199 rfl ?_
              refine j_if_eq (t := 222) d_Mo_execute_201 (by decide) (fun _ => ?_) (fun q => absurd q (by decide +kernel))
              refine j_iload d_Mo_execute_222 rfl ?_
              refine j_if_eq (t := 267) d_Mo_execute_224 (by decide) (fun _ => ?_) (fun q => absurd q (by decide +kernel))
              refine j_iload d_Mo_execute_267 rfl ?_
              refine j_if_eq (t := 290) d_Mo_execute_269 (by decide) (fun q => absurd q (by decide +kernel)) (fun _ => ?_)
              first | refine j_aload_n d_Mo_execute_272 rfl ?_ | refine j_aload_nq d_Mo_execute_272 rfl ?_ | refine j_aload_nN d_Mo_execute_272 rfl ?_
              refine j_get d_Mo_execute_273 f_Mo_25 (hM_o (by decide)) rfl ?_
              refine j_iload_n d_Mo_execute_276 rfl ?_
              refine j_iald (t := 0) d_Mo_execute_277 rfl (hM_o (by decide)) rfl (by omega) (by decide) ?_
              refine j_iconst (v := nI 1) d_Mo_execute_278 (by decide +kernel) ?_
              first | refine nn_icmp_ne (t := 290) d_Mo_execute_279 (by decide) (by omega) (by omega) (fun c279 => ?_) (fun c279 => ?_) | refine mm_icmp_ne (t := 290) d_Mo_execute_279 (by decide) (by omega) (by omega) (fun c279 => ?_) (fun c279 => ?_) | refine mn_icmp_ne (t := 290) d_Mo_execute_279 (by decide) (by omega) (by omega) (fun c279 => ?_) (fun c279 => ?_) | refine nm_icmp_ne (t := 290) d_Mo_execute_279 (by decide) (by omega) (by omega) (fun c279 => ?_) (fun c279 => ?_) | refine j_icmp_ne (t := 290) d_Mo_execute_279 (by decide) (fun c279 => ?_) (fun c279 => ?_)
              · refine n_iinc (k := 2) (lc' := [_, _, _, _, _, _, _, _, _, _]) d_Mo_execute_290 (by decide +kernel) rfl (by decide) rfl rfl ?_
                refine j_goto (t := 91) d_Mo_execute_293 (by decide) ?_
                exact ih (j + 1) _ _ _ _ (by omega) (by omega) (by exact hτ)
              · exfalso; first | exact c279 | omega
        · refine j_iconst (v := nI 1) d_Mo_execute_129 (by decide +kernel) ?_
          refine j_goto (t := 134) d_Mo_execute_130 (by decide) ?_
          refine j_istore (lc' := [_, _, _, _, _, _, _, _, _, _]) d_Mo_execute_134 (by decide) rfl rfl ?_
          refine j_iload d_Mo_execute_136 rfl ?_
          refine j_iconst (v := nI 2) d_Mo_execute_138 (by decide +kernel) ?_
          refine jn_idiv d_Mo_execute_139 (by omega) (by decide) (by decide) ?_
          refine j_iconst (v := nI 2) d_Mo_execute_140 (by decide +kernel) ?_
          refine j_iload_n d_Mo_execute_141 rfl ?_
          refine jn_iadd d_Mo_execute_142 ?_
          first | refine nn_icmp_ne (t := 160) d_Mo_execute_143 (by decide) (by omega) (by omega) (fun c143 => ?_) (fun c143 => ?_) | refine mm_icmp_ne (t := 160) d_Mo_execute_143 (by decide) (by omega) (by omega) (fun c143 => ?_) (fun c143 => ?_) | refine mn_icmp_ne (t := 160) d_Mo_execute_143 (by decide) (by omega) (by omega) (fun c143 => ?_) (fun c143 => ?_) | refine nm_icmp_ne (t := 160) d_Mo_execute_143 (by decide) (by omega) (by omega) (fun c143 => ?_) (fun c143 => ?_) | refine j_icmp_ne (t := 160) d_Mo_execute_143 (by decide) (fun c143 => ?_) (fun c143 => ?_)
          · refine j_iconst (v := nI 0) d_Mo_execute_160 (by decide +kernel) ?_
            refine j_istore (lc' := [_, _, _, _, _, _, _, _, _, _]) d_Mo_execute_161 (by decide) rfl rfl ?_
            refine j_iload d_Mo_execute_163 rfl ?_
            refine j_if_eq (t := 199) d_Mo_execute_165 (by decide) (fun q => absurd q (by decide +kernel)) (fun _ => ?_)
            first | refine j_aload_n d_Mo_execute_168 rfl ?_ | refine j_aload_nq d_Mo_execute_168 rfl ?_ | refine j_aload_nN d_Mo_execute_168 rfl ?_
            refine j_get d_Mo_execute_169 f_Mo_25 (hM_o (by decide)) rfl ?_
            refine j_iload_n d_Mo_execute_172 rfl ?_
            refine j_iald (t := 0) d_Mo_execute_173 rfl (hM_o (by decide)) rfl (by omega) (by decide) ?_
            first | refine c_if_ne (t := 199) d_Mo_execute_174 (by decide) (fun c174 => ?_) (fun c174 => ?_) | refine n_if_ne (t := 199) d_Mo_execute_174 (by decide) (by omega) (fun c174 => ?_) (fun c174 => ?_) | refine j_if_ne (t := 199) d_Mo_execute_174 (by decide) (fun c174 => ?_) (fun c174 => ?_)
            · exfalso; first | exact c174 | omega
            · refine j_iload d_Mo_execute_177 rfl ?_
              refine j_iconst (v := nI 1) d_Mo_execute_179 (by decide +kernel) ?_
              first | refine nn_icmp_ne (t := 199) d_Mo_execute_180 (by decide) (by omega) (by omega) (fun c180 => ?_) (fun c180 => ?_) | refine mm_icmp_ne (t := 199) d_Mo_execute_180 (by decide) (by omega) (by omega) (fun c180 => ?_) (fun c180 => ?_) | refine mn_icmp_ne (t := 199) d_Mo_execute_180 (by decide) (by omega) (by omega) (fun c180 => ?_) (fun c180 => ?_) | refine nm_icmp_ne (t := 199) d_Mo_execute_180 (by decide) (by omega) (by omega) (fun c180 => ?_) (fun c180 => ?_) | refine j_icmp_ne (t := 199) d_Mo_execute_180 (by decide) (fun c180 => ?_) (fun c180 => ?_)
              · refine j_iload d_Mo_execute_199 rfl ?_
                refine j_if_eq (t := 222) d_Mo_execute_201 (by decide) (fun q => absurd q (by decide +kernel)) (fun _ => ?_)
                first | refine j_aload_n d_Mo_execute_204 rfl ?_ | refine j_aload_nq d_Mo_execute_204 rfl ?_ | refine j_aload_nN d_Mo_execute_204 rfl ?_
                refine j_get d_Mo_execute_205 f_Mo_25 (hM_o (by decide)) rfl ?_
                refine j_iload_n d_Mo_execute_208 rfl ?_
                refine j_iald (t := 0) d_Mo_execute_209 rfl (hM_o (by decide)) rfl (by omega) (by decide) ?_
                refine j_iconst (v := nI 1) d_Mo_execute_210 (by decide +kernel) ?_
                first | refine nn_icmp_ne (t := 222) d_Mo_execute_211 (by decide) (by omega) (by omega) (fun c211 => ?_) (fun c211 => ?_) | refine mm_icmp_ne (t := 222) d_Mo_execute_211 (by decide) (by omega) (by omega) (fun c211 => ?_) (fun c211 => ?_) | refine mn_icmp_ne (t := 222) d_Mo_execute_211 (by decide) (by omega) (by omega) (fun c211 => ?_) (fun c211 => ?_) | refine nm_icmp_ne (t := 222) d_Mo_execute_211 (by decide) (by omega) (by omega) (fun c211 => ?_) (fun c211 => ?_) | refine j_icmp_ne (t := 222) d_Mo_execute_211 (by decide) (fun c211 => ?_) (fun c211 => ?_)
                · refine j_iload d_Mo_execute_222 rfl ?_
                  refine j_if_eq (t := 267) d_Mo_execute_224 (by decide) (fun q => absurd q (by decide +kernel)) (fun _ => ?_)
                  first | refine j_aload_n d_Mo_execute_227 rfl ?_ | refine j_aload_nq d_Mo_execute_227 rfl ?_ | refine j_aload_nN d_Mo_execute_227 rfl ?_
                  refine j_get d_Mo_execute_228 f_Mo_25 (hM_o (by decide)) rfl ?_
                  refine j_iload_n d_Mo_execute_231 rfl ?_
                  refine j_iald (t := 0) d_Mo_execute_232 rfl (hM_o (by decide)) rfl (by omega) (by decide) ?_
                  refine j_iconst (v := nI 2) d_Mo_execute_233 (by decide +kernel) ?_
                  first | refine nn_icmp_ne (t := 267) d_Mo_execute_234 (by decide) (by omega) (by omega) (fun c234 => ?_) (fun c234 => ?_) | refine mm_icmp_ne (t := 267) d_Mo_execute_234 (by decide) (by omega) (by omega) (fun c234 => ?_) (fun c234 => ?_) | refine mn_icmp_ne (t := 267) d_Mo_execute_234 (by decide) (by omega) (by omega) (fun c234 => ?_) (fun c234 => ?_) | refine nm_icmp_ne (t := 267) d_Mo_execute_234 (by decide) (by omega) (by omega) (fun c234 => ?_) (fun c234 => ?_) | refine j_icmp_ne (t := 267) d_Mo_execute_234 (by decide) (fun c234 => ?_) (fun c234 => ?_)
                  · refine j_iload d_Mo_execute_267 rfl ?_
                    refine j_if_eq (t := 290) d_Mo_execute_269 (by decide) (fun _ => ?_) (fun q => absurd q (by decide +kernel))
                    refine n_iinc (k := 2) (lc' := [_, _, _, _, _, _, _, _, _, _]) d_Mo_execute_290 (by decide +kernel) rfl (by decide) rfl rfl ?_
                    refine j_goto (t := 91) d_Mo_execute_293 (by decide) ?_
                    exact ih (j + 1) _ _ _ _ (by omega) (by omega) (by exact hτ)
                  · exfalso; first | exact c234 | omega
                · exfalso; first | exact c211 | omega
              · exfalso; first | exact c180 | omega
          · first | refine j_aload_n d_Mo_execute_146 rfl ?_ | refine j_aload_nq d_Mo_execute_146 rfl ?_ | refine j_aload_nN d_Mo_execute_146 rfl ?_
            refine j_get d_Mo_execute_147 f_Mo_19 (hM_o (by decide)) rfl ?_
            refine j_iload d_Mo_execute_150 rfl ?_
            refine j_iald (t := 0) d_Mo_execute_152 rfl (hM_o (by decide)) rfl (by omega) (by decide) ?_
            first | refine n_if_le (t := 160) d_Mo_execute_153 (by decide) (by omega) (fun c153 => ?_) (fun c153 => ?_) | refine j_if_le (t := 160) d_Mo_execute_153 (by decide) (fun c153 => ?_) (fun c153 => ?_)
            · refine j_iconst (v := nI 0) d_Mo_execute_160 (by decide +kernel) ?_
              refine j_istore (lc' := [_, _, _, _, _, _, _, _, _, _]) d_Mo_execute_161 (by decide) rfl rfl ?_
              refine j_iload d_Mo_execute_163 rfl ?_
              refine j_if_eq (t := 199) d_Mo_execute_165 (by decide) (fun q => absurd q (by decide +kernel)) (fun _ => ?_)
              first | refine j_aload_n d_Mo_execute_168 rfl ?_ | refine j_aload_nq d_Mo_execute_168 rfl ?_ | refine j_aload_nN d_Mo_execute_168 rfl ?_
              refine j_get d_Mo_execute_169 f_Mo_25 (hM_o (by decide)) rfl ?_
              refine j_iload_n d_Mo_execute_172 rfl ?_
              refine j_iald (t := 0) d_Mo_execute_173 rfl (hM_o (by decide)) rfl (by omega) (by decide) ?_
              first | refine c_if_ne (t := 199) d_Mo_execute_174 (by decide) (fun c174 => ?_) (fun c174 => ?_) | refine n_if_ne (t := 199) d_Mo_execute_174 (by decide) (by omega) (fun c174 => ?_) (fun c174 => ?_) | refine j_if_ne (t := 199) d_Mo_execute_174 (by decide) (fun c174 => ?_) (fun c174 => ?_)
              · exfalso; first | exact c174 | omega
              · refine j_iload d_Mo_execute_177 rfl ?_
                refine j_iconst (v := nI 1) d_Mo_execute_179 (by decide +kernel) ?_
                first | refine nn_icmp_ne (t := 199) d_Mo_execute_180 (by decide) (by omega) (by omega) (fun c180 => ?_) (fun c180 => ?_) | refine mm_icmp_ne (t := 199) d_Mo_execute_180 (by decide) (by omega) (by omega) (fun c180 => ?_) (fun c180 => ?_) | refine mn_icmp_ne (t := 199) d_Mo_execute_180 (by decide) (by omega) (by omega) (fun c180 => ?_) (fun c180 => ?_) | refine nm_icmp_ne (t := 199) d_Mo_execute_180 (by decide) (by omega) (by omega) (fun c180 => ?_) (fun c180 => ?_) | refine j_icmp_ne (t := 199) d_Mo_execute_180 (by decide) (fun c180 => ?_) (fun c180 => ?_)
                · refine j_iload d_Mo_execute_199 rfl ?_
                  refine j_if_eq (t := 222) d_Mo_execute_201 (by decide) (fun q => absurd q (by decide +kernel)) (fun _ => ?_)
                  first | refine j_aload_n d_Mo_execute_204 rfl ?_ | refine j_aload_nq d_Mo_execute_204 rfl ?_ | refine j_aload_nN d_Mo_execute_204 rfl ?_
                  refine j_get d_Mo_execute_205 f_Mo_25 (hM_o (by decide)) rfl ?_
                  refine j_iload_n d_Mo_execute_208 rfl ?_
                  refine j_iald (t := 0) d_Mo_execute_209 rfl (hM_o (by decide)) rfl (by omega) (by decide) ?_
                  refine j_iconst (v := nI 1) d_Mo_execute_210 (by decide +kernel) ?_
                  first | refine nn_icmp_ne (t := 222) d_Mo_execute_211 (by decide) (by omega) (by omega) (fun c211 => ?_) (fun c211 => ?_) | refine mm_icmp_ne (t := 222) d_Mo_execute_211 (by decide) (by omega) (by omega) (fun c211 => ?_) (fun c211 => ?_) | refine mn_icmp_ne (t := 222) d_Mo_execute_211 (by decide) (by omega) (by omega) (fun c211 => ?_) (fun c211 => ?_) | refine nm_icmp_ne (t := 222) d_Mo_execute_211 (by decide) (by omega) (by omega) (fun c211 => ?_) (fun c211 => ?_) | refine j_icmp_ne (t := 222) d_Mo_execute_211 (by decide) (fun c211 => ?_) (fun c211 => ?_)
                  · refine j_iload d_Mo_execute_222 rfl ?_
                    refine j_if_eq (t := 267) d_Mo_execute_224 (by decide) (fun q => absurd q (by decide +kernel)) (fun _ => ?_)
                    first | refine j_aload_n d_Mo_execute_227 rfl ?_ | refine j_aload_nq d_Mo_execute_227 rfl ?_ | refine j_aload_nN d_Mo_execute_227 rfl ?_
                    refine j_get d_Mo_execute_228 f_Mo_25 (hM_o (by decide)) rfl ?_
                    refine j_iload_n d_Mo_execute_231 rfl ?_
                    refine j_iald (t := 0) d_Mo_execute_232 rfl (hM_o (by decide)) rfl (by omega) (by decide) ?_
                    refine j_iconst (v := nI 2) d_Mo_execute_233 (by decide +kernel) ?_
                    first | refine nn_icmp_ne (t := 267) d_Mo_execute_234 (by decide) (by omega) (by omega) (fun c234 => ?_) (fun c234 => ?_) | refine mm_icmp_ne (t := 267) d_Mo_execute_234 (by decide) (by omega) (by omega) (fun c234 => ?_) (fun c234 => ?_) | refine mn_icmp_ne (t := 267) d_Mo_execute_234 (by decide) (by omega) (by omega) (fun c234 => ?_) (fun c234 => ?_) | refine nm_icmp_ne (t := 267) d_Mo_execute_234 (by decide) (by omega) (by omega) (fun c234 => ?_) (fun c234 => ?_) | refine j_icmp_ne (t := 267) d_Mo_execute_234 (by decide) (fun c234 => ?_) (fun c234 => ?_)
                    · refine j_iload d_Mo_execute_267 rfl ?_
                      refine j_if_eq (t := 290) d_Mo_execute_269 (by decide) (fun _ => ?_) (fun q => absurd q (by decide +kernel))
                      refine n_iinc (k := 2) (lc' := [_, _, _, _, _, _, _, _, _, _]) d_Mo_execute_290 (by decide +kernel) rfl (by decide) rfl rfl ?_
                      refine j_goto (t := 91) d_Mo_execute_293 (by decide) ?_
                      exact ih (j + 1) _ _ _ _ (by omega) (by omega) (by exact hτ)
                    · exfalso; first | exact c234 | omega
                  · exfalso; first | exact c211 | omega
                · exfalso; first | exact c180 | omega
            · refine j_iconst (v := nI 1) d_Mo_execute_156 (by decide +kernel) ?_
              refine j_goto (t := 161) d_Mo_execute_157 (by decide) ?_
              refine j_istore (lc' := [_, _, _, _, _, _, _, _, _, _]) d_Mo_execute_161 (by decide) rfl rfl ?_
              refine j_iload d_Mo_execute_163 rfl ?_
              refine j_if_eq (t := 199) d_Mo_execute_165 (by decide) (fun q => absurd q (by decide +kernel)) (fun _ => ?_)
              first | refine j_aload_n d_Mo_execute_168 rfl ?_ | refine j_aload_nq d_Mo_execute_168 rfl ?_ | refine j_aload_nN d_Mo_execute_168 rfl ?_
              refine j_get d_Mo_execute_169 f_Mo_25 (hM_o (by decide)) rfl ?_
              refine j_iload_n d_Mo_execute_172 rfl ?_
              refine j_iald (t := 0) d_Mo_execute_173 rfl (hM_o (by decide)) rfl (by omega) (by decide) ?_
              first | refine c_if_ne (t := 199) d_Mo_execute_174 (by decide) (fun c174 => ?_) (fun c174 => ?_) | refine n_if_ne (t := 199) d_Mo_execute_174 (by decide) (by omega) (fun c174 => ?_) (fun c174 => ?_) | refine j_if_ne (t := 199) d_Mo_execute_174 (by decide) (fun c174 => ?_) (fun c174 => ?_)
              · exfalso; first | exact c174 | omega
              · refine j_iload d_Mo_execute_177 rfl ?_
                refine j_iconst (v := nI 1) d_Mo_execute_179 (by decide +kernel) ?_
                first | refine nn_icmp_ne (t := 199) d_Mo_execute_180 (by decide) (by omega) (by omega) (fun c180 => ?_) (fun c180 => ?_) | refine mm_icmp_ne (t := 199) d_Mo_execute_180 (by decide) (by omega) (by omega) (fun c180 => ?_) (fun c180 => ?_) | refine mn_icmp_ne (t := 199) d_Mo_execute_180 (by decide) (by omega) (by omega) (fun c180 => ?_) (fun c180 => ?_) | refine nm_icmp_ne (t := 199) d_Mo_execute_180 (by decide) (by omega) (by omega) (fun c180 => ?_) (fun c180 => ?_) | refine j_icmp_ne (t := 199) d_Mo_execute_180 (by decide) (fun c180 => ?_) (fun c180 => ?_)
                · refine j_iload d_Mo_execute_199 rfl ?_
                  refine j_if_eq (t := 222) d_Mo_execute_201 (by decide) (fun q => absurd q (by decide +kernel)) (fun _ => ?_)
                  first | refine j_aload_n d_Mo_execute_204 rfl ?_ | refine j_aload_nq d_Mo_execute_204 rfl ?_ | refine j_aload_nN d_Mo_execute_204 rfl ?_
                  refine j_get d_Mo_execute_205 f_Mo_25 (hM_o (by decide)) rfl ?_
                  refine j_iload_n d_Mo_execute_208 rfl ?_
                  refine j_iald (t := 0) d_Mo_execute_209 rfl (hM_o (by decide)) rfl (by omega) (by decide) ?_
                  refine j_iconst (v := nI 1) d_Mo_execute_210 (by decide +kernel) ?_
                  first | refine nn_icmp_ne (t := 222) d_Mo_execute_211 (by decide) (by omega) (by omega) (fun c211 => ?_) (fun c211 => ?_) | refine mm_icmp_ne (t := 222) d_Mo_execute_211 (by decide) (by omega) (by omega) (fun c211 => ?_) (fun c211 => ?_) | refine mn_icmp_ne (t := 222) d_Mo_execute_211 (by decide) (by omega) (by omega) (fun c211 => ?_) (fun c211 => ?_) | refine nm_icmp_ne (t := 222) d_Mo_execute_211 (by decide) (by omega) (by omega) (fun c211 => ?_) (fun c211 => ?_) | refine j_icmp_ne (t := 222) d_Mo_execute_211 (by decide) (fun c211 => ?_) (fun c211 => ?_)
                  · refine j_iload d_Mo_execute_222 rfl ?_
                    refine j_if_eq (t := 267) d_Mo_execute_224 (by decide) (fun q => absurd q (by decide +kernel)) (fun _ => ?_)
                    first | refine j_aload_n d_Mo_execute_227 rfl ?_ | refine j_aload_nq d_Mo_execute_227 rfl ?_ | refine j_aload_nN d_Mo_execute_227 rfl ?_
                    refine j_get d_Mo_execute_228 f_Mo_25 (hM_o (by decide)) rfl ?_
                    refine j_iload_n d_Mo_execute_231 rfl ?_
                    refine j_iald (t := 0) d_Mo_execute_232 rfl (hM_o (by decide)) rfl (by omega) (by decide) ?_
                    refine j_iconst (v := nI 2) d_Mo_execute_233 (by decide +kernel) ?_
                    first | refine nn_icmp_ne (t := 267) d_Mo_execute_234 (by decide) (by omega) (by omega) (fun c234 => ?_) (fun c234 => ?_) | refine mm_icmp_ne (t := 267) d_Mo_execute_234 (by decide) (by omega) (by omega) (fun c234 => ?_) (fun c234 => ?_) | refine mn_icmp_ne (t := 267) d_Mo_execute_234 (by decide) (by omega) (by omega) (fun c234 => ?_) (fun c234 => ?_) | refine nm_icmp_ne (t := 267) d_Mo_execute_234 (by decide) (by omega) (by omega) (fun c234 => ?_) (fun c234 => ?_) | refine j_icmp_ne (t := 267) d_Mo_execute_234 (by decide) (fun c234 => ?_) (fun c234 => ?_)
                    · refine j_iload d_Mo_execute_267 rfl ?_
                      refine j_if_eq (t := 290) d_Mo_execute_269 (by decide) (fun q => absurd q (by decide +kernel)) (fun _ => ?_)
                      first | refine j_aload_n d_Mo_execute_272 rfl ?_ | refine j_aload_nq d_Mo_execute_272 rfl ?_ | refine j_aload_nN d_Mo_execute_272 rfl ?_
                      refine j_get d_Mo_execute_273 f_Mo_25 (hM_o (by decide)) rfl ?_
                      refine j_iload_n d_Mo_execute_276 rfl ?_
                      refine j_iald (t := 0) d_Mo_execute_277 rfl (hM_o (by decide)) rfl (by omega) (by decide) ?_
                      refine j_iconst (v := nI 1) d_Mo_execute_278 (by decide +kernel) ?_
                      first | refine nn_icmp_ne (t := 290) d_Mo_execute_279 (by decide) (by omega) (by omega) (fun c279 => ?_) (fun c279 => ?_) | refine mm_icmp_ne (t := 290) d_Mo_execute_279 (by decide) (by omega) (by omega) (fun c279 => ?_) (fun c279 => ?_) | refine mn_icmp_ne (t := 290) d_Mo_execute_279 (by decide) (by omega) (by omega) (fun c279 => ?_) (fun c279 => ?_) | refine nm_icmp_ne (t := 290) d_Mo_execute_279 (by decide) (by omega) (by omega) (fun c279 => ?_) (fun c279 => ?_) | refine j_icmp_ne (t := 290) d_Mo_execute_279 (by decide) (fun c279 => ?_) (fun c279 => ?_)
                      · refine n_iinc (k := 2) (lc' := [_, _, _, _, _, _, _, _, _, _]) d_Mo_execute_290 (by decide +kernel) rfl (by decide) rfl rfl ?_
                        refine j_goto (t := 91) d_Mo_execute_293 (by decide) ?_
                        exact ih (j + 1) _ _ _ _ (by omega) (by omega) (by exact hτ)
                      · exfalso; first | exact c279 | omega
                    · exfalso; first | exact c234 | omega
                  · exfalso; first | exact c211 | omega
                · exfalso; first | exact c180 | omega

set_option maxHeartbeats 4000000 in
set_option maxRecDepth 100000 in
theorem lp_ex_k1 {l : Launch} {D : va_G} {M nx : Nat} {L : Int32} {σ ρ : Sg} {g : Nat → Option va_E} {p : Nat} (hp : p < 8) (hb : bd σ) (q t : Nat) (hq : q < 32) (ht : t < 8) (h16 : σ 10 p 0 < 16) (hk : σ 6 0 q = 1) (hin : σ 1 0 t < 4 + 2 * t ∧ σ 2 0 t ≤ 4 + 2 * t) : ∀ (m : Nat) (j : Nat) (τ : Sg) (x7 x8 x9 : Option Value), j ≤ 10 → 10 - j < m → τ = exSp σ p t j → J (G0 l D) jT m_Mo_execute 0 (fun v h => v = none ∧ h = (hM D M L (xT (exSp σ p t 10) p (σ 10 p 0) q (1)) ρ g, nx)) 0 0 91 [some (.ref (M + 0)), some (.int (nI p)), some (.int (nI q)), some (.int (nI t)), some (.int (nI (p / 4))), some (.int (nI 1)), some (.int (nI (p / 4 + 2 * j))), x7, x8, x9] [] (hM D M L τ ρ g, nx) := by
  intro m
  induction m with
  | zero =>
    intros
    exfalso
    omega
  | succ m ih =>
    intro j τ x7 x8 x9 h1 h2 hτ
    have ne : ∀ f, f ≠ 8 → f ≠ 9 → τ f = σ f := fun f h8 h9 => by rw [hτ]; exact exSp_ne h8 _
    have e6 : τ 6 0 q = 1 := by rw [ne 6 (by decide) (by decide)]; exact hk
    have e1 : τ 1 0 t = σ 1 0 t := by rw [ne 1 (by decide) (by decide)]
    have e2 : τ 2 0 t = σ 2 0 t := by rw [ne 2 (by decide) (by decide)]
    have e4 : τ 4 0 (p / 4 + 2 * j) = σ 4 0 (p / 4 + 2 * j) := by rw [ne 4 (by decide) (by decide)]
    have b1 := hb 1 0 t
    have b2 := hb 2 0 t
    have b4 := hb 4 0 (p / 4 + 2 * j)
    have b8 : τ 8 p (p / 4 + 2 * j) < 100000 := by rw [hτ]; exact exSp_bd hb j _ _ _
    have b9 : τ 9 p (p / 4 + 2 * j) < 100000 := by rw [hτ]; exact exSp_bd hb j _ _ _
    refine j_iload d_Mo_execute_91 rfl ?_
    refine j_bipush (v := nI 20) d_Mo_execute_93 (by decide +kernel) ?_
    first | refine nn_icmp_ge (t := 296) d_Mo_execute_95 (by decide) (by omega) (by omega) (fun c95 => ?_) (fun c95 => ?_) | refine mm_icmp_ge (t := 296) d_Mo_execute_95 (by decide) (by omega) (by omega) (fun c95 => ?_) (fun c95 => ?_) | refine mn_icmp_ge (t := 296) d_Mo_execute_95 (by decide) (by omega) (by omega) (fun c95 => ?_) (fun c95 => ?_) | refine nm_icmp_ge (t := 296) d_Mo_execute_95 (by decide) (by omega) (by omega) (fun c95 => ?_) (fun c95 => ?_) | refine j_icmp_ge (t := 296) d_Mo_execute_95 (by decide) (fun c95 => ?_) (fun c95 => ?_)
    · have hj : j = 10 := by omega
      subst hj
      rw [← hτ]
      exact lp_ex_end hp q 1 hq (by rw [hτ]; exact exSp_ne (by decide) _) h16 _ _ _ _ _
    · refine j_bipush (v := nI 20) d_Mo_execute_98 (by decide +kernel) ?_
      refine j_iload_n d_Mo_execute_100 rfl ?_
      refine jn_imul d_Mo_execute_101 ?_
      refine j_iload d_Mo_execute_102 rfl ?_
      refine jn_iadd d_Mo_execute_104 ?_
      refine j_istore (lc' := [_, _, _, _, _, _, _, _, _, _]) d_Mo_execute_105 (by decide) rfl rfl ?_
      refine j_iload d_Mo_execute_107 rfl ?_
      first | refine j_aload_n d_Mo_execute_109 rfl ?_ | refine j_aload_nq d_Mo_execute_109 rfl ?_ | refine j_aload_nN d_Mo_execute_109 rfl ?_
      refine j_get d_Mo_execute_110 f_Mo_7 (hM_o (by decide)) rfl ?_
      refine j_iload_n d_Mo_execute_113 rfl ?_
      refine j_iald (t := 0) d_Mo_execute_114 rfl (hM_o (by decide)) rfl (by omega) (by decide) ?_
      first | refine nn_icmp_eq (t := 129) d_Mo_execute_115 (by decide) (by omega) (by omega) (fun c115 => ?_) (fun c115 => ?_) | refine mm_icmp_eq (t := 129) d_Mo_execute_115 (by decide) (by omega) (by omega) (fun c115 => ?_) (fun c115 => ?_) | refine mn_icmp_eq (t := 129) d_Mo_execute_115 (by decide) (by omega) (by omega) (fun c115 => ?_) (fun c115 => ?_) | refine nm_icmp_eq (t := 129) d_Mo_execute_115 (by decide) (by omega) (by omega) (fun c115 => ?_) (fun c115 => ?_) | refine j_icmp_eq (t := 129) d_Mo_execute_115 (by decide) (fun c115 => ?_) (fun c115 => ?_)
      · refine j_iconst (v := nI 1) d_Mo_execute_129 (by decide +kernel) ?_
        refine j_goto (t := 134) d_Mo_execute_130 (by decide) ?_
        refine j_istore (lc' := [_, _, _, _, _, _, _, _, _, _]) d_Mo_execute_134 (by decide) rfl rfl ?_
        refine j_iload d_Mo_execute_136 rfl ?_
        refine j_iconst (v := nI 2) d_Mo_execute_138 (by decide +kernel) ?_
        refine jn_idiv d_Mo_execute_139 (by omega) (by decide) (by decide) ?_
        refine j_iconst (v := nI 2) d_Mo_execute_140 (by decide +kernel) ?_
        refine j_iload_n d_Mo_execute_141 rfl ?_
        refine jn_iadd d_Mo_execute_142 ?_
        first | refine nn_icmp_ne (t := 160) d_Mo_execute_143 (by decide) (by omega) (by omega) (fun c143 => ?_) (fun c143 => ?_) | refine mm_icmp_ne (t := 160) d_Mo_execute_143 (by decide) (by omega) (by omega) (fun c143 => ?_) (fun c143 => ?_) | refine mn_icmp_ne (t := 160) d_Mo_execute_143 (by decide) (by omega) (by omega) (fun c143 => ?_) (fun c143 => ?_) | refine nm_icmp_ne (t := 160) d_Mo_execute_143 (by decide) (by omega) (by omega) (fun c143 => ?_) (fun c143 => ?_) | refine j_icmp_ne (t := 160) d_Mo_execute_143 (by decide) (fun c143 => ?_) (fun c143 => ?_)
        · refine j_iconst (v := nI 0) d_Mo_execute_160 (by decide +kernel) ?_
          refine j_istore (lc' := [_, _, _, _, _, _, _, _, _, _]) d_Mo_execute_161 (by decide) rfl rfl ?_
          refine j_iload d_Mo_execute_163 rfl ?_
          refine j_if_eq (t := 199) d_Mo_execute_165 (by decide) (fun q => absurd q (by decide +kernel)) (fun _ => ?_)
          first | refine j_aload_n d_Mo_execute_168 rfl ?_ | refine j_aload_nq d_Mo_execute_168 rfl ?_ | refine j_aload_nN d_Mo_execute_168 rfl ?_
          refine j_get d_Mo_execute_169 f_Mo_25 (hM_o (by decide)) rfl ?_
          refine j_iload_n d_Mo_execute_172 rfl ?_
          refine j_iald (t := 0) d_Mo_execute_173 rfl (hM_o (by decide)) rfl (by omega) (by decide) ?_
          first | refine c_if_ne (t := 199) d_Mo_execute_174 (by decide) (fun c174 => ?_) (fun c174 => ?_) | refine n_if_ne (t := 199) d_Mo_execute_174 (by decide) (by omega) (fun c174 => ?_) (fun c174 => ?_) | refine j_if_ne (t := 199) d_Mo_execute_174 (by decide) (fun c174 => ?_) (fun c174 => ?_)
          · refine j_iload d_Mo_execute_199 rfl ?_
            refine j_if_eq (t := 222) d_Mo_execute_201 (by decide) (fun q => absurd q (by decide +kernel)) (fun _ => ?_)
            first | refine j_aload_n d_Mo_execute_204 rfl ?_ | refine j_aload_nq d_Mo_execute_204 rfl ?_ | refine j_aload_nN d_Mo_execute_204 rfl ?_
            refine j_get d_Mo_execute_205 f_Mo_25 (hM_o (by decide)) rfl ?_
            refine j_iload_n d_Mo_execute_208 rfl ?_
            refine j_iald (t := 0) d_Mo_execute_209 rfl (hM_o (by decide)) rfl (by omega) (by decide) ?_
            refine j_iconst (v := nI 1) d_Mo_execute_210 (by decide +kernel) ?_
            first | refine nn_icmp_ne (t := 222) d_Mo_execute_211 (by decide) (by omega) (by omega) (fun c211 => ?_) (fun c211 => ?_) | refine mm_icmp_ne (t := 222) d_Mo_execute_211 (by decide) (by omega) (by omega) (fun c211 => ?_) (fun c211 => ?_) | refine mn_icmp_ne (t := 222) d_Mo_execute_211 (by decide) (by omega) (by omega) (fun c211 => ?_) (fun c211 => ?_) | refine nm_icmp_ne (t := 222) d_Mo_execute_211 (by decide) (by omega) (by omega) (fun c211 => ?_) (fun c211 => ?_) | refine j_icmp_ne (t := 222) d_Mo_execute_211 (by decide) (fun c211 => ?_) (fun c211 => ?_)
            · exfalso; first | exact c211 | omega
            · first | refine j_aload_n d_Mo_execute_214 rfl ?_ | refine j_aload_nq d_Mo_execute_214 rfl ?_ | refine j_aload_nN d_Mo_execute_214 rfl ?_
              refine j_get d_Mo_execute_215 f_Mo_31 (hM_o (by decide)) rfl ?_
              refine j_iload d_Mo_execute_218 rfl ?_
              refine j_iconst (v := nI 3) d_Mo_execute_220 (by decide +kernel) ?_
              refine j_iast (t := 0) d_Mo_execute_221 rfl (hM_o (by decide)) rfl (by omega) (by decide) (J.hq (o8 (by omega)) ?_)
              generalize hτ' : U τ 8 p (p / 4 + 2 * j) 3 = τ'
              have e6 : τ' 6 0 q = 1 := by rw [← hτ']; exact e6
              refine j_iload d_Mo_execute_222 rfl ?_
              refine j_if_eq (t := 267) d_Mo_execute_224 (by decide) (fun q => absurd q (by decide +kernel)) (fun _ => ?_)
              first | refine j_aload_n d_Mo_execute_227 rfl ?_ | refine j_aload_nq d_Mo_execute_227 rfl ?_ | refine j_aload_nN d_Mo_execute_227 rfl ?_
              refine j_get d_Mo_execute_228 f_Mo_25 (hM_o (by decide)) rfl ?_
              refine j_iload_n d_Mo_execute_231 rfl ?_
              refine j_iald (t := 0) d_Mo_execute_232 rfl (hM_o (by decide)) rfl (by omega) (by decide) ?_
              refine j_iconst (v := nI 2) d_Mo_execute_233 (by decide +kernel) ?_
              first | refine nn_icmp_ne (t := 267) d_Mo_execute_234 (by decide) (by omega) (by omega) (fun c234 => ?_) (fun c234 => ?_) | refine mm_icmp_ne (t := 267) d_Mo_execute_234 (by decide) (by omega) (by omega) (fun c234 => ?_) (fun c234 => ?_) | refine mn_icmp_ne (t := 267) d_Mo_execute_234 (by decide) (by omega) (by omega) (fun c234 => ?_) (fun c234 => ?_) | refine nm_icmp_ne (t := 267) d_Mo_execute_234 (by decide) (by omega) (by omega) (fun c234 => ?_) (fun c234 => ?_) | refine j_icmp_ne (t := 267) d_Mo_execute_234 (by decide) (fun c234 => ?_) (fun c234 => ?_)
              · refine j_iload d_Mo_execute_267 rfl ?_
                refine j_if_eq (t := 290) d_Mo_execute_269 (by decide) (fun _ => ?_) (fun q => absurd q (by decide +kernel))
                refine n_iinc (k := 2) (lc' := [_, _, _, _, _, _, _, _, _, _]) d_Mo_execute_290 (by decide +kernel) rfl (by decide) rfl rfl ?_
                refine j_goto (t := 91) d_Mo_execute_293 (by decide) ?_
                exact ih (j + 1) _ _ _ _ (by omega) (by omega) (by rw [← hτ', exSp, ifP_t (show inp σ t (p / 4 + 2 * j) from Or.inl (by omega)), ← hτ])
              · exfalso; first | exact c234 | omega
          · exfalso; first | exact c174 | omega
        · first | refine j_aload_n d_Mo_execute_146 rfl ?_ | refine j_aload_nq d_Mo_execute_146 rfl ?_ | refine j_aload_nN d_Mo_execute_146 rfl ?_
          refine j_get d_Mo_execute_147 f_Mo_19 (hM_o (by decide)) rfl ?_
          refine j_iload d_Mo_execute_150 rfl ?_
          refine j_iald (t := 0) d_Mo_execute_152 rfl (hM_o (by decide)) rfl (by omega) (by decide) ?_
          first | refine n_if_le (t := 160) d_Mo_execute_153 (by decide) (by omega) (fun c153 => ?_) (fun c153 => ?_) | refine j_if_le (t := 160) d_Mo_execute_153 (by decide) (fun c153 => ?_) (fun c153 => ?_)
          · refine j_iconst (v := nI 0) d_Mo_execute_160 (by decide +kernel) ?_
            refine j_istore (lc' := [_, _, _, _, _, _, _, _, _, _]) d_Mo_execute_161 (by decide) rfl rfl ?_
            refine j_iload d_Mo_execute_163 rfl ?_
            refine j_if_eq (t := 199) d_Mo_execute_165 (by decide) (fun q => absurd q (by decide +kernel)) (fun _ => ?_)
            first | refine j_aload_n d_Mo_execute_168 rfl ?_ | refine j_aload_nq d_Mo_execute_168 rfl ?_ | refine j_aload_nN d_Mo_execute_168 rfl ?_
            refine j_get d_Mo_execute_169 f_Mo_25 (hM_o (by decide)) rfl ?_
            refine j_iload_n d_Mo_execute_172 rfl ?_
            refine j_iald (t := 0) d_Mo_execute_173 rfl (hM_o (by decide)) rfl (by omega) (by decide) ?_
            first | refine c_if_ne (t := 199) d_Mo_execute_174 (by decide) (fun c174 => ?_) (fun c174 => ?_) | refine n_if_ne (t := 199) d_Mo_execute_174 (by decide) (by omega) (fun c174 => ?_) (fun c174 => ?_) | refine j_if_ne (t := 199) d_Mo_execute_174 (by decide) (fun c174 => ?_) (fun c174 => ?_)
            · refine j_iload d_Mo_execute_199 rfl ?_
              refine j_if_eq (t := 222) d_Mo_execute_201 (by decide) (fun q => absurd q (by decide +kernel)) (fun _ => ?_)
              first | refine j_aload_n d_Mo_execute_204 rfl ?_ | refine j_aload_nq d_Mo_execute_204 rfl ?_ | refine j_aload_nN d_Mo_execute_204 rfl ?_
              refine j_get d_Mo_execute_205 f_Mo_25 (hM_o (by decide)) rfl ?_
              refine j_iload_n d_Mo_execute_208 rfl ?_
              refine j_iald (t := 0) d_Mo_execute_209 rfl (hM_o (by decide)) rfl (by omega) (by decide) ?_
              refine j_iconst (v := nI 1) d_Mo_execute_210 (by decide +kernel) ?_
              first | refine nn_icmp_ne (t := 222) d_Mo_execute_211 (by decide) (by omega) (by omega) (fun c211 => ?_) (fun c211 => ?_) | refine mm_icmp_ne (t := 222) d_Mo_execute_211 (by decide) (by omega) (by omega) (fun c211 => ?_) (fun c211 => ?_) | refine mn_icmp_ne (t := 222) d_Mo_execute_211 (by decide) (by omega) (by omega) (fun c211 => ?_) (fun c211 => ?_) | refine nm_icmp_ne (t := 222) d_Mo_execute_211 (by decide) (by omega) (by omega) (fun c211 => ?_) (fun c211 => ?_) | refine j_icmp_ne (t := 222) d_Mo_execute_211 (by decide) (fun c211 => ?_) (fun c211 => ?_)
              · exfalso; first | exact c211 | omega
              · first | refine j_aload_n d_Mo_execute_214 rfl ?_ | refine j_aload_nq d_Mo_execute_214 rfl ?_ | refine j_aload_nN d_Mo_execute_214 rfl ?_
                refine j_get d_Mo_execute_215 f_Mo_31 (hM_o (by decide)) rfl ?_
                refine j_iload d_Mo_execute_218 rfl ?_
                refine j_iconst (v := nI 3) d_Mo_execute_220 (by decide +kernel) ?_
                refine j_iast (t := 0) d_Mo_execute_221 rfl (hM_o (by decide)) rfl (by omega) (by decide) (J.hq (o8 (by omega)) ?_)
                generalize hτ' : U τ 8 p (p / 4 + 2 * j) 3 = τ'
                have e6 : τ' 6 0 q = 1 := by rw [← hτ']; exact e6
                refine j_iload d_Mo_execute_222 rfl ?_
                refine j_if_eq (t := 267) d_Mo_execute_224 (by decide) (fun q => absurd q (by decide +kernel)) (fun _ => ?_)
                first | refine j_aload_n d_Mo_execute_227 rfl ?_ | refine j_aload_nq d_Mo_execute_227 rfl ?_ | refine j_aload_nN d_Mo_execute_227 rfl ?_
                refine j_get d_Mo_execute_228 f_Mo_25 (hM_o (by decide)) rfl ?_
                refine j_iload_n d_Mo_execute_231 rfl ?_
                refine j_iald (t := 0) d_Mo_execute_232 rfl (hM_o (by decide)) rfl (by omega) (by decide) ?_
                refine j_iconst (v := nI 2) d_Mo_execute_233 (by decide +kernel) ?_
                first | refine nn_icmp_ne (t := 267) d_Mo_execute_234 (by decide) (by omega) (by omega) (fun c234 => ?_) (fun c234 => ?_) | refine mm_icmp_ne (t := 267) d_Mo_execute_234 (by decide) (by omega) (by omega) (fun c234 => ?_) (fun c234 => ?_) | refine mn_icmp_ne (t := 267) d_Mo_execute_234 (by decide) (by omega) (by omega) (fun c234 => ?_) (fun c234 => ?_) | refine nm_icmp_ne (t := 267) d_Mo_execute_234 (by decide) (by omega) (by omega) (fun c234 => ?_) (fun c234 => ?_) | refine j_icmp_ne (t := 267) d_Mo_execute_234 (by decide) (fun c234 => ?_) (fun c234 => ?_)
                · refine j_iload d_Mo_execute_267 rfl ?_
                  refine j_if_eq (t := 290) d_Mo_execute_269 (by decide) (fun _ => ?_) (fun q => absurd q (by decide +kernel))
                  refine n_iinc (k := 2) (lc' := [_, _, _, _, _, _, _, _, _, _]) d_Mo_execute_290 (by decide +kernel) rfl (by decide) rfl rfl ?_
                  refine j_goto (t := 91) d_Mo_execute_293 (by decide) ?_
                  exact ih (j + 1) _ _ _ _ (by omega) (by omega) (by rw [← hτ', exSp, ifP_t (show inp σ t (p / 4 + 2 * j) from Or.inl (by omega)), ← hτ])
                · exfalso; first | exact c234 | omega
            · exfalso; first | exact c174 | omega
          · refine j_iconst (v := nI 1) d_Mo_execute_156 (by decide +kernel) ?_
            refine j_goto (t := 161) d_Mo_execute_157 (by decide) ?_
            refine j_istore (lc' := [_, _, _, _, _, _, _, _, _, _]) d_Mo_execute_161 (by decide) rfl rfl ?_
            refine j_iload d_Mo_execute_163 rfl ?_
            refine j_if_eq (t := 199) d_Mo_execute_165 (by decide) (fun q => absurd q (by decide +kernel)) (fun _ => ?_)
            first | refine j_aload_n d_Mo_execute_168 rfl ?_ | refine j_aload_nq d_Mo_execute_168 rfl ?_ | refine j_aload_nN d_Mo_execute_168 rfl ?_
            refine j_get d_Mo_execute_169 f_Mo_25 (hM_o (by decide)) rfl ?_
            refine j_iload_n d_Mo_execute_172 rfl ?_
            refine j_iald (t := 0) d_Mo_execute_173 rfl (hM_o (by decide)) rfl (by omega) (by decide) ?_
            first | refine c_if_ne (t := 199) d_Mo_execute_174 (by decide) (fun c174 => ?_) (fun c174 => ?_) | refine n_if_ne (t := 199) d_Mo_execute_174 (by decide) (by omega) (fun c174 => ?_) (fun c174 => ?_) | refine j_if_ne (t := 199) d_Mo_execute_174 (by decide) (fun c174 => ?_) (fun c174 => ?_)
            · refine j_iload d_Mo_execute_199 rfl ?_
              refine j_if_eq (t := 222) d_Mo_execute_201 (by decide) (fun q => absurd q (by decide +kernel)) (fun _ => ?_)
              first | refine j_aload_n d_Mo_execute_204 rfl ?_ | refine j_aload_nq d_Mo_execute_204 rfl ?_ | refine j_aload_nN d_Mo_execute_204 rfl ?_
              refine j_get d_Mo_execute_205 f_Mo_25 (hM_o (by decide)) rfl ?_
              refine j_iload_n d_Mo_execute_208 rfl ?_
              refine j_iald (t := 0) d_Mo_execute_209 rfl (hM_o (by decide)) rfl (by omega) (by decide) ?_
              refine j_iconst (v := nI 1) d_Mo_execute_210 (by decide +kernel) ?_
              first | refine nn_icmp_ne (t := 222) d_Mo_execute_211 (by decide) (by omega) (by omega) (fun c211 => ?_) (fun c211 => ?_) | refine mm_icmp_ne (t := 222) d_Mo_execute_211 (by decide) (by omega) (by omega) (fun c211 => ?_) (fun c211 => ?_) | refine mn_icmp_ne (t := 222) d_Mo_execute_211 (by decide) (by omega) (by omega) (fun c211 => ?_) (fun c211 => ?_) | refine nm_icmp_ne (t := 222) d_Mo_execute_211 (by decide) (by omega) (by omega) (fun c211 => ?_) (fun c211 => ?_) | refine j_icmp_ne (t := 222) d_Mo_execute_211 (by decide) (fun c211 => ?_) (fun c211 => ?_)
              · exfalso; first | exact c211 | omega
              · first | refine j_aload_n d_Mo_execute_214 rfl ?_ | refine j_aload_nq d_Mo_execute_214 rfl ?_ | refine j_aload_nN d_Mo_execute_214 rfl ?_
                refine j_get d_Mo_execute_215 f_Mo_31 (hM_o (by decide)) rfl ?_
                refine j_iload d_Mo_execute_218 rfl ?_
                refine j_iconst (v := nI 3) d_Mo_execute_220 (by decide +kernel) ?_
                refine j_iast (t := 0) d_Mo_execute_221 rfl (hM_o (by decide)) rfl (by omega) (by decide) (J.hq (o8 (by omega)) ?_)
                generalize hτ' : U τ 8 p (p / 4 + 2 * j) 3 = τ'
                have e6 : τ' 6 0 q = 1 := by rw [← hτ']; exact e6
                refine j_iload d_Mo_execute_222 rfl ?_
                refine j_if_eq (t := 267) d_Mo_execute_224 (by decide) (fun q => absurd q (by decide +kernel)) (fun _ => ?_)
                first | refine j_aload_n d_Mo_execute_227 rfl ?_ | refine j_aload_nq d_Mo_execute_227 rfl ?_ | refine j_aload_nN d_Mo_execute_227 rfl ?_
                refine j_get d_Mo_execute_228 f_Mo_25 (hM_o (by decide)) rfl ?_
                refine j_iload_n d_Mo_execute_231 rfl ?_
                refine j_iald (t := 0) d_Mo_execute_232 rfl (hM_o (by decide)) rfl (by omega) (by decide) ?_
                refine j_iconst (v := nI 2) d_Mo_execute_233 (by decide +kernel) ?_
                first | refine nn_icmp_ne (t := 267) d_Mo_execute_234 (by decide) (by omega) (by omega) (fun c234 => ?_) (fun c234 => ?_) | refine mm_icmp_ne (t := 267) d_Mo_execute_234 (by decide) (by omega) (by omega) (fun c234 => ?_) (fun c234 => ?_) | refine mn_icmp_ne (t := 267) d_Mo_execute_234 (by decide) (by omega) (by omega) (fun c234 => ?_) (fun c234 => ?_) | refine nm_icmp_ne (t := 267) d_Mo_execute_234 (by decide) (by omega) (by omega) (fun c234 => ?_) (fun c234 => ?_) | refine j_icmp_ne (t := 267) d_Mo_execute_234 (by decide) (fun c234 => ?_) (fun c234 => ?_)
                · refine j_iload d_Mo_execute_267 rfl ?_
                  refine j_if_eq (t := 290) d_Mo_execute_269 (by decide) (fun q => absurd q (by decide +kernel)) (fun _ => ?_)
                  first | refine j_aload_n d_Mo_execute_272 rfl ?_ | refine j_aload_nq d_Mo_execute_272 rfl ?_ | refine j_aload_nN d_Mo_execute_272 rfl ?_
                  refine j_get d_Mo_execute_273 f_Mo_25 (hM_o (by decide)) rfl ?_
                  refine j_iload_n d_Mo_execute_276 rfl ?_
                  refine j_iald (t := 0) d_Mo_execute_277 rfl (hM_o (by decide)) rfl (by omega) (by decide) ?_
                  refine j_iconst (v := nI 1) d_Mo_execute_278 (by decide +kernel) ?_
                  first | refine nn_icmp_ne (t := 290) d_Mo_execute_279 (by decide) (by omega) (by omega) (fun c279 => ?_) (fun c279 => ?_) | refine mm_icmp_ne (t := 290) d_Mo_execute_279 (by decide) (by omega) (by omega) (fun c279 => ?_) (fun c279 => ?_) | refine mn_icmp_ne (t := 290) d_Mo_execute_279 (by decide) (by omega) (by omega) (fun c279 => ?_) (fun c279 => ?_) | refine nm_icmp_ne (t := 290) d_Mo_execute_279 (by decide) (by omega) (by omega) (fun c279 => ?_) (fun c279 => ?_) | refine j_icmp_ne (t := 290) d_Mo_execute_279 (by decide) (fun c279 => ?_) (fun c279 => ?_)
                  · exfalso; first | exact c279 | omega
                  · exfalso; omega
                · exfalso; first | exact c234 | omega
            · exfalso; first | exact c174 | omega
      · refine j_iload d_Mo_execute_118 rfl ?_
        first | refine j_aload_n d_Mo_execute_120 rfl ?_ | refine j_aload_nq d_Mo_execute_120 rfl ?_ | refine j_aload_nN d_Mo_execute_120 rfl ?_
        refine j_get d_Mo_execute_121 f_Mo_13 (hM_o (by decide)) rfl ?_
        refine j_iload_n d_Mo_execute_124 rfl ?_
        refine j_iald (t := 0) d_Mo_execute_125 rfl (hM_o (by decide)) rfl (by omega) (by decide) ?_
        first | refine nn_icmp_ne (t := 133) d_Mo_execute_126 (by decide) (by omega) (by omega) (fun c126 => ?_) (fun c126 => ?_) | refine mm_icmp_ne (t := 133) d_Mo_execute_126 (by decide) (by omega) (by omega) (fun c126 => ?_) (fun c126 => ?_) | refine mn_icmp_ne (t := 133) d_Mo_execute_126 (by decide) (by omega) (by omega) (fun c126 => ?_) (fun c126 => ?_) | refine nm_icmp_ne (t := 133) d_Mo_execute_126 (by decide) (by omega) (by omega) (fun c126 => ?_) (fun c126 => ?_) | refine j_icmp_ne (t := 133) d_Mo_execute_126 (by decide) (fun c126 => ?_) (fun c126 => ?_)
        · refine j_iconst (v := nI 0) d_Mo_execute_133 (by decide +kernel) ?_
          refine j_istore (lc' := [_, _, _, _, _, _, _, _, _, _]) d_Mo_execute_134 (by decide) rfl rfl ?_
          refine j_iload d_Mo_execute_136 rfl ?_
          refine j_iconst (v := nI 2) d_Mo_execute_138 (by decide +kernel) ?_
          refine jn_idiv d_Mo_execute_139 (by omega) (by decide) (by decide) ?_
          refine j_iconst (v := nI 2) d_Mo_execute_140 (by decide +kernel) ?_
          refine j_iload_n d_Mo_execute_141 rfl ?_
          refine jn_iadd d_Mo_execute_142 ?_
          first | refine nn_icmp_ne (t := 160) d_Mo_execute_143 (by decide) (by omega) (by omega) (fun c143 => ?_) (fun c143 => ?_) | refine mm_icmp_ne (t := 160) d_Mo_execute_143 (by decide) (by omega) (by omega) (fun c143 => ?_) (fun c143 => ?_) | refine mn_icmp_ne (t := 160) d_Mo_execute_143 (by decide) (by omega) (by omega) (fun c143 => ?_) (fun c143 => ?_) | refine nm_icmp_ne (t := 160) d_Mo_execute_143 (by decide) (by omega) (by omega) (fun c143 => ?_) (fun c143 => ?_) | refine j_icmp_ne (t := 160) d_Mo_execute_143 (by decide) (fun c143 => ?_) (fun c143 => ?_)
          · refine j_iconst (v := nI 0) d_Mo_execute_160 (by decide +kernel) ?_
            refine j_istore (lc' := [_, _, _, _, _, _, _, _, _, _]) d_Mo_execute_161 (by decide) rfl rfl ?_
            refine j_iload d_Mo_execute_163 rfl ?_
            refine j_if_eq (t := 199) d_Mo_execute_165 (by decide) (fun _ => ?_) (fun q => absurd q (by decide +kernel))
            refine j_iload d_Mo_execute_199 rfl ?_
            refine j_if_eq (t := 222) d_Mo_execute_201 (by decide) (fun _ => ?_) (fun q => absurd q (by decide +kernel))
            refine j_iload d_Mo_execute_222 rfl ?_
            refine j_if_eq (t := 267) d_Mo_execute_224 (by decide) (fun _ => ?_) (fun q => absurd q (by decide +kernel))
            refine j_iload d_Mo_execute_267 rfl ?_
            refine j_if_eq (t := 290) d_Mo_execute_269 (by decide) (fun _ => ?_) (fun q => absurd q (by decide +kernel))
            refine n_iinc (k := 2) (lc' := [_, _, _, _, _, _, _, _, _, _]) d_Mo_execute_290 (by decide +kernel) rfl (by decide) rfl rfl ?_
            refine j_goto (t := 91) d_Mo_execute_293 (by decide) ?_
            exact ih (j + 1) _ _ _ _ (by omega) (by omega) (by rw [exSp, ifP_f (show ¬ inp σ t (p / 4 + 2 * j) from by rintro (z | z) <;> omega), ifP_f (show ¬ mad σ t (p / 4 + 2 * j) from by unfold mad; omega), ← hτ])
          · first | refine j_aload_n d_Mo_execute_146 rfl ?_ | refine j_aload_nq d_Mo_execute_146 rfl ?_ | refine j_aload_nN d_Mo_execute_146 rfl ?_
            refine j_get d_Mo_execute_147 f_Mo_19 (hM_o (by decide)) rfl ?_
            refine j_iload d_Mo_execute_150 rfl ?_
            refine j_iald (t := 0) d_Mo_execute_152 rfl (hM_o (by decide)) rfl (by omega) (by decide) ?_
            first | refine n_if_le (t := 160) d_Mo_execute_153 (by decide) (by omega) (fun c153 => ?_) (fun c153 => ?_) | refine j_if_le (t := 160) d_Mo_execute_153 (by decide) (fun c153 => ?_) (fun c153 => ?_)
            · refine j_iconst (v := nI 0) d_Mo_execute_160 (by decide +kernel) ?_
              refine j_istore (lc' := [_, _, _, _, _, _, _, _, _, _]) d_Mo_execute_161 (by decide) rfl rfl ?_
              refine j_iload d_Mo_execute_163 rfl ?_
              refine j_if_eq (t := 199) d_Mo_execute_165 (by decide) (fun _ => ?_) (fun q => absurd q (by decide +kernel))
              refine j_iload d_Mo_execute_199 rfl ?_
              refine j_if_eq (t := 222) d_Mo_execute_201 (by decide) (fun _ => ?_) (fun q => absurd q (by decide +kernel))
              refine j_iload d_Mo_execute_222 rfl ?_
              refine j_if_eq (t := 267) d_Mo_execute_224 (by decide) (fun _ => ?_) (fun q => absurd q (by decide +kernel))
              refine j_iload d_Mo_execute_267 rfl ?_
              refine j_if_eq (t := 290) d_Mo_execute_269 (by decide) (fun _ => ?_) (fun q => absurd q (by decide +kernel))
              refine n_iinc (k := 2) (lc' := [_, _, _, _, _, _, _, _, _, _]) d_Mo_execute_290 (by decide +kernel) rfl (by decide) rfl rfl ?_
              refine j_goto (t := 91) d_Mo_execute_293 (by decide) ?_
              exact ih (j + 1) _ _ _ _ (by omega) (by omega) (by rw [exSp, ifP_f (show ¬ inp σ t (p / 4 + 2 * j) from by rintro (z | z) <;> omega), ifP_f (show ¬ mad σ t (p / 4 + 2 * j) from by unfold mad; omega), ← hτ])
            · refine j_iconst (v := nI 1) d_Mo_execute_156 (by decide +kernel) ?_
              refine j_goto (t := 161) d_Mo_execute_157 (by decide) ?_
              refine j_istore (lc' := [_, _, _, _, _, _, _, _, _, _]) d_Mo_execute_161 (by decide) rfl rfl ?_
              refine j_iload d_Mo_execute_163 rfl ?_
              refine j_if_eq (t := 199) d_Mo_execute_165 (by decide) (fun _ => ?_) (fun q => absurd q (by decide +kernel))
              refine j_iload d_Mo_execute_199 rfl ?_
              refine j_if_eq (t := 222) d_Mo_execute_201 (by decide) (fun _ => ?_) (fun q => absurd q (by decide +kernel))
              refine j_iload d_Mo_execute_222 rfl ?_
              refine j_if_eq (t := 267) d_Mo_execute_224 (by decide) (fun _ => ?_) (fun q => absurd q (by decide +kernel))
              refine j_iload d_Mo_execute_267 rfl ?_
              refine j_if_eq (t := 290) d_Mo_execute_269 (by decide) (fun q => absurd q (by decide +kernel)) (fun _ => ?_)
              first | refine j_aload_n d_Mo_execute_272 rfl ?_ | refine j_aload_nq d_Mo_execute_272 rfl ?_ | refine j_aload_nN d_Mo_execute_272 rfl ?_
              refine j_get d_Mo_execute_273 f_Mo_25 (hM_o (by decide)) rfl ?_
              refine j_iload_n d_Mo_execute_276 rfl ?_
              refine j_iald (t := 0) d_Mo_execute_277 rfl (hM_o (by decide)) rfl (by omega) (by decide) ?_
              refine j_iconst (v := nI 1) d_Mo_execute_278 (by decide +kernel) ?_
              first | refine nn_icmp_ne (t := 290) d_Mo_execute_279 (by decide) (by omega) (by omega) (fun c279 => ?_) (fun c279 => ?_) | refine mm_icmp_ne (t := 290) d_Mo_execute_279 (by decide) (by omega) (by omega) (fun c279 => ?_) (fun c279 => ?_) | refine mn_icmp_ne (t := 290) d_Mo_execute_279 (by decide) (by omega) (by omega) (fun c279 => ?_) (fun c279 => ?_) | refine nm_icmp_ne (t := 290) d_Mo_execute_279 (by decide) (by omega) (by omega) (fun c279 => ?_) (fun c279 => ?_) | refine j_icmp_ne (t := 290) d_Mo_execute_279 (by decide) (fun c279 => ?_) (fun c279 => ?_)
              · exfalso; first | exact c279 | omega
              · first | refine j_aload_n d_Mo_execute_282 rfl ?_ | refine j_aload_nq d_Mo_execute_282 rfl ?_ | refine j_aload_nN d_Mo_execute_282 rfl ?_
                refine j_get d_Mo_execute_283 f_Mo_31 (hM_o (by decide)) rfl ?_
                refine j_iload d_Mo_execute_286 rfl ?_
                refine j_iconst (v := nI 1) d_Mo_execute_288 (by decide +kernel) ?_
                refine j_iast (t := 0) d_Mo_execute_289 rfl (hM_o (by decide)) rfl (by omega) (by decide) (J.hq (o8 (by omega)) ?_)
                refine n_iinc (k := 2) (lc' := [_, _, _, _, _, _, _, _, _, _]) d_Mo_execute_290 (by decide +kernel) rfl (by decide) rfl rfl ?_
                refine j_goto (t := 91) d_Mo_execute_293 (by decide) ?_
                exact ih (j + 1) _ _ _ _ (by omega) (by omega) (by rw [exSp, ifP_f (show ¬ inp σ t (p / 4 + 2 * j) from by rintro (z | z) <;> omega), ifP_t (show mad σ t (p / 4 + 2 * j) from by unfold mad; omega), ← hτ])
        · refine j_iconst (v := nI 1) d_Mo_execute_129 (by decide +kernel) ?_
          refine j_goto (t := 134) d_Mo_execute_130 (by decide) ?_
          refine j_istore (lc' := [_, _, _, _, _, _, _, _, _, _]) d_Mo_execute_134 (by decide) rfl rfl ?_
          refine j_iload d_Mo_execute_136 rfl ?_
          refine j_iconst (v := nI 2) d_Mo_execute_138 (by decide +kernel) ?_
          refine jn_idiv d_Mo_execute_139 (by omega) (by decide) (by decide) ?_
          refine j_iconst (v := nI 2) d_Mo_execute_140 (by decide +kernel) ?_
          refine j_iload_n d_Mo_execute_141 rfl ?_
          refine jn_iadd d_Mo_execute_142 ?_
          first | refine nn_icmp_ne (t := 160) d_Mo_execute_143 (by decide) (by omega) (by omega) (fun c143 => ?_) (fun c143 => ?_) | refine mm_icmp_ne (t := 160) d_Mo_execute_143 (by decide) (by omega) (by omega) (fun c143 => ?_) (fun c143 => ?_) | refine mn_icmp_ne (t := 160) d_Mo_execute_143 (by decide) (by omega) (by omega) (fun c143 => ?_) (fun c143 => ?_) | refine nm_icmp_ne (t := 160) d_Mo_execute_143 (by decide) (by omega) (by omega) (fun c143 => ?_) (fun c143 => ?_) | refine j_icmp_ne (t := 160) d_Mo_execute_143 (by decide) (fun c143 => ?_) (fun c143 => ?_)
          · refine j_iconst (v := nI 0) d_Mo_execute_160 (by decide +kernel) ?_
            refine j_istore (lc' := [_, _, _, _, _, _, _, _, _, _]) d_Mo_execute_161 (by decide) rfl rfl ?_
            refine j_iload d_Mo_execute_163 rfl ?_
            refine j_if_eq (t := 199) d_Mo_execute_165 (by decide) (fun q => absurd q (by decide +kernel)) (fun _ => ?_)
            first | refine j_aload_n d_Mo_execute_168 rfl ?_ | refine j_aload_nq d_Mo_execute_168 rfl ?_ | refine j_aload_nN d_Mo_execute_168 rfl ?_
            refine j_get d_Mo_execute_169 f_Mo_25 (hM_o (by decide)) rfl ?_
            refine j_iload_n d_Mo_execute_172 rfl ?_
            refine j_iald (t := 0) d_Mo_execute_173 rfl (hM_o (by decide)) rfl (by omega) (by decide) ?_
            first | refine c_if_ne (t := 199) d_Mo_execute_174 (by decide) (fun c174 => ?_) (fun c174 => ?_) | refine n_if_ne (t := 199) d_Mo_execute_174 (by decide) (by omega) (fun c174 => ?_) (fun c174 => ?_) | refine j_if_ne (t := 199) d_Mo_execute_174 (by decide) (fun c174 => ?_) (fun c174 => ?_)
            · refine j_iload d_Mo_execute_199 rfl ?_
              refine j_if_eq (t := 222) d_Mo_execute_201 (by decide) (fun q => absurd q (by decide +kernel)) (fun _ => ?_)
              first | refine j_aload_n d_Mo_execute_204 rfl ?_ | refine j_aload_nq d_Mo_execute_204 rfl ?_ | refine j_aload_nN d_Mo_execute_204 rfl ?_
              refine j_get d_Mo_execute_205 f_Mo_25 (hM_o (by decide)) rfl ?_
              refine j_iload_n d_Mo_execute_208 rfl ?_
              refine j_iald (t := 0) d_Mo_execute_209 rfl (hM_o (by decide)) rfl (by omega) (by decide) ?_
              refine j_iconst (v := nI 1) d_Mo_execute_210 (by decide +kernel) ?_
              first | refine nn_icmp_ne (t := 222) d_Mo_execute_211 (by decide) (by omega) (by omega) (fun c211 => ?_) (fun c211 => ?_) | refine mm_icmp_ne (t := 222) d_Mo_execute_211 (by decide) (by omega) (by omega) (fun c211 => ?_) (fun c211 => ?_) | refine mn_icmp_ne (t := 222) d_Mo_execute_211 (by decide) (by omega) (by omega) (fun c211 => ?_) (fun c211 => ?_) | refine nm_icmp_ne (t := 222) d_Mo_execute_211 (by decide) (by omega) (by omega) (fun c211 => ?_) (fun c211 => ?_) | refine j_icmp_ne (t := 222) d_Mo_execute_211 (by decide) (fun c211 => ?_) (fun c211 => ?_)
              · exfalso; first | exact c211 | omega
              · first | refine j_aload_n d_Mo_execute_214 rfl ?_ | refine j_aload_nq d_Mo_execute_214 rfl ?_ | refine j_aload_nN d_Mo_execute_214 rfl ?_
                refine j_get d_Mo_execute_215 f_Mo_31 (hM_o (by decide)) rfl ?_
                refine j_iload d_Mo_execute_218 rfl ?_
                refine j_iconst (v := nI 3) d_Mo_execute_220 (by decide +kernel) ?_
                refine j_iast (t := 0) d_Mo_execute_221 rfl (hM_o (by decide)) rfl (by omega) (by decide) (J.hq (o8 (by omega)) ?_)
                generalize hτ' : U τ 8 p (p / 4 + 2 * j) 3 = τ'
                have e6 : τ' 6 0 q = 1 := by rw [← hτ']; exact e6
                refine j_iload d_Mo_execute_222 rfl ?_
                refine j_if_eq (t := 267) d_Mo_execute_224 (by decide) (fun q => absurd q (by decide +kernel)) (fun _ => ?_)
                first | refine j_aload_n d_Mo_execute_227 rfl ?_ | refine j_aload_nq d_Mo_execute_227 rfl ?_ | refine j_aload_nN d_Mo_execute_227 rfl ?_
                refine j_get d_Mo_execute_228 f_Mo_25 (hM_o (by decide)) rfl ?_
                refine j_iload_n d_Mo_execute_231 rfl ?_
                refine j_iald (t := 0) d_Mo_execute_232 rfl (hM_o (by decide)) rfl (by omega) (by decide) ?_
                refine j_iconst (v := nI 2) d_Mo_execute_233 (by decide +kernel) ?_
                first | refine nn_icmp_ne (t := 267) d_Mo_execute_234 (by decide) (by omega) (by omega) (fun c234 => ?_) (fun c234 => ?_) | refine mm_icmp_ne (t := 267) d_Mo_execute_234 (by decide) (by omega) (by omega) (fun c234 => ?_) (fun c234 => ?_) | refine mn_icmp_ne (t := 267) d_Mo_execute_234 (by decide) (by omega) (by omega) (fun c234 => ?_) (fun c234 => ?_) | refine nm_icmp_ne (t := 267) d_Mo_execute_234 (by decide) (by omega) (by omega) (fun c234 => ?_) (fun c234 => ?_) | refine j_icmp_ne (t := 267) d_Mo_execute_234 (by decide) (fun c234 => ?_) (fun c234 => ?_)
                · refine j_iload d_Mo_execute_267 rfl ?_
                  refine j_if_eq (t := 290) d_Mo_execute_269 (by decide) (fun _ => ?_) (fun q => absurd q (by decide +kernel))
                  refine n_iinc (k := 2) (lc' := [_, _, _, _, _, _, _, _, _, _]) d_Mo_execute_290 (by decide +kernel) rfl (by decide) rfl rfl ?_
                  refine j_goto (t := 91) d_Mo_execute_293 (by decide) ?_
                  exact ih (j + 1) _ _ _ _ (by omega) (by omega) (by rw [← hτ', exSp, ifP_t (show inp σ t (p / 4 + 2 * j) from Or.inr (by omega)), ← hτ])
                · exfalso; first | exact c234 | omega
            · exfalso; first | exact c174 | omega
          · first | refine j_aload_n d_Mo_execute_146 rfl ?_ | refine j_aload_nq d_Mo_execute_146 rfl ?_ | refine j_aload_nN d_Mo_execute_146 rfl ?_
            refine j_get d_Mo_execute_147 f_Mo_19 (hM_o (by decide)) rfl ?_
            refine j_iload d_Mo_execute_150 rfl ?_
            refine j_iald (t := 0) d_Mo_execute_152 rfl (hM_o (by decide)) rfl (by omega) (by decide) ?_
            first | refine n_if_le (t := 160) d_Mo_execute_153 (by decide) (by omega) (fun c153 => ?_) (fun c153 => ?_) | refine j_if_le (t := 160) d_Mo_execute_153 (by decide) (fun c153 => ?_) (fun c153 => ?_)
            · refine j_iconst (v := nI 0) d_Mo_execute_160 (by decide +kernel) ?_
              refine j_istore (lc' := [_, _, _, _, _, _, _, _, _, _]) d_Mo_execute_161 (by decide) rfl rfl ?_
              refine j_iload d_Mo_execute_163 rfl ?_
              refine j_if_eq (t := 199) d_Mo_execute_165 (by decide) (fun q => absurd q (by decide +kernel)) (fun _ => ?_)
              first | refine j_aload_n d_Mo_execute_168 rfl ?_ | refine j_aload_nq d_Mo_execute_168 rfl ?_ | refine j_aload_nN d_Mo_execute_168 rfl ?_
              refine j_get d_Mo_execute_169 f_Mo_25 (hM_o (by decide)) rfl ?_
              refine j_iload_n d_Mo_execute_172 rfl ?_
              refine j_iald (t := 0) d_Mo_execute_173 rfl (hM_o (by decide)) rfl (by omega) (by decide) ?_
              first | refine c_if_ne (t := 199) d_Mo_execute_174 (by decide) (fun c174 => ?_) (fun c174 => ?_) | refine n_if_ne (t := 199) d_Mo_execute_174 (by decide) (by omega) (fun c174 => ?_) (fun c174 => ?_) | refine j_if_ne (t := 199) d_Mo_execute_174 (by decide) (fun c174 => ?_) (fun c174 => ?_)
              · refine j_iload d_Mo_execute_199 rfl ?_
                refine j_if_eq (t := 222) d_Mo_execute_201 (by decide) (fun q => absurd q (by decide +kernel)) (fun _ => ?_)
                first | refine j_aload_n d_Mo_execute_204 rfl ?_ | refine j_aload_nq d_Mo_execute_204 rfl ?_ | refine j_aload_nN d_Mo_execute_204 rfl ?_
                refine j_get d_Mo_execute_205 f_Mo_25 (hM_o (by decide)) rfl ?_
                refine j_iload_n d_Mo_execute_208 rfl ?_
                refine j_iald (t := 0) d_Mo_execute_209 rfl (hM_o (by decide)) rfl (by omega) (by decide) ?_
                refine j_iconst (v := nI 1) d_Mo_execute_210 (by decide +kernel) ?_
                first | refine nn_icmp_ne (t := 222) d_Mo_execute_211 (by decide) (by omega) (by omega) (fun c211 => ?_) (fun c211 => ?_) | refine mm_icmp_ne (t := 222) d_Mo_execute_211 (by decide) (by omega) (by omega) (fun c211 => ?_) (fun c211 => ?_) | refine mn_icmp_ne (t := 222) d_Mo_execute_211 (by decide) (by omega) (by omega) (fun c211 => ?_) (fun c211 => ?_) | refine nm_icmp_ne (t := 222) d_Mo_execute_211 (by decide) (by omega) (by omega) (fun c211 => ?_) (fun c211 => ?_) | refine j_icmp_ne (t := 222) d_Mo_execute_211 (by decide) (fun c211 => ?_) (fun c211 => ?_)
                · exfalso; first | exact c211 | omega
                · first | refine j_aload_n d_Mo_execute_214 rfl ?_ | refine j_aload_nq d_Mo_execute_214 rfl ?_ | refine j_aload_nN d_Mo_execute_214 rfl ?_
                  refine j_get d_Mo_execute_215 f_Mo_31 (hM_o (by decide)) rfl ?_
                  refine j_iload d_Mo_execute_218 rfl ?_
                  refine j_iconst (v := nI 3) d_Mo_execute_220 (by decide +kernel) ?_
                  refine j_iast (t := 0) d_Mo_execute_221 rfl (hM_o (by decide)) rfl (by omega) (by decide) (J.hq (o8 (by omega)) ?_)
                  generalize hτ' : U τ 8 p (p / 4 + 2 * j) 3 = τ'
                  have e6 : τ' 6 0 q = 1 := by rw [← hτ']; exact e6
                  refine j_iload d_Mo_execute_222 rfl ?_
                  refine j_if_eq (t := 267) d_Mo_execute_224 (by decide) (fun q => absurd q (by decide +kernel)) (fun _ => ?_)
                  first | refine j_aload_n d_Mo_execute_227 rfl ?_ | refine j_aload_nq d_Mo_execute_227 rfl ?_ | refine j_aload_nN d_Mo_execute_227 rfl ?_
                  refine j_get d_Mo_execute_228 f_Mo_25 (hM_o (by decide)) rfl ?_
                  refine j_iload_n d_Mo_execute_231 rfl ?_
                  refine j_iald (t := 0) d_Mo_execute_232 rfl (hM_o (by decide)) rfl (by omega) (by decide) ?_
                  refine j_iconst (v := nI 2) d_Mo_execute_233 (by decide +kernel) ?_
                  first | refine nn_icmp_ne (t := 267) d_Mo_execute_234 (by decide) (by omega) (by omega) (fun c234 => ?_) (fun c234 => ?_) | refine mm_icmp_ne (t := 267) d_Mo_execute_234 (by decide) (by omega) (by omega) (fun c234 => ?_) (fun c234 => ?_) | refine mn_icmp_ne (t := 267) d_Mo_execute_234 (by decide) (by omega) (by omega) (fun c234 => ?_) (fun c234 => ?_) | refine nm_icmp_ne (t := 267) d_Mo_execute_234 (by decide) (by omega) (by omega) (fun c234 => ?_) (fun c234 => ?_) | refine j_icmp_ne (t := 267) d_Mo_execute_234 (by decide) (fun c234 => ?_) (fun c234 => ?_)
                  · refine j_iload d_Mo_execute_267 rfl ?_
                    refine j_if_eq (t := 290) d_Mo_execute_269 (by decide) (fun _ => ?_) (fun q => absurd q (by decide +kernel))
                    refine n_iinc (k := 2) (lc' := [_, _, _, _, _, _, _, _, _, _]) d_Mo_execute_290 (by decide +kernel) rfl (by decide) rfl rfl ?_
                    refine j_goto (t := 91) d_Mo_execute_293 (by decide) ?_
                    exact ih (j + 1) _ _ _ _ (by omega) (by omega) (by rw [← hτ', exSp, ifP_t (show inp σ t (p / 4 + 2 * j) from Or.inr (by omega)), ← hτ])
                  · exfalso; first | exact c234 | omega
              · exfalso; first | exact c174 | omega
            · refine j_iconst (v := nI 1) d_Mo_execute_156 (by decide +kernel) ?_
              refine j_goto (t := 161) d_Mo_execute_157 (by decide) ?_
              refine j_istore (lc' := [_, _, _, _, _, _, _, _, _, _]) d_Mo_execute_161 (by decide) rfl rfl ?_
              refine j_iload d_Mo_execute_163 rfl ?_
              refine j_if_eq (t := 199) d_Mo_execute_165 (by decide) (fun q => absurd q (by decide +kernel)) (fun _ => ?_)
              first | refine j_aload_n d_Mo_execute_168 rfl ?_ | refine j_aload_nq d_Mo_execute_168 rfl ?_ | refine j_aload_nN d_Mo_execute_168 rfl ?_
              refine j_get d_Mo_execute_169 f_Mo_25 (hM_o (by decide)) rfl ?_
              refine j_iload_n d_Mo_execute_172 rfl ?_
              refine j_iald (t := 0) d_Mo_execute_173 rfl (hM_o (by decide)) rfl (by omega) (by decide) ?_
              first | refine c_if_ne (t := 199) d_Mo_execute_174 (by decide) (fun c174 => ?_) (fun c174 => ?_) | refine n_if_ne (t := 199) d_Mo_execute_174 (by decide) (by omega) (fun c174 => ?_) (fun c174 => ?_) | refine j_if_ne (t := 199) d_Mo_execute_174 (by decide) (fun c174 => ?_) (fun c174 => ?_)
              · refine j_iload d_Mo_execute_199 rfl ?_
                refine j_if_eq (t := 222) d_Mo_execute_201 (by decide) (fun q => absurd q (by decide +kernel)) (fun _ => ?_)
                first | refine j_aload_n d_Mo_execute_204 rfl ?_ | refine j_aload_nq d_Mo_execute_204 rfl ?_ | refine j_aload_nN d_Mo_execute_204 rfl ?_
                refine j_get d_Mo_execute_205 f_Mo_25 (hM_o (by decide)) rfl ?_
                refine j_iload_n d_Mo_execute_208 rfl ?_
                refine j_iald (t := 0) d_Mo_execute_209 rfl (hM_o (by decide)) rfl (by omega) (by decide) ?_
                refine j_iconst (v := nI 1) d_Mo_execute_210 (by decide +kernel) ?_
                first | refine nn_icmp_ne (t := 222) d_Mo_execute_211 (by decide) (by omega) (by omega) (fun c211 => ?_) (fun c211 => ?_) | refine mm_icmp_ne (t := 222) d_Mo_execute_211 (by decide) (by omega) (by omega) (fun c211 => ?_) (fun c211 => ?_) | refine mn_icmp_ne (t := 222) d_Mo_execute_211 (by decide) (by omega) (by omega) (fun c211 => ?_) (fun c211 => ?_) | refine nm_icmp_ne (t := 222) d_Mo_execute_211 (by decide) (by omega) (by omega) (fun c211 => ?_) (fun c211 => ?_) | refine j_icmp_ne (t := 222) d_Mo_execute_211 (by decide) (fun c211 => ?_) (fun c211 => ?_)
                · exfalso; first | exact c211 | omega
                · first | refine j_aload_n d_Mo_execute_214 rfl ?_ | refine j_aload_nq d_Mo_execute_214 rfl ?_ | refine j_aload_nN d_Mo_execute_214 rfl ?_
                  refine j_get d_Mo_execute_215 f_Mo_31 (hM_o (by decide)) rfl ?_
                  refine j_iload d_Mo_execute_218 rfl ?_
                  refine j_iconst (v := nI 3) d_Mo_execute_220 (by decide +kernel) ?_
                  refine j_iast (t := 0) d_Mo_execute_221 rfl (hM_o (by decide)) rfl (by omega) (by decide) (J.hq (o8 (by omega)) ?_)
                  generalize hτ' : U τ 8 p (p / 4 + 2 * j) 3 = τ'
                  have e6 : τ' 6 0 q = 1 := by rw [← hτ']; exact e6
                  refine j_iload d_Mo_execute_222 rfl ?_
                  refine j_if_eq (t := 267) d_Mo_execute_224 (by decide) (fun q => absurd q (by decide +kernel)) (fun _ => ?_)
                  first | refine j_aload_n d_Mo_execute_227 rfl ?_ | refine j_aload_nq d_Mo_execute_227 rfl ?_ | refine j_aload_nN d_Mo_execute_227 rfl ?_
                  refine j_get d_Mo_execute_228 f_Mo_25 (hM_o (by decide)) rfl ?_
                  refine j_iload_n d_Mo_execute_231 rfl ?_
                  refine j_iald (t := 0) d_Mo_execute_232 rfl (hM_o (by decide)) rfl (by omega) (by decide) ?_
                  refine j_iconst (v := nI 2) d_Mo_execute_233 (by decide +kernel) ?_
                  first | refine nn_icmp_ne (t := 267) d_Mo_execute_234 (by decide) (by omega) (by omega) (fun c234 => ?_) (fun c234 => ?_) | refine mm_icmp_ne (t := 267) d_Mo_execute_234 (by decide) (by omega) (by omega) (fun c234 => ?_) (fun c234 => ?_) | refine mn_icmp_ne (t := 267) d_Mo_execute_234 (by decide) (by omega) (by omega) (fun c234 => ?_) (fun c234 => ?_) | refine nm_icmp_ne (t := 267) d_Mo_execute_234 (by decide) (by omega) (by omega) (fun c234 => ?_) (fun c234 => ?_) | refine j_icmp_ne (t := 267) d_Mo_execute_234 (by decide) (fun c234 => ?_) (fun c234 => ?_)
                  · refine j_iload d_Mo_execute_267 rfl ?_
                    refine j_if_eq (t := 290) d_Mo_execute_269 (by decide) (fun q => absurd q (by decide +kernel)) (fun _ => ?_)
                    first | refine j_aload_n d_Mo_execute_272 rfl ?_ | refine j_aload_nq d_Mo_execute_272 rfl ?_ | refine j_aload_nN d_Mo_execute_272 rfl ?_
                    refine j_get d_Mo_execute_273 f_Mo_25 (hM_o (by decide)) rfl ?_
                    refine j_iload_n d_Mo_execute_276 rfl ?_
                    refine j_iald (t := 0) d_Mo_execute_277 rfl (hM_o (by decide)) rfl (by omega) (by decide) ?_
                    refine j_iconst (v := nI 1) d_Mo_execute_278 (by decide +kernel) ?_
                    first | refine nn_icmp_ne (t := 290) d_Mo_execute_279 (by decide) (by omega) (by omega) (fun c279 => ?_) (fun c279 => ?_) | refine mm_icmp_ne (t := 290) d_Mo_execute_279 (by decide) (by omega) (by omega) (fun c279 => ?_) (fun c279 => ?_) | refine mn_icmp_ne (t := 290) d_Mo_execute_279 (by decide) (by omega) (by omega) (fun c279 => ?_) (fun c279 => ?_) | refine nm_icmp_ne (t := 290) d_Mo_execute_279 (by decide) (by omega) (by omega) (fun c279 => ?_) (fun c279 => ?_) | refine j_icmp_ne (t := 290) d_Mo_execute_279 (by decide) (fun c279 => ?_) (fun c279 => ?_)
                    · exfalso; first | exact c279 | omega
                    · exfalso; omega
                  · exfalso; first | exact c234 | omega
              · exfalso; first | exact c174 | omega

set_option maxHeartbeats 4000000 in
set_option maxRecDepth 100000 in
theorem lp_ex_k2 {l : Launch} {D : va_G} {M nx : Nat} {L : Int32} {σ ρ : Sg} {g : Nat → Option va_E} {p : Nat} (hp : p < 8) (hb : bd σ) (q t : Nat) (hq : q < 32) (ht : t < 8) (h16 : σ 10 p 0 < 16) (hk : σ 6 0 q = 2) : ∀ (m : Nat) (j : Nat) (τ : Sg) (x7 x8 x9 : Option Value), j ≤ 10 → 10 - j < m → τ = exFr σ p t j → J (G0 l D) jT m_Mo_execute 0 (fun v h => v = none ∧ h = (hM D M L (xT (exFr σ p t 10) p (σ 10 p 0) q (1)) ρ g, nx)) 0 0 91 [some (.ref (M + 0)), some (.int (nI p)), some (.int (nI q)), some (.int (nI t)), some (.int (nI (p / 4))), some (.int (nI 1)), some (.int (nI (p / 4 + 2 * j))), x7, x8, x9] [] (hM D M L τ ρ g, nx) := by
  intro m
  induction m with
  | zero =>
    intros
    exfalso
    omega
  | succ m ih =>
    intro j τ x7 x8 x9 h1 h2 hτ
    have ne : ∀ f, f ≠ 8 → f ≠ 9 → τ f = σ f := fun f h8 h9 => by rw [hτ]; exact exFr_ne h8 _
    have e6 : τ 6 0 q = 2 := by rw [ne 6 (by decide) (by decide)]; exact hk
    have e1 : τ 1 0 t = σ 1 0 t := by rw [ne 1 (by decide) (by decide)]
    have e2 : τ 2 0 t = σ 2 0 t := by rw [ne 2 (by decide) (by decide)]
    have e4 : τ 4 0 (p / 4 + 2 * j) = σ 4 0 (p / 4 + 2 * j) := by rw [ne 4 (by decide) (by decide)]
    have b1 := hb 1 0 t
    have b2 := hb 2 0 t
    have b4 := hb 4 0 (p / 4 + 2 * j)
    have b8 : τ 8 p (p / 4 + 2 * j) < 100000 := by rw [hτ]; exact exFr_bd hb j _ _ _
    have b9 : τ 9 p (p / 4 + 2 * j) < 100000 := by rw [hτ]; exact exFr_bd hb j _ _ _
    refine j_iload d_Mo_execute_91 rfl ?_
    refine j_bipush (v := nI 20) d_Mo_execute_93 (by decide +kernel) ?_
    first | refine nn_icmp_ge (t := 296) d_Mo_execute_95 (by decide) (by omega) (by omega) (fun c95 => ?_) (fun c95 => ?_) | refine mm_icmp_ge (t := 296) d_Mo_execute_95 (by decide) (by omega) (by omega) (fun c95 => ?_) (fun c95 => ?_) | refine mn_icmp_ge (t := 296) d_Mo_execute_95 (by decide) (by omega) (by omega) (fun c95 => ?_) (fun c95 => ?_) | refine nm_icmp_ge (t := 296) d_Mo_execute_95 (by decide) (by omega) (by omega) (fun c95 => ?_) (fun c95 => ?_) | refine j_icmp_ge (t := 296) d_Mo_execute_95 (by decide) (fun c95 => ?_) (fun c95 => ?_)
    · have hj : j = 10 := by omega
      subst hj
      rw [← hτ]
      exact lp_ex_end hp q 1 hq (by rw [hτ]; exact exFr_ne (by decide) _) h16 _ _ _ _ _
    · refine j_bipush (v := nI 20) d_Mo_execute_98 (by decide +kernel) ?_
      refine j_iload_n d_Mo_execute_100 rfl ?_
      refine jn_imul d_Mo_execute_101 ?_
      refine j_iload d_Mo_execute_102 rfl ?_
      refine jn_iadd d_Mo_execute_104 ?_
      refine j_istore (lc' := [_, _, _, _, _, _, _, _, _, _]) d_Mo_execute_105 (by decide) rfl rfl ?_
      refine j_iload d_Mo_execute_107 rfl ?_
      first | refine j_aload_n d_Mo_execute_109 rfl ?_ | refine j_aload_nq d_Mo_execute_109 rfl ?_ | refine j_aload_nN d_Mo_execute_109 rfl ?_
      refine j_get d_Mo_execute_110 f_Mo_7 (hM_o (by decide)) rfl ?_
      refine j_iload_n d_Mo_execute_113 rfl ?_
      refine j_iald (t := 0) d_Mo_execute_114 rfl (hM_o (by decide)) rfl (by omega) (by decide) ?_
      first | refine nn_icmp_eq (t := 129) d_Mo_execute_115 (by decide) (by omega) (by omega) (fun c115 => ?_) (fun c115 => ?_) | refine mm_icmp_eq (t := 129) d_Mo_execute_115 (by decide) (by omega) (by omega) (fun c115 => ?_) (fun c115 => ?_) | refine mn_icmp_eq (t := 129) d_Mo_execute_115 (by decide) (by omega) (by omega) (fun c115 => ?_) (fun c115 => ?_) | refine nm_icmp_eq (t := 129) d_Mo_execute_115 (by decide) (by omega) (by omega) (fun c115 => ?_) (fun c115 => ?_) | refine j_icmp_eq (t := 129) d_Mo_execute_115 (by decide) (fun c115 => ?_) (fun c115 => ?_)
      · refine j_iconst (v := nI 1) d_Mo_execute_129 (by decide +kernel) ?_
        refine j_goto (t := 134) d_Mo_execute_130 (by decide) ?_
        refine j_istore (lc' := [_, _, _, _, _, _, _, _, _, _]) d_Mo_execute_134 (by decide) rfl rfl ?_
        refine j_iload d_Mo_execute_136 rfl ?_
        refine j_iconst (v := nI 2) d_Mo_execute_138 (by decide +kernel) ?_
        refine jn_idiv d_Mo_execute_139 (by omega) (by decide) (by decide) ?_
        refine j_iconst (v := nI 2) d_Mo_execute_140 (by decide +kernel) ?_
        refine j_iload_n d_Mo_execute_141 rfl ?_
        refine jn_iadd d_Mo_execute_142 ?_
        first | refine nn_icmp_ne (t := 160) d_Mo_execute_143 (by decide) (by omega) (by omega) (fun c143 => ?_) (fun c143 => ?_) | refine mm_icmp_ne (t := 160) d_Mo_execute_143 (by decide) (by omega) (by omega) (fun c143 => ?_) (fun c143 => ?_) | refine mn_icmp_ne (t := 160) d_Mo_execute_143 (by decide) (by omega) (by omega) (fun c143 => ?_) (fun c143 => ?_) | refine nm_icmp_ne (t := 160) d_Mo_execute_143 (by decide) (by omega) (by omega) (fun c143 => ?_) (fun c143 => ?_) | refine j_icmp_ne (t := 160) d_Mo_execute_143 (by decide) (fun c143 => ?_) (fun c143 => ?_)
        · refine j_iconst (v := nI 0) d_Mo_execute_160 (by decide +kernel) ?_
          refine j_istore (lc' := [_, _, _, _, _, _, _, _, _, _]) d_Mo_execute_161 (by decide) rfl rfl ?_
          refine j_iload d_Mo_execute_163 rfl ?_
          refine j_if_eq (t := 199) d_Mo_execute_165 (by decide) (fun q => absurd q (by decide +kernel)) (fun _ => ?_)
          first | refine j_aload_n d_Mo_execute_168 rfl ?_ | refine j_aload_nq d_Mo_execute_168 rfl ?_ | refine j_aload_nN d_Mo_execute_168 rfl ?_
          refine j_get d_Mo_execute_169 f_Mo_25 (hM_o (by decide)) rfl ?_
          refine j_iload_n d_Mo_execute_172 rfl ?_
          refine j_iald (t := 0) d_Mo_execute_173 rfl (hM_o (by decide)) rfl (by omega) (by decide) ?_
          first | refine c_if_ne (t := 199) d_Mo_execute_174 (by decide) (fun c174 => ?_) (fun c174 => ?_) | refine n_if_ne (t := 199) d_Mo_execute_174 (by decide) (by omega) (fun c174 => ?_) (fun c174 => ?_) | refine j_if_ne (t := 199) d_Mo_execute_174 (by decide) (fun c174 => ?_) (fun c174 => ?_)
          · refine j_iload d_Mo_execute_199 rfl ?_
            refine j_if_eq (t := 222) d_Mo_execute_201 (by decide) (fun q => absurd q (by decide +kernel)) (fun _ => ?_)
            first | refine j_aload_n d_Mo_execute_204 rfl ?_ | refine j_aload_nq d_Mo_execute_204 rfl ?_ | refine j_aload_nN d_Mo_execute_204 rfl ?_
            refine j_get d_Mo_execute_205 f_Mo_25 (hM_o (by decide)) rfl ?_
            refine j_iload_n d_Mo_execute_208 rfl ?_
            refine j_iald (t := 0) d_Mo_execute_209 rfl (hM_o (by decide)) rfl (by omega) (by decide) ?_
            refine j_iconst (v := nI 1) d_Mo_execute_210 (by decide +kernel) ?_
            first | refine nn_icmp_ne (t := 222) d_Mo_execute_211 (by decide) (by omega) (by omega) (fun c211 => ?_) (fun c211 => ?_) | refine mm_icmp_ne (t := 222) d_Mo_execute_211 (by decide) (by omega) (by omega) (fun c211 => ?_) (fun c211 => ?_) | refine mn_icmp_ne (t := 222) d_Mo_execute_211 (by decide) (by omega) (by omega) (fun c211 => ?_) (fun c211 => ?_) | refine nm_icmp_ne (t := 222) d_Mo_execute_211 (by decide) (by omega) (by omega) (fun c211 => ?_) (fun c211 => ?_) | refine j_icmp_ne (t := 222) d_Mo_execute_211 (by decide) (fun c211 => ?_) (fun c211 => ?_)
            · refine j_iload d_Mo_execute_222 rfl ?_
              refine j_if_eq (t := 267) d_Mo_execute_224 (by decide) (fun q => absurd q (by decide +kernel)) (fun _ => ?_)
              first | refine j_aload_n d_Mo_execute_227 rfl ?_ | refine j_aload_nq d_Mo_execute_227 rfl ?_ | refine j_aload_nN d_Mo_execute_227 rfl ?_
              refine j_get d_Mo_execute_228 f_Mo_25 (hM_o (by decide)) rfl ?_
              refine j_iload_n d_Mo_execute_231 rfl ?_
              refine j_iald (t := 0) d_Mo_execute_232 rfl (hM_o (by decide)) rfl (by omega) (by decide) ?_
              refine j_iconst (v := nI 2) d_Mo_execute_233 (by decide +kernel) ?_
              first | refine nn_icmp_ne (t := 267) d_Mo_execute_234 (by decide) (by omega) (by omega) (fun c234 => ?_) (fun c234 => ?_) | refine mm_icmp_ne (t := 267) d_Mo_execute_234 (by decide) (by omega) (by omega) (fun c234 => ?_) (fun c234 => ?_) | refine mn_icmp_ne (t := 267) d_Mo_execute_234 (by decide) (by omega) (by omega) (fun c234 => ?_) (fun c234 => ?_) | refine nm_icmp_ne (t := 267) d_Mo_execute_234 (by decide) (by omega) (by omega) (fun c234 => ?_) (fun c234 => ?_) | refine j_icmp_ne (t := 267) d_Mo_execute_234 (by decide) (fun c234 => ?_) (fun c234 => ?_)
              · exfalso; first | exact c234 | omega
              · first | refine j_aload_n d_Mo_execute_237 rfl ?_ | refine j_aload_nq d_Mo_execute_237 rfl ?_ | refine j_aload_nN d_Mo_execute_237 rfl ?_
                refine j_get d_Mo_execute_238 f_Mo_31 (hM_o (by decide)) rfl ?_
                refine j_iload d_Mo_execute_241 rfl ?_
                refine o_fld (t := 0) (w := 20) d_Mo_execute_243 rfl (hM_o (by decide)) rfl (by omega) (by omega) (by decide) ?_
                refine j_iconst (v := nI 2) d_Mo_execute_244 (by decide +kernel) ?_
                first | refine nn_icmp_ne (t := 267) d_Mo_execute_245 (by decide) (by omega) (by omega) (fun c245 => ?_) (fun c245 => ?_) | refine mm_icmp_ne (t := 267) d_Mo_execute_245 (by decide) (by omega) (by omega) (fun c245 => ?_) (fun c245 => ?_) | refine mn_icmp_ne (t := 267) d_Mo_execute_245 (by decide) (by omega) (by omega) (fun c245 => ?_) (fun c245 => ?_) | refine nm_icmp_ne (t := 267) d_Mo_execute_245 (by decide) (by omega) (by omega) (fun c245 => ?_) (fun c245 => ?_) | refine j_icmp_ne (t := 267) d_Mo_execute_245 (by decide) (fun c245 => ?_) (fun c245 => ?_)
                · refine j_iload d_Mo_execute_267 rfl ?_
                  refine j_if_eq (t := 290) d_Mo_execute_269 (by decide) (fun _ => ?_) (fun q => absurd q (by decide +kernel))
                  refine n_iinc (k := 2) (lc' := [_, _, _, _, _, _, _, _, _, _]) d_Mo_execute_290 (by decide +kernel) rfl (by decide) rfl rfl ?_
                  refine j_goto (t := 91) d_Mo_execute_293 (by decide) ?_
                  exact ih (j + 1) _ _ _ _ (by omega) (by omega) (by rw [exFr, ifP_f (fun z => c245 (by rw [hτ]; exact z.2.1)), ← hτ])
                · first | refine j_aload_n d_Mo_execute_248 rfl ?_ | refine j_aload_nq d_Mo_execute_248 rfl ?_ | refine j_aload_nN d_Mo_execute_248 rfl ?_
                  refine j_get d_Mo_execute_249 f_Mo_34 (hM_o (by decide)) rfl ?_
                  refine j_iload d_Mo_execute_252 rfl ?_
                  refine o_fld (t := 0) (w := 20) d_Mo_execute_254 rfl (hM_o (by decide)) rfl (by omega) (by omega) (by decide) ?_
                  refine j_iload_n d_Mo_execute_255 rfl ?_
                  first | refine nn_icmp_ne (t := 267) d_Mo_execute_256 (by decide) (by omega) (by omega) (fun c256 => ?_) (fun c256 => ?_) | refine mm_icmp_ne (t := 267) d_Mo_execute_256 (by decide) (by omega) (by omega) (fun c256 => ?_) (fun c256 => ?_) | refine mn_icmp_ne (t := 267) d_Mo_execute_256 (by decide) (by omega) (by omega) (fun c256 => ?_) (fun c256 => ?_) | refine nm_icmp_ne (t := 267) d_Mo_execute_256 (by decide) (by omega) (by omega) (fun c256 => ?_) (fun c256 => ?_) | refine j_icmp_ne (t := 267) d_Mo_execute_256 (by decide) (fun c256 => ?_) (fun c256 => ?_)
                  · refine j_iload d_Mo_execute_267 rfl ?_
                    refine j_if_eq (t := 290) d_Mo_execute_269 (by decide) (fun _ => ?_) (fun q => absurd q (by decide +kernel))
                    refine n_iinc (k := 2) (lc' := [_, _, _, _, _, _, _, _, _, _]) d_Mo_execute_290 (by decide +kernel) rfl (by decide) rfl rfl ?_
                    refine j_goto (t := 91) d_Mo_execute_293 (by decide) ?_
                    exact ih (j + 1) _ _ _ _ (by omega) (by omega) (by rw [exFr, ifP_f (fun z => c256 (by rw [hτ]; exact z.2.2)), ← hτ])
                  · first | refine j_aload_n d_Mo_execute_259 rfl ?_ | refine j_aload_nq d_Mo_execute_259 rfl ?_ | refine j_aload_nN d_Mo_execute_259 rfl ?_
                    refine j_get d_Mo_execute_260 f_Mo_31 (hM_o (by decide)) rfl ?_
                    refine j_iload d_Mo_execute_263 rfl ?_
                    refine j_iconst (v := nI 1) d_Mo_execute_265 (by decide +kernel) ?_
                    refine j_iast (t := 0) d_Mo_execute_266 rfl (hM_o (by decide)) rfl (by omega) (by decide) (J.hq (o8 (by omega)) ?_)
                    generalize hτ' : U τ 8 p (p / 4 + 2 * j) 1 = τ'
                    have e6 : τ' 6 0 q = 2 := by rw [← hτ']; exact e6
                    refine j_iload d_Mo_execute_267 rfl ?_
                    refine j_if_eq (t := 290) d_Mo_execute_269 (by decide) (fun _ => ?_) (fun q => absurd q (by decide +kernel))
                    refine n_iinc (k := 2) (lc' := [_, _, _, _, _, _, _, _, _, _]) d_Mo_execute_290 (by decide +kernel) rfl (by decide) rfl rfl ?_
                    refine j_goto (t := 91) d_Mo_execute_293 (by decide) ?_
                    exact ih (j + 1) _ _ _ _ (by omega) (by omega) (by rw [← hτ', exFr, ifP_t ⟨(show inp σ t (p / 4 + 2 * j) from Or.inl (by omega)), by rw [← hτ]; exact c245, by rw [← hτ]; exact c256⟩, ← hτ])
            · exfalso; first | exact c211 | omega
          · exfalso; first | exact c174 | omega
        · first | refine j_aload_n d_Mo_execute_146 rfl ?_ | refine j_aload_nq d_Mo_execute_146 rfl ?_ | refine j_aload_nN d_Mo_execute_146 rfl ?_
          refine j_get d_Mo_execute_147 f_Mo_19 (hM_o (by decide)) rfl ?_
          refine j_iload d_Mo_execute_150 rfl ?_
          refine j_iald (t := 0) d_Mo_execute_152 rfl (hM_o (by decide)) rfl (by omega) (by decide) ?_
          first | refine n_if_le (t := 160) d_Mo_execute_153 (by decide) (by omega) (fun c153 => ?_) (fun c153 => ?_) | refine j_if_le (t := 160) d_Mo_execute_153 (by decide) (fun c153 => ?_) (fun c153 => ?_)
          · refine j_iconst (v := nI 0) d_Mo_execute_160 (by decide +kernel) ?_
            refine j_istore (lc' := [_, _, _, _, _, _, _, _, _, _]) d_Mo_execute_161 (by decide) rfl rfl ?_
            refine j_iload d_Mo_execute_163 rfl ?_
            refine j_if_eq (t := 199) d_Mo_execute_165 (by decide) (fun q => absurd q (by decide +kernel)) (fun _ => ?_)
            first | refine j_aload_n d_Mo_execute_168 rfl ?_ | refine j_aload_nq d_Mo_execute_168 rfl ?_ | refine j_aload_nN d_Mo_execute_168 rfl ?_
            refine j_get d_Mo_execute_169 f_Mo_25 (hM_o (by decide)) rfl ?_
            refine j_iload_n d_Mo_execute_172 rfl ?_
            refine j_iald (t := 0) d_Mo_execute_173 rfl (hM_o (by decide)) rfl (by omega) (by decide) ?_
            first | refine c_if_ne (t := 199) d_Mo_execute_174 (by decide) (fun c174 => ?_) (fun c174 => ?_) | refine n_if_ne (t := 199) d_Mo_execute_174 (by decide) (by omega) (fun c174 => ?_) (fun c174 => ?_) | refine j_if_ne (t := 199) d_Mo_execute_174 (by decide) (fun c174 => ?_) (fun c174 => ?_)
            · refine j_iload d_Mo_execute_199 rfl ?_
              refine j_if_eq (t := 222) d_Mo_execute_201 (by decide) (fun q => absurd q (by decide +kernel)) (fun _ => ?_)
              first | refine j_aload_n d_Mo_execute_204 rfl ?_ | refine j_aload_nq d_Mo_execute_204 rfl ?_ | refine j_aload_nN d_Mo_execute_204 rfl ?_
              refine j_get d_Mo_execute_205 f_Mo_25 (hM_o (by decide)) rfl ?_
              refine j_iload_n d_Mo_execute_208 rfl ?_
              refine j_iald (t := 0) d_Mo_execute_209 rfl (hM_o (by decide)) rfl (by omega) (by decide) ?_
              refine j_iconst (v := nI 1) d_Mo_execute_210 (by decide +kernel) ?_
              first | refine nn_icmp_ne (t := 222) d_Mo_execute_211 (by decide) (by omega) (by omega) (fun c211 => ?_) (fun c211 => ?_) | refine mm_icmp_ne (t := 222) d_Mo_execute_211 (by decide) (by omega) (by omega) (fun c211 => ?_) (fun c211 => ?_) | refine mn_icmp_ne (t := 222) d_Mo_execute_211 (by decide) (by omega) (by omega) (fun c211 => ?_) (fun c211 => ?_) | refine nm_icmp_ne (t := 222) d_Mo_execute_211 (by decide) (by omega) (by omega) (fun c211 => ?_) (fun c211 => ?_) | refine j_icmp_ne (t := 222) d_Mo_execute_211 (by decide) (fun c211 => ?_) (fun c211 => ?_)
              · refine j_iload d_Mo_execute_222 rfl ?_
                refine j_if_eq (t := 267) d_Mo_execute_224 (by decide) (fun q => absurd q (by decide +kernel)) (fun _ => ?_)
                first | refine j_aload_n d_Mo_execute_227 rfl ?_ | refine j_aload_nq d_Mo_execute_227 rfl ?_ | refine j_aload_nN d_Mo_execute_227 rfl ?_
                refine j_get d_Mo_execute_228 f_Mo_25 (hM_o (by decide)) rfl ?_
                refine j_iload_n d_Mo_execute_231 rfl ?_
                refine j_iald (t := 0) d_Mo_execute_232 rfl (hM_o (by decide)) rfl (by omega) (by decide) ?_
                refine j_iconst (v := nI 2) d_Mo_execute_233 (by decide +kernel) ?_
                first | refine nn_icmp_ne (t := 267) d_Mo_execute_234 (by decide) (by omega) (by omega) (fun c234 => ?_) (fun c234 => ?_) | refine mm_icmp_ne (t := 267) d_Mo_execute_234 (by decide) (by omega) (by omega) (fun c234 => ?_) (fun c234 => ?_) | refine mn_icmp_ne (t := 267) d_Mo_execute_234 (by decide) (by omega) (by omega) (fun c234 => ?_) (fun c234 => ?_) | refine nm_icmp_ne (t := 267) d_Mo_execute_234 (by decide) (by omega) (by omega) (fun c234 => ?_) (fun c234 => ?_) | refine j_icmp_ne (t := 267) d_Mo_execute_234 (by decide) (fun c234 => ?_) (fun c234 => ?_)
                · exfalso; first | exact c234 | omega
                · first | refine j_aload_n d_Mo_execute_237 rfl ?_ | refine j_aload_nq d_Mo_execute_237 rfl ?_ | refine j_aload_nN d_Mo_execute_237 rfl ?_
                  refine j_get d_Mo_execute_238 f_Mo_31 (hM_o (by decide)) rfl ?_
                  refine j_iload d_Mo_execute_241 rfl ?_
                  refine o_fld (t := 0) (w := 20) d_Mo_execute_243 rfl (hM_o (by decide)) rfl (by omega) (by omega) (by decide) ?_
                  refine j_iconst (v := nI 2) d_Mo_execute_244 (by decide +kernel) ?_
                  first | refine nn_icmp_ne (t := 267) d_Mo_execute_245 (by decide) (by omega) (by omega) (fun c245 => ?_) (fun c245 => ?_) | refine mm_icmp_ne (t := 267) d_Mo_execute_245 (by decide) (by omega) (by omega) (fun c245 => ?_) (fun c245 => ?_) | refine mn_icmp_ne (t := 267) d_Mo_execute_245 (by decide) (by omega) (by omega) (fun c245 => ?_) (fun c245 => ?_) | refine nm_icmp_ne (t := 267) d_Mo_execute_245 (by decide) (by omega) (by omega) (fun c245 => ?_) (fun c245 => ?_) | refine j_icmp_ne (t := 267) d_Mo_execute_245 (by decide) (fun c245 => ?_) (fun c245 => ?_)
                  · refine j_iload d_Mo_execute_267 rfl ?_
                    refine j_if_eq (t := 290) d_Mo_execute_269 (by decide) (fun _ => ?_) (fun q => absurd q (by decide +kernel))
                    refine n_iinc (k := 2) (lc' := [_, _, _, _, _, _, _, _, _, _]) d_Mo_execute_290 (by decide +kernel) rfl (by decide) rfl rfl ?_
                    refine j_goto (t := 91) d_Mo_execute_293 (by decide) ?_
                    exact ih (j + 1) _ _ _ _ (by omega) (by omega) (by rw [exFr, ifP_f (fun z => c245 (by rw [hτ]; exact z.2.1)), ← hτ])
                  · first | refine j_aload_n d_Mo_execute_248 rfl ?_ | refine j_aload_nq d_Mo_execute_248 rfl ?_ | refine j_aload_nN d_Mo_execute_248 rfl ?_
                    refine j_get d_Mo_execute_249 f_Mo_34 (hM_o (by decide)) rfl ?_
                    refine j_iload d_Mo_execute_252 rfl ?_
                    refine o_fld (t := 0) (w := 20) d_Mo_execute_254 rfl (hM_o (by decide)) rfl (by omega) (by omega) (by decide) ?_
                    refine j_iload_n d_Mo_execute_255 rfl ?_
                    first | refine nn_icmp_ne (t := 267) d_Mo_execute_256 (by decide) (by omega) (by omega) (fun c256 => ?_) (fun c256 => ?_) | refine mm_icmp_ne (t := 267) d_Mo_execute_256 (by decide) (by omega) (by omega) (fun c256 => ?_) (fun c256 => ?_) | refine mn_icmp_ne (t := 267) d_Mo_execute_256 (by decide) (by omega) (by omega) (fun c256 => ?_) (fun c256 => ?_) | refine nm_icmp_ne (t := 267) d_Mo_execute_256 (by decide) (by omega) (by omega) (fun c256 => ?_) (fun c256 => ?_) | refine j_icmp_ne (t := 267) d_Mo_execute_256 (by decide) (fun c256 => ?_) (fun c256 => ?_)
                    · refine j_iload d_Mo_execute_267 rfl ?_
                      refine j_if_eq (t := 290) d_Mo_execute_269 (by decide) (fun _ => ?_) (fun q => absurd q (by decide +kernel))
                      refine n_iinc (k := 2) (lc' := [_, _, _, _, _, _, _, _, _, _]) d_Mo_execute_290 (by decide +kernel) rfl (by decide) rfl rfl ?_
                      refine j_goto (t := 91) d_Mo_execute_293 (by decide) ?_
                      exact ih (j + 1) _ _ _ _ (by omega) (by omega) (by rw [exFr, ifP_f (fun z => c256 (by rw [hτ]; exact z.2.2)), ← hτ])
                    · first | refine j_aload_n d_Mo_execute_259 rfl ?_ | refine j_aload_nq d_Mo_execute_259 rfl ?_ | refine j_aload_nN d_Mo_execute_259 rfl ?_
                      refine j_get d_Mo_execute_260 f_Mo_31 (hM_o (by decide)) rfl ?_
                      refine j_iload d_Mo_execute_263 rfl ?_
                      refine j_iconst (v := nI 1) d_Mo_execute_265 (by decide +kernel) ?_
                      refine j_iast (t := 0) d_Mo_execute_266 rfl (hM_o (by decide)) rfl (by omega) (by decide) (J.hq (o8 (by omega)) ?_)
                      generalize hτ' : U τ 8 p (p / 4 + 2 * j) 1 = τ'
                      have e6 : τ' 6 0 q = 2 := by rw [← hτ']; exact e6
                      refine j_iload d_Mo_execute_267 rfl ?_
                      refine j_if_eq (t := 290) d_Mo_execute_269 (by decide) (fun _ => ?_) (fun q => absurd q (by decide +kernel))
                      refine n_iinc (k := 2) (lc' := [_, _, _, _, _, _, _, _, _, _]) d_Mo_execute_290 (by decide +kernel) rfl (by decide) rfl rfl ?_
                      refine j_goto (t := 91) d_Mo_execute_293 (by decide) ?_
                      exact ih (j + 1) _ _ _ _ (by omega) (by omega) (by rw [← hτ', exFr, ifP_t ⟨(show inp σ t (p / 4 + 2 * j) from Or.inl (by omega)), by rw [← hτ]; exact c245, by rw [← hτ]; exact c256⟩, ← hτ])
              · exfalso; first | exact c211 | omega
            · exfalso; first | exact c174 | omega
          · refine j_iconst (v := nI 1) d_Mo_execute_156 (by decide +kernel) ?_
            refine j_goto (t := 161) d_Mo_execute_157 (by decide) ?_
            refine j_istore (lc' := [_, _, _, _, _, _, _, _, _, _]) d_Mo_execute_161 (by decide) rfl rfl ?_
            refine j_iload d_Mo_execute_163 rfl ?_
            refine j_if_eq (t := 199) d_Mo_execute_165 (by decide) (fun q => absurd q (by decide +kernel)) (fun _ => ?_)
            first | refine j_aload_n d_Mo_execute_168 rfl ?_ | refine j_aload_nq d_Mo_execute_168 rfl ?_ | refine j_aload_nN d_Mo_execute_168 rfl ?_
            refine j_get d_Mo_execute_169 f_Mo_25 (hM_o (by decide)) rfl ?_
            refine j_iload_n d_Mo_execute_172 rfl ?_
            refine j_iald (t := 0) d_Mo_execute_173 rfl (hM_o (by decide)) rfl (by omega) (by decide) ?_
            first | refine c_if_ne (t := 199) d_Mo_execute_174 (by decide) (fun c174 => ?_) (fun c174 => ?_) | refine n_if_ne (t := 199) d_Mo_execute_174 (by decide) (by omega) (fun c174 => ?_) (fun c174 => ?_) | refine j_if_ne (t := 199) d_Mo_execute_174 (by decide) (fun c174 => ?_) (fun c174 => ?_)
            · refine j_iload d_Mo_execute_199 rfl ?_
              refine j_if_eq (t := 222) d_Mo_execute_201 (by decide) (fun q => absurd q (by decide +kernel)) (fun _ => ?_)
              first | refine j_aload_n d_Mo_execute_204 rfl ?_ | refine j_aload_nq d_Mo_execute_204 rfl ?_ | refine j_aload_nN d_Mo_execute_204 rfl ?_
              refine j_get d_Mo_execute_205 f_Mo_25 (hM_o (by decide)) rfl ?_
              refine j_iload_n d_Mo_execute_208 rfl ?_
              refine j_iald (t := 0) d_Mo_execute_209 rfl (hM_o (by decide)) rfl (by omega) (by decide) ?_
              refine j_iconst (v := nI 1) d_Mo_execute_210 (by decide +kernel) ?_
              first | refine nn_icmp_ne (t := 222) d_Mo_execute_211 (by decide) (by omega) (by omega) (fun c211 => ?_) (fun c211 => ?_) | refine mm_icmp_ne (t := 222) d_Mo_execute_211 (by decide) (by omega) (by omega) (fun c211 => ?_) (fun c211 => ?_) | refine mn_icmp_ne (t := 222) d_Mo_execute_211 (by decide) (by omega) (by omega) (fun c211 => ?_) (fun c211 => ?_) | refine nm_icmp_ne (t := 222) d_Mo_execute_211 (by decide) (by omega) (by omega) (fun c211 => ?_) (fun c211 => ?_) | refine j_icmp_ne (t := 222) d_Mo_execute_211 (by decide) (fun c211 => ?_) (fun c211 => ?_)
              · refine j_iload d_Mo_execute_222 rfl ?_
                refine j_if_eq (t := 267) d_Mo_execute_224 (by decide) (fun q => absurd q (by decide +kernel)) (fun _ => ?_)
                first | refine j_aload_n d_Mo_execute_227 rfl ?_ | refine j_aload_nq d_Mo_execute_227 rfl ?_ | refine j_aload_nN d_Mo_execute_227 rfl ?_
                refine j_get d_Mo_execute_228 f_Mo_25 (hM_o (by decide)) rfl ?_
                refine j_iload_n d_Mo_execute_231 rfl ?_
                refine j_iald (t := 0) d_Mo_execute_232 rfl (hM_o (by decide)) rfl (by omega) (by decide) ?_
                refine j_iconst (v := nI 2) d_Mo_execute_233 (by decide +kernel) ?_
                first | refine nn_icmp_ne (t := 267) d_Mo_execute_234 (by decide) (by omega) (by omega) (fun c234 => ?_) (fun c234 => ?_) | refine mm_icmp_ne (t := 267) d_Mo_execute_234 (by decide) (by omega) (by omega) (fun c234 => ?_) (fun c234 => ?_) | refine mn_icmp_ne (t := 267) d_Mo_execute_234 (by decide) (by omega) (by omega) (fun c234 => ?_) (fun c234 => ?_) | refine nm_icmp_ne (t := 267) d_Mo_execute_234 (by decide) (by omega) (by omega) (fun c234 => ?_) (fun c234 => ?_) | refine j_icmp_ne (t := 267) d_Mo_execute_234 (by decide) (fun c234 => ?_) (fun c234 => ?_)
                · exfalso; first | exact c234 | omega
                · first | refine j_aload_n d_Mo_execute_237 rfl ?_ | refine j_aload_nq d_Mo_execute_237 rfl ?_ | refine j_aload_nN d_Mo_execute_237 rfl ?_
                  refine j_get d_Mo_execute_238 f_Mo_31 (hM_o (by decide)) rfl ?_
                  refine j_iload d_Mo_execute_241 rfl ?_
                  refine o_fld (t := 0) (w := 20) d_Mo_execute_243 rfl (hM_o (by decide)) rfl (by omega) (by omega) (by decide) ?_
                  refine j_iconst (v := nI 2) d_Mo_execute_244 (by decide +kernel) ?_
                  first | refine nn_icmp_ne (t := 267) d_Mo_execute_245 (by decide) (by omega) (by omega) (fun c245 => ?_) (fun c245 => ?_) | refine mm_icmp_ne (t := 267) d_Mo_execute_245 (by decide) (by omega) (by omega) (fun c245 => ?_) (fun c245 => ?_) | refine mn_icmp_ne (t := 267) d_Mo_execute_245 (by decide) (by omega) (by omega) (fun c245 => ?_) (fun c245 => ?_) | refine nm_icmp_ne (t := 267) d_Mo_execute_245 (by decide) (by omega) (by omega) (fun c245 => ?_) (fun c245 => ?_) | refine j_icmp_ne (t := 267) d_Mo_execute_245 (by decide) (fun c245 => ?_) (fun c245 => ?_)
                  · refine j_iload d_Mo_execute_267 rfl ?_
                    refine j_if_eq (t := 290) d_Mo_execute_269 (by decide) (fun q => absurd q (by decide +kernel)) (fun _ => ?_)
                    first | refine j_aload_n d_Mo_execute_272 rfl ?_ | refine j_aload_nq d_Mo_execute_272 rfl ?_ | refine j_aload_nN d_Mo_execute_272 rfl ?_
                    refine j_get d_Mo_execute_273 f_Mo_25 (hM_o (by decide)) rfl ?_
                    refine j_iload_n d_Mo_execute_276 rfl ?_
                    refine j_iald (t := 0) d_Mo_execute_277 rfl (hM_o (by decide)) rfl (by omega) (by decide) ?_
                    refine j_iconst (v := nI 1) d_Mo_execute_278 (by decide +kernel) ?_
                    first | refine nn_icmp_ne (t := 290) d_Mo_execute_279 (by decide) (by omega) (by omega) (fun c279 => ?_) (fun c279 => ?_) | refine mm_icmp_ne (t := 290) d_Mo_execute_279 (by decide) (by omega) (by omega) (fun c279 => ?_) (fun c279 => ?_) | refine mn_icmp_ne (t := 290) d_Mo_execute_279 (by decide) (by omega) (by omega) (fun c279 => ?_) (fun c279 => ?_) | refine nm_icmp_ne (t := 290) d_Mo_execute_279 (by decide) (by omega) (by omega) (fun c279 => ?_) (fun c279 => ?_) | refine j_icmp_ne (t := 290) d_Mo_execute_279 (by decide) (fun c279 => ?_) (fun c279 => ?_)
                    · refine n_iinc (k := 2) (lc' := [_, _, _, _, _, _, _, _, _, _]) d_Mo_execute_290 (by decide +kernel) rfl (by decide) rfl rfl ?_
                      refine j_goto (t := 91) d_Mo_execute_293 (by decide) ?_
                      exact ih (j + 1) _ _ _ _ (by omega) (by omega) (by rw [exFr, ifP_f (fun z => c245 (by rw [hτ]; exact z.2.1)), ← hτ])
                    · exfalso; first | exact c279 | omega
                  · first | refine j_aload_n d_Mo_execute_248 rfl ?_ | refine j_aload_nq d_Mo_execute_248 rfl ?_ | refine j_aload_nN d_Mo_execute_248 rfl ?_
                    refine j_get d_Mo_execute_249 f_Mo_34 (hM_o (by decide)) rfl ?_
                    refine j_iload d_Mo_execute_252 rfl ?_
                    refine o_fld (t := 0) (w := 20) d_Mo_execute_254 rfl (hM_o (by decide)) rfl (by omega) (by omega) (by decide) ?_
                    refine j_iload_n d_Mo_execute_255 rfl ?_
                    first | refine nn_icmp_ne (t := 267) d_Mo_execute_256 (by decide) (by omega) (by omega) (fun c256 => ?_) (fun c256 => ?_) | refine mm_icmp_ne (t := 267) d_Mo_execute_256 (by decide) (by omega) (by omega) (fun c256 => ?_) (fun c256 => ?_) | refine mn_icmp_ne (t := 267) d_Mo_execute_256 (by decide) (by omega) (by omega) (fun c256 => ?_) (fun c256 => ?_) | refine nm_icmp_ne (t := 267) d_Mo_execute_256 (by decide) (by omega) (by omega) (fun c256 => ?_) (fun c256 => ?_) | refine j_icmp_ne (t := 267) d_Mo_execute_256 (by decide) (fun c256 => ?_) (fun c256 => ?_)
                    · refine j_iload d_Mo_execute_267 rfl ?_
                      refine j_if_eq (t := 290) d_Mo_execute_269 (by decide) (fun q => absurd q (by decide +kernel)) (fun _ => ?_)
                      first | refine j_aload_n d_Mo_execute_272 rfl ?_ | refine j_aload_nq d_Mo_execute_272 rfl ?_ | refine j_aload_nN d_Mo_execute_272 rfl ?_
                      refine j_get d_Mo_execute_273 f_Mo_25 (hM_o (by decide)) rfl ?_
                      refine j_iload_n d_Mo_execute_276 rfl ?_
                      refine j_iald (t := 0) d_Mo_execute_277 rfl (hM_o (by decide)) rfl (by omega) (by decide) ?_
                      refine j_iconst (v := nI 1) d_Mo_execute_278 (by decide +kernel) ?_
                      first | refine nn_icmp_ne (t := 290) d_Mo_execute_279 (by decide) (by omega) (by omega) (fun c279 => ?_) (fun c279 => ?_) | refine mm_icmp_ne (t := 290) d_Mo_execute_279 (by decide) (by omega) (by omega) (fun c279 => ?_) (fun c279 => ?_) | refine mn_icmp_ne (t := 290) d_Mo_execute_279 (by decide) (by omega) (by omega) (fun c279 => ?_) (fun c279 => ?_) | refine nm_icmp_ne (t := 290) d_Mo_execute_279 (by decide) (by omega) (by omega) (fun c279 => ?_) (fun c279 => ?_) | refine j_icmp_ne (t := 290) d_Mo_execute_279 (by decide) (fun c279 => ?_) (fun c279 => ?_)
                      · refine n_iinc (k := 2) (lc' := [_, _, _, _, _, _, _, _, _, _]) d_Mo_execute_290 (by decide +kernel) rfl (by decide) rfl rfl ?_
                        refine j_goto (t := 91) d_Mo_execute_293 (by decide) ?_
                        exact ih (j + 1) _ _ _ _ (by omega) (by omega) (by rw [exFr, ifP_f (fun z => c256 (by rw [hτ]; exact z.2.2)), ← hτ])
                      · exfalso; first | exact c279 | omega
                    · first | refine j_aload_n d_Mo_execute_259 rfl ?_ | refine j_aload_nq d_Mo_execute_259 rfl ?_ | refine j_aload_nN d_Mo_execute_259 rfl ?_
                      refine j_get d_Mo_execute_260 f_Mo_31 (hM_o (by decide)) rfl ?_
                      refine j_iload d_Mo_execute_263 rfl ?_
                      refine j_iconst (v := nI 1) d_Mo_execute_265 (by decide +kernel) ?_
                      refine j_iast (t := 0) d_Mo_execute_266 rfl (hM_o (by decide)) rfl (by omega) (by decide) (J.hq (o8 (by omega)) ?_)
                      generalize hτ' : U τ 8 p (p / 4 + 2 * j) 1 = τ'
                      have e6 : τ' 6 0 q = 2 := by rw [← hτ']; exact e6
                      refine j_iload d_Mo_execute_267 rfl ?_
                      refine j_if_eq (t := 290) d_Mo_execute_269 (by decide) (fun q => absurd q (by decide +kernel)) (fun _ => ?_)
                      first | refine j_aload_n d_Mo_execute_272 rfl ?_ | refine j_aload_nq d_Mo_execute_272 rfl ?_ | refine j_aload_nN d_Mo_execute_272 rfl ?_
                      refine j_get d_Mo_execute_273 f_Mo_25 (hM_o (by decide)) rfl ?_
                      refine j_iload_n d_Mo_execute_276 rfl ?_
                      refine j_iald (t := 0) d_Mo_execute_277 rfl (hM_o (by decide)) rfl (by omega) (by decide) ?_
                      refine j_iconst (v := nI 1) d_Mo_execute_278 (by decide +kernel) ?_
                      first | refine nn_icmp_ne (t := 290) d_Mo_execute_279 (by decide) (by omega) (by omega) (fun c279 => ?_) (fun c279 => ?_) | refine mm_icmp_ne (t := 290) d_Mo_execute_279 (by decide) (by omega) (by omega) (fun c279 => ?_) (fun c279 => ?_) | refine mn_icmp_ne (t := 290) d_Mo_execute_279 (by decide) (by omega) (by omega) (fun c279 => ?_) (fun c279 => ?_) | refine nm_icmp_ne (t := 290) d_Mo_execute_279 (by decide) (by omega) (by omega) (fun c279 => ?_) (fun c279 => ?_) | refine j_icmp_ne (t := 290) d_Mo_execute_279 (by decide) (fun c279 => ?_) (fun c279 => ?_)
                      · refine n_iinc (k := 2) (lc' := [_, _, _, _, _, _, _, _, _, _]) d_Mo_execute_290 (by decide +kernel) rfl (by decide) rfl rfl ?_
                        refine j_goto (t := 91) d_Mo_execute_293 (by decide) ?_
                        exact ih (j + 1) _ _ _ _ (by omega) (by omega) (by rw [← hτ', exFr, ifP_t ⟨(show inp σ t (p / 4 + 2 * j) from Or.inl (by omega)), by rw [← hτ]; exact c245, by rw [← hτ]; exact c256⟩, ← hτ])
                      · exfalso; first | exact c279 | omega
              · exfalso; first | exact c211 | omega
            · exfalso; first | exact c174 | omega
      · refine j_iload d_Mo_execute_118 rfl ?_
        first | refine j_aload_n d_Mo_execute_120 rfl ?_ | refine j_aload_nq d_Mo_execute_120 rfl ?_ | refine j_aload_nN d_Mo_execute_120 rfl ?_
        refine j_get d_Mo_execute_121 f_Mo_13 (hM_o (by decide)) rfl ?_
        refine j_iload_n d_Mo_execute_124 rfl ?_
        refine j_iald (t := 0) d_Mo_execute_125 rfl (hM_o (by decide)) rfl (by omega) (by decide) ?_
        first | refine nn_icmp_ne (t := 133) d_Mo_execute_126 (by decide) (by omega) (by omega) (fun c126 => ?_) (fun c126 => ?_) | refine mm_icmp_ne (t := 133) d_Mo_execute_126 (by decide) (by omega) (by omega) (fun c126 => ?_) (fun c126 => ?_) | refine mn_icmp_ne (t := 133) d_Mo_execute_126 (by decide) (by omega) (by omega) (fun c126 => ?_) (fun c126 => ?_) | refine nm_icmp_ne (t := 133) d_Mo_execute_126 (by decide) (by omega) (by omega) (fun c126 => ?_) (fun c126 => ?_) | refine j_icmp_ne (t := 133) d_Mo_execute_126 (by decide) (fun c126 => ?_) (fun c126 => ?_)
        · refine j_iconst (v := nI 0) d_Mo_execute_133 (by decide +kernel) ?_
          refine j_istore (lc' := [_, _, _, _, _, _, _, _, _, _]) d_Mo_execute_134 (by decide) rfl rfl ?_
          refine j_iload d_Mo_execute_136 rfl ?_
          refine j_iconst (v := nI 2) d_Mo_execute_138 (by decide +kernel) ?_
          refine jn_idiv d_Mo_execute_139 (by omega) (by decide) (by decide) ?_
          refine j_iconst (v := nI 2) d_Mo_execute_140 (by decide +kernel) ?_
          refine j_iload_n d_Mo_execute_141 rfl ?_
          refine jn_iadd d_Mo_execute_142 ?_
          first | refine nn_icmp_ne (t := 160) d_Mo_execute_143 (by decide) (by omega) (by omega) (fun c143 => ?_) (fun c143 => ?_) | refine mm_icmp_ne (t := 160) d_Mo_execute_143 (by decide) (by omega) (by omega) (fun c143 => ?_) (fun c143 => ?_) | refine mn_icmp_ne (t := 160) d_Mo_execute_143 (by decide) (by omega) (by omega) (fun c143 => ?_) (fun c143 => ?_) | refine nm_icmp_ne (t := 160) d_Mo_execute_143 (by decide) (by omega) (by omega) (fun c143 => ?_) (fun c143 => ?_) | refine j_icmp_ne (t := 160) d_Mo_execute_143 (by decide) (fun c143 => ?_) (fun c143 => ?_)
          · refine j_iconst (v := nI 0) d_Mo_execute_160 (by decide +kernel) ?_
            refine j_istore (lc' := [_, _, _, _, _, _, _, _, _, _]) d_Mo_execute_161 (by decide) rfl rfl ?_
            refine j_iload d_Mo_execute_163 rfl ?_
            refine j_if_eq (t := 199) d_Mo_execute_165 (by decide) (fun _ => ?_) (fun q => absurd q (by decide +kernel))
            refine j_iload d_Mo_execute_199 rfl ?_
            refine j_if_eq (t := 222) d_Mo_execute_201 (by decide) (fun _ => ?_) (fun q => absurd q (by decide +kernel))
            refine j_iload d_Mo_execute_222 rfl ?_
            refine j_if_eq (t := 267) d_Mo_execute_224 (by decide) (fun _ => ?_) (fun q => absurd q (by decide +kernel))
            refine j_iload d_Mo_execute_267 rfl ?_
            refine j_if_eq (t := 290) d_Mo_execute_269 (by decide) (fun _ => ?_) (fun q => absurd q (by decide +kernel))
            refine n_iinc (k := 2) (lc' := [_, _, _, _, _, _, _, _, _, _]) d_Mo_execute_290 (by decide +kernel) rfl (by decide) rfl rfl ?_
            refine j_goto (t := 91) d_Mo_execute_293 (by decide) ?_
            exact ih (j + 1) _ _ _ _ (by omega) (by omega) (by rw [exFr, ifP_f (fun z => absurd z.1 (show ¬ inp σ t (p / 4 + 2 * j) from by rintro (z | z) <;> omega)), ← hτ])
          · first | refine j_aload_n d_Mo_execute_146 rfl ?_ | refine j_aload_nq d_Mo_execute_146 rfl ?_ | refine j_aload_nN d_Mo_execute_146 rfl ?_
            refine j_get d_Mo_execute_147 f_Mo_19 (hM_o (by decide)) rfl ?_
            refine j_iload d_Mo_execute_150 rfl ?_
            refine j_iald (t := 0) d_Mo_execute_152 rfl (hM_o (by decide)) rfl (by omega) (by decide) ?_
            first | refine n_if_le (t := 160) d_Mo_execute_153 (by decide) (by omega) (fun c153 => ?_) (fun c153 => ?_) | refine j_if_le (t := 160) d_Mo_execute_153 (by decide) (fun c153 => ?_) (fun c153 => ?_)
            · refine j_iconst (v := nI 0) d_Mo_execute_160 (by decide +kernel) ?_
              refine j_istore (lc' := [_, _, _, _, _, _, _, _, _, _]) d_Mo_execute_161 (by decide) rfl rfl ?_
              refine j_iload d_Mo_execute_163 rfl ?_
              refine j_if_eq (t := 199) d_Mo_execute_165 (by decide) (fun _ => ?_) (fun q => absurd q (by decide +kernel))
              refine j_iload d_Mo_execute_199 rfl ?_
              refine j_if_eq (t := 222) d_Mo_execute_201 (by decide) (fun _ => ?_) (fun q => absurd q (by decide +kernel))
              refine j_iload d_Mo_execute_222 rfl ?_
              refine j_if_eq (t := 267) d_Mo_execute_224 (by decide) (fun _ => ?_) (fun q => absurd q (by decide +kernel))
              refine j_iload d_Mo_execute_267 rfl ?_
              refine j_if_eq (t := 290) d_Mo_execute_269 (by decide) (fun _ => ?_) (fun q => absurd q (by decide +kernel))
              refine n_iinc (k := 2) (lc' := [_, _, _, _, _, _, _, _, _, _]) d_Mo_execute_290 (by decide +kernel) rfl (by decide) rfl rfl ?_
              refine j_goto (t := 91) d_Mo_execute_293 (by decide) ?_
              exact ih (j + 1) _ _ _ _ (by omega) (by omega) (by rw [exFr, ifP_f (fun z => absurd z.1 (show ¬ inp σ t (p / 4 + 2 * j) from by rintro (z | z) <;> omega)), ← hτ])
            · refine j_iconst (v := nI 1) d_Mo_execute_156 (by decide +kernel) ?_
              refine j_goto (t := 161) d_Mo_execute_157 (by decide) ?_
              refine j_istore (lc' := [_, _, _, _, _, _, _, _, _, _]) d_Mo_execute_161 (by decide) rfl rfl ?_
              refine j_iload d_Mo_execute_163 rfl ?_
              refine j_if_eq (t := 199) d_Mo_execute_165 (by decide) (fun _ => ?_) (fun q => absurd q (by decide +kernel))
              refine j_iload d_Mo_execute_199 rfl ?_
              refine j_if_eq (t := 222) d_Mo_execute_201 (by decide) (fun _ => ?_) (fun q => absurd q (by decide +kernel))
              refine j_iload d_Mo_execute_222 rfl ?_
              refine j_if_eq (t := 267) d_Mo_execute_224 (by decide) (fun _ => ?_) (fun q => absurd q (by decide +kernel))
              refine j_iload d_Mo_execute_267 rfl ?_
              refine j_if_eq (t := 290) d_Mo_execute_269 (by decide) (fun q => absurd q (by decide +kernel)) (fun _ => ?_)
              first | refine j_aload_n d_Mo_execute_272 rfl ?_ | refine j_aload_nq d_Mo_execute_272 rfl ?_ | refine j_aload_nN d_Mo_execute_272 rfl ?_
              refine j_get d_Mo_execute_273 f_Mo_25 (hM_o (by decide)) rfl ?_
              refine j_iload_n d_Mo_execute_276 rfl ?_
              refine j_iald (t := 0) d_Mo_execute_277 rfl (hM_o (by decide)) rfl (by omega) (by decide) ?_
              refine j_iconst (v := nI 1) d_Mo_execute_278 (by decide +kernel) ?_
              first | refine nn_icmp_ne (t := 290) d_Mo_execute_279 (by decide) (by omega) (by omega) (fun c279 => ?_) (fun c279 => ?_) | refine mm_icmp_ne (t := 290) d_Mo_execute_279 (by decide) (by omega) (by omega) (fun c279 => ?_) (fun c279 => ?_) | refine mn_icmp_ne (t := 290) d_Mo_execute_279 (by decide) (by omega) (by omega) (fun c279 => ?_) (fun c279 => ?_) | refine nm_icmp_ne (t := 290) d_Mo_execute_279 (by decide) (by omega) (by omega) (fun c279 => ?_) (fun c279 => ?_) | refine j_icmp_ne (t := 290) d_Mo_execute_279 (by decide) (fun c279 => ?_) (fun c279 => ?_)
              · refine n_iinc (k := 2) (lc' := [_, _, _, _, _, _, _, _, _, _]) d_Mo_execute_290 (by decide +kernel) rfl (by decide) rfl rfl ?_
                refine j_goto (t := 91) d_Mo_execute_293 (by decide) ?_
                exact ih (j + 1) _ _ _ _ (by omega) (by omega) (by rw [exFr, ifP_f (fun z => absurd z.1 (show ¬ inp σ t (p / 4 + 2 * j) from by rintro (z | z) <;> omega)), ← hτ])
              · exfalso; first | exact c279 | omega
        · refine j_iconst (v := nI 1) d_Mo_execute_129 (by decide +kernel) ?_
          refine j_goto (t := 134) d_Mo_execute_130 (by decide) ?_
          refine j_istore (lc' := [_, _, _, _, _, _, _, _, _, _]) d_Mo_execute_134 (by decide) rfl rfl ?_
          refine j_iload d_Mo_execute_136 rfl ?_
          refine j_iconst (v := nI 2) d_Mo_execute_138 (by decide +kernel) ?_
          refine jn_idiv d_Mo_execute_139 (by omega) (by decide) (by decide) ?_
          refine j_iconst (v := nI 2) d_Mo_execute_140 (by decide +kernel) ?_
          refine j_iload_n d_Mo_execute_141 rfl ?_
          refine jn_iadd d_Mo_execute_142 ?_
          first | refine nn_icmp_ne (t := 160) d_Mo_execute_143 (by decide) (by omega) (by omega) (fun c143 => ?_) (fun c143 => ?_) | refine mm_icmp_ne (t := 160) d_Mo_execute_143 (by decide) (by omega) (by omega) (fun c143 => ?_) (fun c143 => ?_) | refine mn_icmp_ne (t := 160) d_Mo_execute_143 (by decide) (by omega) (by omega) (fun c143 => ?_) (fun c143 => ?_) | refine nm_icmp_ne (t := 160) d_Mo_execute_143 (by decide) (by omega) (by omega) (fun c143 => ?_) (fun c143 => ?_) | refine j_icmp_ne (t := 160) d_Mo_execute_143 (by decide) (fun c143 => ?_) (fun c143 => ?_)
          · refine j_iconst (v := nI 0) d_Mo_execute_160 (by decide +kernel) ?_
            refine j_istore (lc' := [_, _, _, _, _, _, _, _, _, _]) d_Mo_execute_161 (by decide) rfl rfl ?_
            refine j_iload d_Mo_execute_163 rfl ?_
            refine j_if_eq (t := 199) d_Mo_execute_165 (by decide) (fun q => absurd q (by decide +kernel)) (fun _ => ?_)
            first | refine j_aload_n d_Mo_execute_168 rfl ?_ | refine j_aload_nq d_Mo_execute_168 rfl ?_ | refine j_aload_nN d_Mo_execute_168 rfl ?_
            refine j_get d_Mo_execute_169 f_Mo_25 (hM_o (by decide)) rfl ?_
            refine j_iload_n d_Mo_execute_172 rfl ?_
            refine j_iald (t := 0) d_Mo_execute_173 rfl (hM_o (by decide)) rfl (by omega) (by decide) ?_
            first | refine c_if_ne (t := 199) d_Mo_execute_174 (by decide) (fun c174 => ?_) (fun c174 => ?_) | refine n_if_ne (t := 199) d_Mo_execute_174 (by decide) (by omega) (fun c174 => ?_) (fun c174 => ?_) | refine j_if_ne (t := 199) d_Mo_execute_174 (by decide) (fun c174 => ?_) (fun c174 => ?_)
            · refine j_iload d_Mo_execute_199 rfl ?_
              refine j_if_eq (t := 222) d_Mo_execute_201 (by decide) (fun q => absurd q (by decide +kernel)) (fun _ => ?_)
              first | refine j_aload_n d_Mo_execute_204 rfl ?_ | refine j_aload_nq d_Mo_execute_204 rfl ?_ | refine j_aload_nN d_Mo_execute_204 rfl ?_
              refine j_get d_Mo_execute_205 f_Mo_25 (hM_o (by decide)) rfl ?_
              refine j_iload_n d_Mo_execute_208 rfl ?_
              refine j_iald (t := 0) d_Mo_execute_209 rfl (hM_o (by decide)) rfl (by omega) (by decide) ?_
              refine j_iconst (v := nI 1) d_Mo_execute_210 (by decide +kernel) ?_
              first | refine nn_icmp_ne (t := 222) d_Mo_execute_211 (by decide) (by omega) (by omega) (fun c211 => ?_) (fun c211 => ?_) | refine mm_icmp_ne (t := 222) d_Mo_execute_211 (by decide) (by omega) (by omega) (fun c211 => ?_) (fun c211 => ?_) | refine mn_icmp_ne (t := 222) d_Mo_execute_211 (by decide) (by omega) (by omega) (fun c211 => ?_) (fun c211 => ?_) | refine nm_icmp_ne (t := 222) d_Mo_execute_211 (by decide) (by omega) (by omega) (fun c211 => ?_) (fun c211 => ?_) | refine j_icmp_ne (t := 222) d_Mo_execute_211 (by decide) (fun c211 => ?_) (fun c211 => ?_)
              · refine j_iload d_Mo_execute_222 rfl ?_
                refine j_if_eq (t := 267) d_Mo_execute_224 (by decide) (fun q => absurd q (by decide +kernel)) (fun _ => ?_)
                first | refine j_aload_n d_Mo_execute_227 rfl ?_ | refine j_aload_nq d_Mo_execute_227 rfl ?_ | refine j_aload_nN d_Mo_execute_227 rfl ?_
                refine j_get d_Mo_execute_228 f_Mo_25 (hM_o (by decide)) rfl ?_
                refine j_iload_n d_Mo_execute_231 rfl ?_
                refine j_iald (t := 0) d_Mo_execute_232 rfl (hM_o (by decide)) rfl (by omega) (by decide) ?_
                refine j_iconst (v := nI 2) d_Mo_execute_233 (by decide +kernel) ?_
                first | refine nn_icmp_ne (t := 267) d_Mo_execute_234 (by decide) (by omega) (by omega) (fun c234 => ?_) (fun c234 => ?_) | refine mm_icmp_ne (t := 267) d_Mo_execute_234 (by decide) (by omega) (by omega) (fun c234 => ?_) (fun c234 => ?_) | refine mn_icmp_ne (t := 267) d_Mo_execute_234 (by decide) (by omega) (by omega) (fun c234 => ?_) (fun c234 => ?_) | refine nm_icmp_ne (t := 267) d_Mo_execute_234 (by decide) (by omega) (by omega) (fun c234 => ?_) (fun c234 => ?_) | refine j_icmp_ne (t := 267) d_Mo_execute_234 (by decide) (fun c234 => ?_) (fun c234 => ?_)
                · exfalso; first | exact c234 | omega
                · first | refine j_aload_n d_Mo_execute_237 rfl ?_ | refine j_aload_nq d_Mo_execute_237 rfl ?_ | refine j_aload_nN d_Mo_execute_237 rfl ?_
                  refine j_get d_Mo_execute_238 f_Mo_31 (hM_o (by decide)) rfl ?_
                  refine j_iload d_Mo_execute_241 rfl ?_
                  refine o_fld (t := 0) (w := 20) d_Mo_execute_243 rfl (hM_o (by decide)) rfl (by omega) (by omega) (by decide) ?_
                  refine j_iconst (v := nI 2) d_Mo_execute_244 (by decide +kernel) ?_
                  first | refine nn_icmp_ne (t := 267) d_Mo_execute_245 (by decide) (by omega) (by omega) (fun c245 => ?_) (fun c245 => ?_) | refine mm_icmp_ne (t := 267) d_Mo_execute_245 (by decide) (by omega) (by omega) (fun c245 => ?_) (fun c245 => ?_) | refine mn_icmp_ne (t := 267) d_Mo_execute_245 (by decide) (by omega) (by omega) (fun c245 => ?_) (fun c245 => ?_) | refine nm_icmp_ne (t := 267) d_Mo_execute_245 (by decide) (by omega) (by omega) (fun c245 => ?_) (fun c245 => ?_) | refine j_icmp_ne (t := 267) d_Mo_execute_245 (by decide) (fun c245 => ?_) (fun c245 => ?_)
                  · refine j_iload d_Mo_execute_267 rfl ?_
                    refine j_if_eq (t := 290) d_Mo_execute_269 (by decide) (fun _ => ?_) (fun q => absurd q (by decide +kernel))
                    refine n_iinc (k := 2) (lc' := [_, _, _, _, _, _, _, _, _, _]) d_Mo_execute_290 (by decide +kernel) rfl (by decide) rfl rfl ?_
                    refine j_goto (t := 91) d_Mo_execute_293 (by decide) ?_
                    exact ih (j + 1) _ _ _ _ (by omega) (by omega) (by rw [exFr, ifP_f (fun z => c245 (by rw [hτ]; exact z.2.1)), ← hτ])
                  · first | refine j_aload_n d_Mo_execute_248 rfl ?_ | refine j_aload_nq d_Mo_execute_248 rfl ?_ | refine j_aload_nN d_Mo_execute_248 rfl ?_
                    refine j_get d_Mo_execute_249 f_Mo_34 (hM_o (by decide)) rfl ?_
                    refine j_iload d_Mo_execute_252 rfl ?_
                    refine o_fld (t := 0) (w := 20) d_Mo_execute_254 rfl (hM_o (by decide)) rfl (by omega) (by omega) (by decide) ?_
                    refine j_iload_n d_Mo_execute_255 rfl ?_
                    first | refine nn_icmp_ne (t := 267) d_Mo_execute_256 (by decide) (by omega) (by omega) (fun c256 => ?_) (fun c256 => ?_) | refine mm_icmp_ne (t := 267) d_Mo_execute_256 (by decide) (by omega) (by omega) (fun c256 => ?_) (fun c256 => ?_) | refine mn_icmp_ne (t := 267) d_Mo_execute_256 (by decide) (by omega) (by omega) (fun c256 => ?_) (fun c256 => ?_) | refine nm_icmp_ne (t := 267) d_Mo_execute_256 (by decide) (by omega) (by omega) (fun c256 => ?_) (fun c256 => ?_) | refine j_icmp_ne (t := 267) d_Mo_execute_256 (by decide) (fun c256 => ?_) (fun c256 => ?_)
                    · refine j_iload d_Mo_execute_267 rfl ?_
                      refine j_if_eq (t := 290) d_Mo_execute_269 (by decide) (fun _ => ?_) (fun q => absurd q (by decide +kernel))
                      refine n_iinc (k := 2) (lc' := [_, _, _, _, _, _, _, _, _, _]) d_Mo_execute_290 (by decide +kernel) rfl (by decide) rfl rfl ?_
                      refine j_goto (t := 91) d_Mo_execute_293 (by decide) ?_
                      exact ih (j + 1) _ _ _ _ (by omega) (by omega) (by rw [exFr, ifP_f (fun z => c256 (by rw [hτ]; exact z.2.2)), ← hτ])
                    · first | refine j_aload_n d_Mo_execute_259 rfl ?_ | refine j_aload_nq d_Mo_execute_259 rfl ?_ | refine j_aload_nN d_Mo_execute_259 rfl ?_
                      refine j_get d_Mo_execute_260 f_Mo_31 (hM_o (by decide)) rfl ?_
                      refine j_iload d_Mo_execute_263 rfl ?_
                      refine j_iconst (v := nI 1) d_Mo_execute_265 (by decide +kernel) ?_
                      refine j_iast (t := 0) d_Mo_execute_266 rfl (hM_o (by decide)) rfl (by omega) (by decide) (J.hq (o8 (by omega)) ?_)
                      generalize hτ' : U τ 8 p (p / 4 + 2 * j) 1 = τ'
                      have e6 : τ' 6 0 q = 2 := by rw [← hτ']; exact e6
                      refine j_iload d_Mo_execute_267 rfl ?_
                      refine j_if_eq (t := 290) d_Mo_execute_269 (by decide) (fun _ => ?_) (fun q => absurd q (by decide +kernel))
                      refine n_iinc (k := 2) (lc' := [_, _, _, _, _, _, _, _, _, _]) d_Mo_execute_290 (by decide +kernel) rfl (by decide) rfl rfl ?_
                      refine j_goto (t := 91) d_Mo_execute_293 (by decide) ?_
                      exact ih (j + 1) _ _ _ _ (by omega) (by omega) (by rw [← hτ', exFr, ifP_t ⟨(show inp σ t (p / 4 + 2 * j) from Or.inr (by omega)), by rw [← hτ]; exact c245, by rw [← hτ]; exact c256⟩, ← hτ])
              · exfalso; first | exact c211 | omega
            · exfalso; first | exact c174 | omega
          · first | refine j_aload_n d_Mo_execute_146 rfl ?_ | refine j_aload_nq d_Mo_execute_146 rfl ?_ | refine j_aload_nN d_Mo_execute_146 rfl ?_
            refine j_get d_Mo_execute_147 f_Mo_19 (hM_o (by decide)) rfl ?_
            refine j_iload d_Mo_execute_150 rfl ?_
            refine j_iald (t := 0) d_Mo_execute_152 rfl (hM_o (by decide)) rfl (by omega) (by decide) ?_
            first | refine n_if_le (t := 160) d_Mo_execute_153 (by decide) (by omega) (fun c153 => ?_) (fun c153 => ?_) | refine j_if_le (t := 160) d_Mo_execute_153 (by decide) (fun c153 => ?_) (fun c153 => ?_)
            · refine j_iconst (v := nI 0) d_Mo_execute_160 (by decide +kernel) ?_
              refine j_istore (lc' := [_, _, _, _, _, _, _, _, _, _]) d_Mo_execute_161 (by decide) rfl rfl ?_
              refine j_iload d_Mo_execute_163 rfl ?_
              refine j_if_eq (t := 199) d_Mo_execute_165 (by decide) (fun q => absurd q (by decide +kernel)) (fun _ => ?_)
              first | refine j_aload_n d_Mo_execute_168 rfl ?_ | refine j_aload_nq d_Mo_execute_168 rfl ?_ | refine j_aload_nN d_Mo_execute_168 rfl ?_
              refine j_get d_Mo_execute_169 f_Mo_25 (hM_o (by decide)) rfl ?_
              refine j_iload_n d_Mo_execute_172 rfl ?_
              refine j_iald (t := 0) d_Mo_execute_173 rfl (hM_o (by decide)) rfl (by omega) (by decide) ?_
              first | refine c_if_ne (t := 199) d_Mo_execute_174 (by decide) (fun c174 => ?_) (fun c174 => ?_) | refine n_if_ne (t := 199) d_Mo_execute_174 (by decide) (by omega) (fun c174 => ?_) (fun c174 => ?_) | refine j_if_ne (t := 199) d_Mo_execute_174 (by decide) (fun c174 => ?_) (fun c174 => ?_)
              · refine j_iload d_Mo_execute_199 rfl ?_
                refine j_if_eq (t := 222) d_Mo_execute_201 (by decide) (fun q => absurd q (by decide +kernel)) (fun _ => ?_)
                first | refine j_aload_n d_Mo_execute_204 rfl ?_ | refine j_aload_nq d_Mo_execute_204 rfl ?_ | refine j_aload_nN d_Mo_execute_204 rfl ?_
                refine j_get d_Mo_execute_205 f_Mo_25 (hM_o (by decide)) rfl ?_
                refine j_iload_n d_Mo_execute_208 rfl ?_
                refine j_iald (t := 0) d_Mo_execute_209 rfl (hM_o (by decide)) rfl (by omega) (by decide) ?_
                refine j_iconst (v := nI 1) d_Mo_execute_210 (by decide +kernel) ?_
                first | refine nn_icmp_ne (t := 222) d_Mo_execute_211 (by decide) (by omega) (by omega) (fun c211 => ?_) (fun c211 => ?_) | refine mm_icmp_ne (t := 222) d_Mo_execute_211 (by decide) (by omega) (by omega) (fun c211 => ?_) (fun c211 => ?_) | refine mn_icmp_ne (t := 222) d_Mo_execute_211 (by decide) (by omega) (by omega) (fun c211 => ?_) (fun c211 => ?_) | refine nm_icmp_ne (t := 222) d_Mo_execute_211 (by decide) (by omega) (by omega) (fun c211 => ?_) (fun c211 => ?_) | refine j_icmp_ne (t := 222) d_Mo_execute_211 (by decide) (fun c211 => ?_) (fun c211 => ?_)
                · refine j_iload d_Mo_execute_222 rfl ?_
                  refine j_if_eq (t := 267) d_Mo_execute_224 (by decide) (fun q => absurd q (by decide +kernel)) (fun _ => ?_)
                  first | refine j_aload_n d_Mo_execute_227 rfl ?_ | refine j_aload_nq d_Mo_execute_227 rfl ?_ | refine j_aload_nN d_Mo_execute_227 rfl ?_
                  refine j_get d_Mo_execute_228 f_Mo_25 (hM_o (by decide)) rfl ?_
                  refine j_iload_n d_Mo_execute_231 rfl ?_
                  refine j_iald (t := 0) d_Mo_execute_232 rfl (hM_o (by decide)) rfl (by omega) (by decide) ?_
                  refine j_iconst (v := nI 2) d_Mo_execute_233 (by decide +kernel) ?_
                  first | refine nn_icmp_ne (t := 267) d_Mo_execute_234 (by decide) (by omega) (by omega) (fun c234 => ?_) (fun c234 => ?_) | refine mm_icmp_ne (t := 267) d_Mo_execute_234 (by decide) (by omega) (by omega) (fun c234 => ?_) (fun c234 => ?_) | refine mn_icmp_ne (t := 267) d_Mo_execute_234 (by decide) (by omega) (by omega) (fun c234 => ?_) (fun c234 => ?_) | refine nm_icmp_ne (t := 267) d_Mo_execute_234 (by decide) (by omega) (by omega) (fun c234 => ?_) (fun c234 => ?_) | refine j_icmp_ne (t := 267) d_Mo_execute_234 (by decide) (fun c234 => ?_) (fun c234 => ?_)
                  · exfalso; first | exact c234 | omega
                  · first | refine j_aload_n d_Mo_execute_237 rfl ?_ | refine j_aload_nq d_Mo_execute_237 rfl ?_ | refine j_aload_nN d_Mo_execute_237 rfl ?_
                    refine j_get d_Mo_execute_238 f_Mo_31 (hM_o (by decide)) rfl ?_
                    refine j_iload d_Mo_execute_241 rfl ?_
                    refine o_fld (t := 0) (w := 20) d_Mo_execute_243 rfl (hM_o (by decide)) rfl (by omega) (by omega) (by decide) ?_
                    refine j_iconst (v := nI 2) d_Mo_execute_244 (by decide +kernel) ?_
                    first | refine nn_icmp_ne (t := 267) d_Mo_execute_245 (by decide) (by omega) (by omega) (fun c245 => ?_) (fun c245 => ?_) | refine mm_icmp_ne (t := 267) d_Mo_execute_245 (by decide) (by omega) (by omega) (fun c245 => ?_) (fun c245 => ?_) | refine mn_icmp_ne (t := 267) d_Mo_execute_245 (by decide) (by omega) (by omega) (fun c245 => ?_) (fun c245 => ?_) | refine nm_icmp_ne (t := 267) d_Mo_execute_245 (by decide) (by omega) (by omega) (fun c245 => ?_) (fun c245 => ?_) | refine j_icmp_ne (t := 267) d_Mo_execute_245 (by decide) (fun c245 => ?_) (fun c245 => ?_)
                    · refine j_iload d_Mo_execute_267 rfl ?_
                      refine j_if_eq (t := 290) d_Mo_execute_269 (by decide) (fun _ => ?_) (fun q => absurd q (by decide +kernel))
                      refine n_iinc (k := 2) (lc' := [_, _, _, _, _, _, _, _, _, _]) d_Mo_execute_290 (by decide +kernel) rfl (by decide) rfl rfl ?_
                      refine j_goto (t := 91) d_Mo_execute_293 (by decide) ?_
                      exact ih (j + 1) _ _ _ _ (by omega) (by omega) (by rw [exFr, ifP_f (fun z => c245 (by rw [hτ]; exact z.2.1)), ← hτ])
                    · first | refine j_aload_n d_Mo_execute_248 rfl ?_ | refine j_aload_nq d_Mo_execute_248 rfl ?_ | refine j_aload_nN d_Mo_execute_248 rfl ?_
                      refine j_get d_Mo_execute_249 f_Mo_34 (hM_o (by decide)) rfl ?_
                      refine j_iload d_Mo_execute_252 rfl ?_
                      refine o_fld (t := 0) (w := 20) d_Mo_execute_254 rfl (hM_o (by decide)) rfl (by omega) (by omega) (by decide) ?_
                      refine j_iload_n d_Mo_execute_255 rfl ?_
                      first | refine nn_icmp_ne (t := 267) d_Mo_execute_256 (by decide) (by omega) (by omega) (fun c256 => ?_) (fun c256 => ?_) | refine mm_icmp_ne (t := 267) d_Mo_execute_256 (by decide) (by omega) (by omega) (fun c256 => ?_) (fun c256 => ?_) | refine mn_icmp_ne (t := 267) d_Mo_execute_256 (by decide) (by omega) (by omega) (fun c256 => ?_) (fun c256 => ?_) | refine nm_icmp_ne (t := 267) d_Mo_execute_256 (by decide) (by omega) (by omega) (fun c256 => ?_) (fun c256 => ?_) | refine j_icmp_ne (t := 267) d_Mo_execute_256 (by decide) (fun c256 => ?_) (fun c256 => ?_)
                      · refine j_iload d_Mo_execute_267 rfl ?_
                        refine j_if_eq (t := 290) d_Mo_execute_269 (by decide) (fun _ => ?_) (fun q => absurd q (by decide +kernel))
                        refine n_iinc (k := 2) (lc' := [_, _, _, _, _, _, _, _, _, _]) d_Mo_execute_290 (by decide +kernel) rfl (by decide) rfl rfl ?_
                        refine j_goto (t := 91) d_Mo_execute_293 (by decide) ?_
                        exact ih (j + 1) _ _ _ _ (by omega) (by omega) (by rw [exFr, ifP_f (fun z => c256 (by rw [hτ]; exact z.2.2)), ← hτ])
                      · first | refine j_aload_n d_Mo_execute_259 rfl ?_ | refine j_aload_nq d_Mo_execute_259 rfl ?_ | refine j_aload_nN d_Mo_execute_259 rfl ?_
                        refine j_get d_Mo_execute_260 f_Mo_31 (hM_o (by decide)) rfl ?_
                        refine j_iload d_Mo_execute_263 rfl ?_
                        refine j_iconst (v := nI 1) d_Mo_execute_265 (by decide +kernel) ?_
                        refine j_iast (t := 0) d_Mo_execute_266 rfl (hM_o (by decide)) rfl (by omega) (by decide) (J.hq (o8 (by omega)) ?_)
                        generalize hτ' : U τ 8 p (p / 4 + 2 * j) 1 = τ'
                        have e6 : τ' 6 0 q = 2 := by rw [← hτ']; exact e6
                        refine j_iload d_Mo_execute_267 rfl ?_
                        refine j_if_eq (t := 290) d_Mo_execute_269 (by decide) (fun _ => ?_) (fun q => absurd q (by decide +kernel))
                        refine n_iinc (k := 2) (lc' := [_, _, _, _, _, _, _, _, _, _]) d_Mo_execute_290 (by decide +kernel) rfl (by decide) rfl rfl ?_
                        refine j_goto (t := 91) d_Mo_execute_293 (by decide) ?_
                        exact ih (j + 1) _ _ _ _ (by omega) (by omega) (by rw [← hτ', exFr, ifP_t ⟨(show inp σ t (p / 4 + 2 * j) from Or.inr (by omega)), by rw [← hτ]; exact c245, by rw [← hτ]; exact c256⟩, ← hτ])
                · exfalso; first | exact c211 | omega
              · exfalso; first | exact c174 | omega
            · refine j_iconst (v := nI 1) d_Mo_execute_156 (by decide +kernel) ?_
              refine j_goto (t := 161) d_Mo_execute_157 (by decide) ?_
              refine j_istore (lc' := [_, _, _, _, _, _, _, _, _, _]) d_Mo_execute_161 (by decide) rfl rfl ?_
              refine j_iload d_Mo_execute_163 rfl ?_
              refine j_if_eq (t := 199) d_Mo_execute_165 (by decide) (fun q => absurd q (by decide +kernel)) (fun _ => ?_)
              first | refine j_aload_n d_Mo_execute_168 rfl ?_ | refine j_aload_nq d_Mo_execute_168 rfl ?_ | refine j_aload_nN d_Mo_execute_168 rfl ?_
              refine j_get d_Mo_execute_169 f_Mo_25 (hM_o (by decide)) rfl ?_
              refine j_iload_n d_Mo_execute_172 rfl ?_
              refine j_iald (t := 0) d_Mo_execute_173 rfl (hM_o (by decide)) rfl (by omega) (by decide) ?_
              first | refine c_if_ne (t := 199) d_Mo_execute_174 (by decide) (fun c174 => ?_) (fun c174 => ?_) | refine n_if_ne (t := 199) d_Mo_execute_174 (by decide) (by omega) (fun c174 => ?_) (fun c174 => ?_) | refine j_if_ne (t := 199) d_Mo_execute_174 (by decide) (fun c174 => ?_) (fun c174 => ?_)
              · refine j_iload d_Mo_execute_199 rfl ?_
                refine j_if_eq (t := 222) d_Mo_execute_201 (by decide) (fun q => absurd q (by decide +kernel)) (fun _ => ?_)
                first | refine j_aload_n d_Mo_execute_204 rfl ?_ | refine j_aload_nq d_Mo_execute_204 rfl ?_ | refine j_aload_nN d_Mo_execute_204 rfl ?_
                refine j_get d_Mo_execute_205 f_Mo_25 (hM_o (by decide)) rfl ?_
                refine j_iload_n d_Mo_execute_208 rfl ?_
                refine j_iald (t := 0) d_Mo_execute_209 rfl (hM_o (by decide)) rfl (by omega) (by decide) ?_
                refine j_iconst (v := nI 1) d_Mo_execute_210 (by decide +kernel) ?_
                first | refine nn_icmp_ne (t := 222) d_Mo_execute_211 (by decide) (by omega) (by omega) (fun c211 => ?_) (fun c211 => ?_) | refine mm_icmp_ne (t := 222) d_Mo_execute_211 (by decide) (by omega) (by omega) (fun c211 => ?_) (fun c211 => ?_) | refine mn_icmp_ne (t := 222) d_Mo_execute_211 (by decide) (by omega) (by omega) (fun c211 => ?_) (fun c211 => ?_) | refine nm_icmp_ne (t := 222) d_Mo_execute_211 (by decide) (by omega) (by omega) (fun c211 => ?_) (fun c211 => ?_) | refine j_icmp_ne (t := 222) d_Mo_execute_211 (by decide) (fun c211 => ?_) (fun c211 => ?_)
                · refine j_iload d_Mo_execute_222 rfl ?_
                  refine j_if_eq (t := 267) d_Mo_execute_224 (by decide) (fun q => absurd q (by decide +kernel)) (fun _ => ?_)
                  first | refine j_aload_n d_Mo_execute_227 rfl ?_ | refine j_aload_nq d_Mo_execute_227 rfl ?_ | refine j_aload_nN d_Mo_execute_227 rfl ?_
                  refine j_get d_Mo_execute_228 f_Mo_25 (hM_o (by decide)) rfl ?_
                  refine j_iload_n d_Mo_execute_231 rfl ?_
                  refine j_iald (t := 0) d_Mo_execute_232 rfl (hM_o (by decide)) rfl (by omega) (by decide) ?_
                  refine j_iconst (v := nI 2) d_Mo_execute_233 (by decide +kernel) ?_
                  first | refine nn_icmp_ne (t := 267) d_Mo_execute_234 (by decide) (by omega) (by omega) (fun c234 => ?_) (fun c234 => ?_) | refine mm_icmp_ne (t := 267) d_Mo_execute_234 (by decide) (by omega) (by omega) (fun c234 => ?_) (fun c234 => ?_) | refine mn_icmp_ne (t := 267) d_Mo_execute_234 (by decide) (by omega) (by omega) (fun c234 => ?_) (fun c234 => ?_) | refine nm_icmp_ne (t := 267) d_Mo_execute_234 (by decide) (by omega) (by omega) (fun c234 => ?_) (fun c234 => ?_) | refine j_icmp_ne (t := 267) d_Mo_execute_234 (by decide) (fun c234 => ?_) (fun c234 => ?_)
                  · exfalso; first | exact c234 | omega
                  · first | refine j_aload_n d_Mo_execute_237 rfl ?_ | refine j_aload_nq d_Mo_execute_237 rfl ?_ | refine j_aload_nN d_Mo_execute_237 rfl ?_
                    refine j_get d_Mo_execute_238 f_Mo_31 (hM_o (by decide)) rfl ?_
                    refine j_iload d_Mo_execute_241 rfl ?_
                    refine o_fld (t := 0) (w := 20) d_Mo_execute_243 rfl (hM_o (by decide)) rfl (by omega) (by omega) (by decide) ?_
                    refine j_iconst (v := nI 2) d_Mo_execute_244 (by decide +kernel) ?_
                    first | refine nn_icmp_ne (t := 267) d_Mo_execute_245 (by decide) (by omega) (by omega) (fun c245 => ?_) (fun c245 => ?_) | refine mm_icmp_ne (t := 267) d_Mo_execute_245 (by decide) (by omega) (by omega) (fun c245 => ?_) (fun c245 => ?_) | refine mn_icmp_ne (t := 267) d_Mo_execute_245 (by decide) (by omega) (by omega) (fun c245 => ?_) (fun c245 => ?_) | refine nm_icmp_ne (t := 267) d_Mo_execute_245 (by decide) (by omega) (by omega) (fun c245 => ?_) (fun c245 => ?_) | refine j_icmp_ne (t := 267) d_Mo_execute_245 (by decide) (fun c245 => ?_) (fun c245 => ?_)
                    · refine j_iload d_Mo_execute_267 rfl ?_
                      refine j_if_eq (t := 290) d_Mo_execute_269 (by decide) (fun q => absurd q (by decide +kernel)) (fun _ => ?_)
                      first | refine j_aload_n d_Mo_execute_272 rfl ?_ | refine j_aload_nq d_Mo_execute_272 rfl ?_ | refine j_aload_nN d_Mo_execute_272 rfl ?_
                      refine j_get d_Mo_execute_273 f_Mo_25 (hM_o (by decide)) rfl ?_
                      refine j_iload_n d_Mo_execute_276 rfl ?_
                      refine j_iald (t := 0) d_Mo_execute_277 rfl (hM_o (by decide)) rfl (by omega) (by decide) ?_
                      refine j_iconst (v := nI 1) d_Mo_execute_278 (by decide +kernel) ?_
                      first | refine nn_icmp_ne (t := 290) d_Mo_execute_279 (by decide) (by omega) (by omega) (fun c279 => ?_) (fun c279 => ?_) | refine mm_icmp_ne (t := 290) d_Mo_execute_279 (by decide) (by omega) (by omega) (fun c279 => ?_) (fun c279 => ?_) | refine mn_icmp_ne (t := 290) d_Mo_execute_279 (by decide) (by omega) (by omega) (fun c279 => ?_) (fun c279 => ?_) | refine nm_icmp_ne (t := 290) d_Mo_execute_279 (by decide) (by omega) (by omega) (fun c279 => ?_) (fun c279 => ?_) | refine j_icmp_ne (t := 290) d_Mo_execute_279 (by decide) (fun c279 => ?_) (fun c279 => ?_)
                      · refine n_iinc (k := 2) (lc' := [_, _, _, _, _, _, _, _, _, _]) d_Mo_execute_290 (by decide +kernel) rfl (by decide) rfl rfl ?_
                        refine j_goto (t := 91) d_Mo_execute_293 (by decide) ?_
                        exact ih (j + 1) _ _ _ _ (by omega) (by omega) (by rw [exFr, ifP_f (fun z => c245 (by rw [hτ]; exact z.2.1)), ← hτ])
                      · exfalso; first | exact c279 | omega
                    · first | refine j_aload_n d_Mo_execute_248 rfl ?_ | refine j_aload_nq d_Mo_execute_248 rfl ?_ | refine j_aload_nN d_Mo_execute_248 rfl ?_
                      refine j_get d_Mo_execute_249 f_Mo_34 (hM_o (by decide)) rfl ?_
                      refine j_iload d_Mo_execute_252 rfl ?_
                      refine o_fld (t := 0) (w := 20) d_Mo_execute_254 rfl (hM_o (by decide)) rfl (by omega) (by omega) (by decide) ?_
                      refine j_iload_n d_Mo_execute_255 rfl ?_
                      first | refine nn_icmp_ne (t := 267) d_Mo_execute_256 (by decide) (by omega) (by omega) (fun c256 => ?_) (fun c256 => ?_) | refine mm_icmp_ne (t := 267) d_Mo_execute_256 (by decide) (by omega) (by omega) (fun c256 => ?_) (fun c256 => ?_) | refine mn_icmp_ne (t := 267) d_Mo_execute_256 (by decide) (by omega) (by omega) (fun c256 => ?_) (fun c256 => ?_) | refine nm_icmp_ne (t := 267) d_Mo_execute_256 (by decide) (by omega) (by omega) (fun c256 => ?_) (fun c256 => ?_) | refine j_icmp_ne (t := 267) d_Mo_execute_256 (by decide) (fun c256 => ?_) (fun c256 => ?_)
                      · refine j_iload d_Mo_execute_267 rfl ?_
                        refine j_if_eq (t := 290) d_Mo_execute_269 (by decide) (fun q => absurd q (by decide +kernel)) (fun _ => ?_)
                        first | refine j_aload_n d_Mo_execute_272 rfl ?_ | refine j_aload_nq d_Mo_execute_272 rfl ?_ | refine j_aload_nN d_Mo_execute_272 rfl ?_
                        refine j_get d_Mo_execute_273 f_Mo_25 (hM_o (by decide)) rfl ?_
                        refine j_iload_n d_Mo_execute_276 rfl ?_
                        refine j_iald (t := 0) d_Mo_execute_277 rfl (hM_o (by decide)) rfl (by omega) (by decide) ?_
                        refine j_iconst (v := nI 1) d_Mo_execute_278 (by decide +kernel) ?_
                        first | refine nn_icmp_ne (t := 290) d_Mo_execute_279 (by decide) (by omega) (by omega) (fun c279 => ?_) (fun c279 => ?_) | refine mm_icmp_ne (t := 290) d_Mo_execute_279 (by decide) (by omega) (by omega) (fun c279 => ?_) (fun c279 => ?_) | refine mn_icmp_ne (t := 290) d_Mo_execute_279 (by decide) (by omega) (by omega) (fun c279 => ?_) (fun c279 => ?_) | refine nm_icmp_ne (t := 290) d_Mo_execute_279 (by decide) (by omega) (by omega) (fun c279 => ?_) (fun c279 => ?_) | refine j_icmp_ne (t := 290) d_Mo_execute_279 (by decide) (fun c279 => ?_) (fun c279 => ?_)
                        · refine n_iinc (k := 2) (lc' := [_, _, _, _, _, _, _, _, _, _]) d_Mo_execute_290 (by decide +kernel) rfl (by decide) rfl rfl ?_
                          refine j_goto (t := 91) d_Mo_execute_293 (by decide) ?_
                          exact ih (j + 1) _ _ _ _ (by omega) (by omega) (by rw [exFr, ifP_f (fun z => c256 (by rw [hτ]; exact z.2.2)), ← hτ])
                        · exfalso; first | exact c279 | omega
                      · first | refine j_aload_n d_Mo_execute_259 rfl ?_ | refine j_aload_nq d_Mo_execute_259 rfl ?_ | refine j_aload_nN d_Mo_execute_259 rfl ?_
                        refine j_get d_Mo_execute_260 f_Mo_31 (hM_o (by decide)) rfl ?_
                        refine j_iload d_Mo_execute_263 rfl ?_
                        refine j_iconst (v := nI 1) d_Mo_execute_265 (by decide +kernel) ?_
                        refine j_iast (t := 0) d_Mo_execute_266 rfl (hM_o (by decide)) rfl (by omega) (by decide) (J.hq (o8 (by omega)) ?_)
                        generalize hτ' : U τ 8 p (p / 4 + 2 * j) 1 = τ'
                        have e6 : τ' 6 0 q = 2 := by rw [← hτ']; exact e6
                        refine j_iload d_Mo_execute_267 rfl ?_
                        refine j_if_eq (t := 290) d_Mo_execute_269 (by decide) (fun q => absurd q (by decide +kernel)) (fun _ => ?_)
                        first | refine j_aload_n d_Mo_execute_272 rfl ?_ | refine j_aload_nq d_Mo_execute_272 rfl ?_ | refine j_aload_nN d_Mo_execute_272 rfl ?_
                        refine j_get d_Mo_execute_273 f_Mo_25 (hM_o (by decide)) rfl ?_
                        refine j_iload_n d_Mo_execute_276 rfl ?_
                        refine j_iald (t := 0) d_Mo_execute_277 rfl (hM_o (by decide)) rfl (by omega) (by decide) ?_
                        refine j_iconst (v := nI 1) d_Mo_execute_278 (by decide +kernel) ?_
                        first | refine nn_icmp_ne (t := 290) d_Mo_execute_279 (by decide) (by omega) (by omega) (fun c279 => ?_) (fun c279 => ?_) | refine mm_icmp_ne (t := 290) d_Mo_execute_279 (by decide) (by omega) (by omega) (fun c279 => ?_) (fun c279 => ?_) | refine mn_icmp_ne (t := 290) d_Mo_execute_279 (by decide) (by omega) (by omega) (fun c279 => ?_) (fun c279 => ?_) | refine nm_icmp_ne (t := 290) d_Mo_execute_279 (by decide) (by omega) (by omega) (fun c279 => ?_) (fun c279 => ?_) | refine j_icmp_ne (t := 290) d_Mo_execute_279 (by decide) (fun c279 => ?_) (fun c279 => ?_)
                        · refine n_iinc (k := 2) (lc' := [_, _, _, _, _, _, _, _, _, _]) d_Mo_execute_290 (by decide +kernel) rfl (by decide) rfl rfl ?_
                          refine j_goto (t := 91) d_Mo_execute_293 (by decide) ?_
                          exact ih (j + 1) _ _ _ _ (by omega) (by omega) (by rw [← hτ', exFr, ifP_t ⟨(show inp σ t (p / 4 + 2 * j) from Or.inr (by omega)), by rw [← hτ]; exact c245, by rw [← hτ]; exact c256⟩, ← hτ])
                        · exfalso; first | exact c279 | omega
                · exfalso; first | exact c211 | omega
              · exfalso; first | exact c174 | omega

set_option maxHeartbeats 4000000 in
set_option maxRecDepth 100000 in
theorem lp_ex87_0 {l : Launch} {D : va_G} {M nx : Nat} {L : Int32} {σ ρ : Sg} {g : Nat → Option va_E} {p : Nat} (hp : p < 8) (hb : bd σ) (q t : Nat) (hq : q < 32) (ht : t < 8) (h16 : σ 10 p 0 < 16) (hk : σ 6 0 q = 0) (x6 x7 x8 x9 : Option Value) : J (G0 l D) jT m_Mo_execute 0 (fun v h => v = none ∧ h = (hM D M L (xT (exLk σ p t 10) p (σ 10 p 0) q (1)) ρ g, nx)) 0 0 87 [some (.ref (M + 0)), some (.int (nI p)), some (.int (nI q)), some (.int (nI t)), some (.int (nI (p / 4))), some (.int (nI 1)), x6, x7, x8, x9] [] (hM D M L σ ρ g, nx) := by
  refine j_iload d_Mo_execute_87 rfl ?_
  refine j_istore (lc' := [_, _, _, _, _, _, _, _, _, _]) d_Mo_execute_89 (by decide) rfl rfl ?_
  exact lp_ex_k0 hp hb q t hq ht h16 hk 11 0 _ _ _ _ (by omega) (by omega) rfl

set_option maxHeartbeats 4000000 in
set_option maxRecDepth 100000 in
theorem lp_ex87_0b {l : Launch} {D : va_G} {M nx : Nat} {L : Int32} {σ ρ : Sg} {g : Nat → Option va_E} {p : Nat} (hp : p < 8) (hb : bd σ) (q t : Nat) (hq : q < 32) (ht : t < 8) (h16 : σ 10 p 0 < 16) (hk : σ 6 0 q = 0) (x6 x7 x8 x9 : Option Value) : J (G0 l D) jT m_Mo_execute 0 (fun v h => v = none ∧ h = (hM D M L (xT (σ) p (σ 10 p 0) q (2)) ρ g, nx)) 0 0 87 [some (.ref (M + 0)), some (.int (nI p)), some (.int (nI q)), some (.int (nI t)), some (.int (nI (p / 4))), some (.int (nI 2)), x6, x7, x8, x9] [] (hM D M L σ ρ g, nx) := by
  refine j_iload d_Mo_execute_87 rfl ?_
  refine j_istore (lc' := [_, _, _, _, _, _, _, _, _, _]) d_Mo_execute_89 (by decide) rfl rfl ?_
  exact lp_ex_k0b hp hb q t hq ht h16 hk 11 0 _ _ _ _ (by omega) (by omega) rfl

set_option maxHeartbeats 4000000 in
set_option maxRecDepth 100000 in
theorem lp_ex87_1 {l : Launch} {D : va_G} {M nx : Nat} {L : Int32} {σ ρ : Sg} {g : Nat → Option va_E} {p : Nat} (hp : p < 8) (hb : bd σ) (q t : Nat) (hq : q < 32) (ht : t < 8) (h16 : σ 10 p 0 < 16) (hk : σ 6 0 q = 1) (hin : σ 1 0 t < 4 + 2 * t ∧ σ 2 0 t ≤ 4 + 2 * t) (x6 x7 x8 x9 : Option Value) : J (G0 l D) jT m_Mo_execute 0 (fun v h => v = none ∧ h = (hM D M L (xT (exSp σ p t 10) p (σ 10 p 0) q (1)) ρ g, nx)) 0 0 87 [some (.ref (M + 0)), some (.int (nI p)), some (.int (nI q)), some (.int (nI t)), some (.int (nI (p / 4))), some (.int (nI 1)), x6, x7, x8, x9] [] (hM D M L σ ρ g, nx) := by
  refine j_iload d_Mo_execute_87 rfl ?_
  refine j_istore (lc' := [_, _, _, _, _, _, _, _, _, _]) d_Mo_execute_89 (by decide) rfl rfl ?_
  exact lp_ex_k1 hp hb q t hq ht h16 hk hin 11 0 _ _ _ _ (by omega) (by omega) rfl

set_option maxHeartbeats 4000000 in
set_option maxRecDepth 100000 in
theorem lp_ex87_2 {l : Launch} {D : va_G} {M nx : Nat} {L : Int32} {σ ρ : Sg} {g : Nat → Option va_E} {p : Nat} (hp : p < 8) (hb : bd σ) (q t : Nat) (hq : q < 32) (ht : t < 8) (h16 : σ 10 p 0 < 16) (hk : σ 6 0 q = 2) (x6 x7 x8 x9 : Option Value) : J (G0 l D) jT m_Mo_execute 0 (fun v h => v = none ∧ h = (hM D M L (xT (exFr σ p t 10) p (σ 10 p 0) q (1)) ρ g, nx)) 0 0 87 [some (.ref (M + 0)), some (.int (nI p)), some (.int (nI q)), some (.int (nI t)), some (.int (nI (p / 4))), some (.int (nI 1)), x6, x7, x8, x9] [] (hM D M L σ ρ g, nx) := by
  refine j_iload d_Mo_execute_87 rfl ?_
  refine j_istore (lc' := [_, _, _, _, _, _, _, _, _, _]) d_Mo_execute_89 (by decide) rfl rfl ?_
  exact lp_ex_k2 hp hb q t hq ht h16 hk 11 0 _ _ _ _ (by omega) (by omega) rfl

theorem lkBad_s {σ : Sg} {p t j : Nat} : lkBad σ p t (j + 1) ↔ (lkBad σ p t j ∨ (inp σ t (p / 4 + 2 * j) ∧ ¬ σ 8 p (p / 4 + 2 * j) = 1)) := by
  constructor
  · rintro ⟨i, h1, h2⟩
    by_cases e : i = j
    · subst e; exact Or.inr h2
    · exact Or.inl ⟨i, by omega, h2⟩
  · rintro (⟨i, h1, h2⟩ | h)
    · exact ⟨i, by omega, h2⟩
    · exact ⟨j, by omega, h⟩

theorem lk1 {σ : Sg} {p t j r : Nat} (hr : (r = 1 ∧ ¬ lkBad σ p t j) ∨ (r = 2 ∧ lkBad σ p t j)) (h : ¬ (inp σ t (p / 4 + 2 * j) ∧ ¬ σ 8 p (p / 4 + 2 * j) = 1)) : (r = 1 ∧ ¬ lkBad σ p t (j + 1)) ∨ (r = 2 ∧ lkBad σ p t (j + 1)) := by
  rw [lkBad_s]
  rcases hr with ⟨a, b⟩ | ⟨a, b⟩
  · exact Or.inl ⟨a, fun z => z.elim b h⟩
  · exact Or.inr ⟨a, Or.inl b⟩

set_option maxHeartbeats 4000000 in
set_option maxRecDepth 100000 in
theorem lp_ex_1 {l : Launch} {D : va_G} {M nx : Nat} {L : Int32} {σ ρ : Sg} {g : Nat → Option va_E} {p : Nat} (hp : p < 8) (hb : bd σ) (q t : Nat) (hq : q < 32) (ht : t < 8) (h16 : σ 10 p 0 < 16) (hk : σ 6 0 q = 0) : ∀ (m : Nat) (j r : Nat), j ≤ 10 → 10 - j < m → ((r = 1 ∧ ¬ lkBad σ p t j) ∨ (r = 2 ∧ lkBad σ p t j)) → J (G0 l D) jT m_Mo_execute 0 (fun v h => v = none ∧ h = (hM D M L (xT (ifP (lkBad σ p t 10) σ (exLk σ p t 10)) p (σ 10 p 0) q (ifP (lkBad σ p t 10) 2 1)) ρ g, nx)) 0 0 28 [some (.ref (M + 0)), some (.int (nI p)), some (.int (nI q)), some (.int (nI t)), some (.int (nI (p / 4))), some (.int (nI r)), some (.int (nI (p / 4 + 2 * j))), none, none, none] [] (hM D M L σ ρ g, nx) := by
  intro m
  induction m with
  | zero =>
    intros
    exfalso
    omega
  | succ m ih =>
    intro j r h1 h2 hr
    have b1 := hb 1 0 t
    have b2 := hb 2 0 t
    have b8 := hb 8 p (p / 4 + 2 * j)
    refine j_iload d_Mo_execute_28 rfl ?_
    refine j_bipush (v := nI 20) d_Mo_execute_30 (by decide +kernel) ?_
    first | refine nn_icmp_ge (t := 87) d_Mo_execute_32 (by decide) (by omega) (by omega) (fun c32 => ?_) (fun c32 => ?_) | refine mm_icmp_ge (t := 87) d_Mo_execute_32 (by decide) (by omega) (by omega) (fun c32 => ?_) (fun c32 => ?_) | refine mn_icmp_ge (t := 87) d_Mo_execute_32 (by decide) (by omega) (by omega) (fun c32 => ?_) (fun c32 => ?_) | refine nm_icmp_ge (t := 87) d_Mo_execute_32 (by decide) (by omega) (by omega) (fun c32 => ?_) (fun c32 => ?_) | refine j_icmp_ge (t := 87) d_Mo_execute_32 (by decide) (fun c32 => ?_) (fun c32 => ?_)
    · have hj : j = 10 := by omega
      subst hj
      rcases hr with ⟨rfl, b⟩ | ⟨rfl, b⟩
      · rw [ifP_f b, ifP_f b]
        exact lp_ex87_0 hp hb q t hq ht h16 hk _ _ _ _
      · rw [ifP_t b, ifP_t b]
        exact lp_ex87_0b hp hb q t hq ht h16 hk _ _ _ _
    · refine j_iload d_Mo_execute_35 rfl ?_
      first | refine j_aload_n d_Mo_execute_37 rfl ?_ | refine j_aload_nq d_Mo_execute_37 rfl ?_ | refine j_aload_nN d_Mo_execute_37 rfl ?_
      refine j_get d_Mo_execute_38 f_Mo_7 (hM_o (by decide)) rfl ?_
      refine j_iload_n d_Mo_execute_41 rfl ?_
      refine j_iald (t := 0) d_Mo_execute_42 rfl (hM_o (by decide)) rfl (by omega) (by decide) ?_
      first | refine nn_icmp_eq (t := 57) d_Mo_execute_43 (by decide) (by omega) (by omega) (fun c43 => ?_) (fun c43 => ?_) | refine mm_icmp_eq (t := 57) d_Mo_execute_43 (by decide) (by omega) (by omega) (fun c43 => ?_) (fun c43 => ?_) | refine mn_icmp_eq (t := 57) d_Mo_execute_43 (by decide) (by omega) (by omega) (fun c43 => ?_) (fun c43 => ?_) | refine nm_icmp_eq (t := 57) d_Mo_execute_43 (by decide) (by omega) (by omega) (fun c43 => ?_) (fun c43 => ?_) | refine j_icmp_eq (t := 57) d_Mo_execute_43 (by decide) (fun c43 => ?_) (fun c43 => ?_)
      · first | refine j_aload_n d_Mo_execute_57 rfl ?_ | refine j_aload_nq d_Mo_execute_57 rfl ?_ | refine j_aload_nN d_Mo_execute_57 rfl ?_
        refine j_get d_Mo_execute_58 f_Mo_31 (hM_o (by decide)) rfl ?_
        refine j_bipush (v := nI 20) d_Mo_execute_61 (by decide +kernel) ?_
        refine j_iload_n d_Mo_execute_63 rfl ?_
        refine jn_imul d_Mo_execute_64 ?_
        refine j_iload d_Mo_execute_65 rfl ?_
        refine jn_iadd d_Mo_execute_67 ?_
        refine o_fld (t := 0) (w := 20) d_Mo_execute_68 rfl (hM_o (by decide)) rfl (by omega) (by omega) (by decide) ?_
        refine j_iconst (v := nI 1) d_Mo_execute_69 (by decide +kernel) ?_
        first | refine nn_icmp_eq (t := 77) d_Mo_execute_70 (by decide) (by omega) (by omega) (fun c70 => ?_) (fun c70 => ?_) | refine mm_icmp_eq (t := 77) d_Mo_execute_70 (by decide) (by omega) (by omega) (fun c70 => ?_) (fun c70 => ?_) | refine mn_icmp_eq (t := 77) d_Mo_execute_70 (by decide) (by omega) (by omega) (fun c70 => ?_) (fun c70 => ?_) | refine nm_icmp_eq (t := 77) d_Mo_execute_70 (by decide) (by omega) (by omega) (fun c70 => ?_) (fun c70 => ?_) | refine j_icmp_eq (t := 77) d_Mo_execute_70 (by decide) (fun c70 => ?_) (fun c70 => ?_)
        · refine j_iload d_Mo_execute_77 rfl ?_
          refine j_istore (lc' := [_, _, _, _, _, _, _, _, _, _]) d_Mo_execute_79 (by decide) rfl rfl ?_
          refine n_iinc (k := 2) (lc' := [_, _, _, _, _, _, _, _, _, _]) d_Mo_execute_81 (by decide +kernel) rfl (by decide) rfl rfl ?_
          refine j_goto (t := 28) d_Mo_execute_84 (by decide) ?_
          exact ih (j + 1) _ (by omega) (by omega) (lk1 hr (fun z => z.2 c70))
        · refine j_iconst (v := nI 2) d_Mo_execute_73 (by decide +kernel) ?_
          refine j_goto (t := 79) d_Mo_execute_74 (by decide) ?_
          refine j_istore (lc' := [_, _, _, _, _, _, _, _, _, _]) d_Mo_execute_79 (by decide) rfl rfl ?_
          refine n_iinc (k := 2) (lc' := [_, _, _, _, _, _, _, _, _, _]) d_Mo_execute_81 (by decide +kernel) rfl (by decide) rfl rfl ?_
          refine j_goto (t := 28) d_Mo_execute_84 (by decide) ?_
          exact ih (j + 1) _ (by omega) (by omega) (Or.inr ⟨rfl, lkBad_s.mpr (Or.inr ⟨(Or.inl (by omega)), c70⟩)⟩)
      · refine j_iload d_Mo_execute_46 rfl ?_
        first | refine j_aload_n d_Mo_execute_48 rfl ?_ | refine j_aload_nq d_Mo_execute_48 rfl ?_ | refine j_aload_nN d_Mo_execute_48 rfl ?_
        refine j_get d_Mo_execute_49 f_Mo_13 (hM_o (by decide)) rfl ?_
        refine j_iload_n d_Mo_execute_52 rfl ?_
        refine j_iald (t := 0) d_Mo_execute_53 rfl (hM_o (by decide)) rfl (by omega) (by decide) ?_
        first | refine nn_icmp_ne (t := 77) d_Mo_execute_54 (by decide) (by omega) (by omega) (fun c54 => ?_) (fun c54 => ?_) | refine mm_icmp_ne (t := 77) d_Mo_execute_54 (by decide) (by omega) (by omega) (fun c54 => ?_) (fun c54 => ?_) | refine mn_icmp_ne (t := 77) d_Mo_execute_54 (by decide) (by omega) (by omega) (fun c54 => ?_) (fun c54 => ?_) | refine nm_icmp_ne (t := 77) d_Mo_execute_54 (by decide) (by omega) (by omega) (fun c54 => ?_) (fun c54 => ?_) | refine j_icmp_ne (t := 77) d_Mo_execute_54 (by decide) (fun c54 => ?_) (fun c54 => ?_)
        · refine j_iload d_Mo_execute_77 rfl ?_
          refine j_istore (lc' := [_, _, _, _, _, _, _, _, _, _]) d_Mo_execute_79 (by decide) rfl rfl ?_
          refine n_iinc (k := 2) (lc' := [_, _, _, _, _, _, _, _, _, _]) d_Mo_execute_81 (by decide +kernel) rfl (by decide) rfl rfl ?_
          refine j_goto (t := 28) d_Mo_execute_84 (by decide) ?_
          exact ih (j + 1) _ (by omega) (by omega) (lk1 hr (fun z => absurd z.1 (show ¬ inp σ t (p / 4 + 2 * j) from by rintro (z | z) <;> omega)))
        · first | refine j_aload_n d_Mo_execute_57 rfl ?_ | refine j_aload_nq d_Mo_execute_57 rfl ?_ | refine j_aload_nN d_Mo_execute_57 rfl ?_
          refine j_get d_Mo_execute_58 f_Mo_31 (hM_o (by decide)) rfl ?_
          refine j_bipush (v := nI 20) d_Mo_execute_61 (by decide +kernel) ?_
          refine j_iload_n d_Mo_execute_63 rfl ?_
          refine jn_imul d_Mo_execute_64 ?_
          refine j_iload d_Mo_execute_65 rfl ?_
          refine jn_iadd d_Mo_execute_67 ?_
          refine o_fld (t := 0) (w := 20) d_Mo_execute_68 rfl (hM_o (by decide)) rfl (by omega) (by omega) (by decide) ?_
          refine j_iconst (v := nI 1) d_Mo_execute_69 (by decide +kernel) ?_
          first | refine nn_icmp_eq (t := 77) d_Mo_execute_70 (by decide) (by omega) (by omega) (fun c70 => ?_) (fun c70 => ?_) | refine mm_icmp_eq (t := 77) d_Mo_execute_70 (by decide) (by omega) (by omega) (fun c70 => ?_) (fun c70 => ?_) | refine mn_icmp_eq (t := 77) d_Mo_execute_70 (by decide) (by omega) (by omega) (fun c70 => ?_) (fun c70 => ?_) | refine nm_icmp_eq (t := 77) d_Mo_execute_70 (by decide) (by omega) (by omega) (fun c70 => ?_) (fun c70 => ?_) | refine j_icmp_eq (t := 77) d_Mo_execute_70 (by decide) (fun c70 => ?_) (fun c70 => ?_)
          · refine j_iload d_Mo_execute_77 rfl ?_
            refine j_istore (lc' := [_, _, _, _, _, _, _, _, _, _]) d_Mo_execute_79 (by decide) rfl rfl ?_
            refine n_iinc (k := 2) (lc' := [_, _, _, _, _, _, _, _, _, _]) d_Mo_execute_81 (by decide +kernel) rfl (by decide) rfl rfl ?_
            refine j_goto (t := 28) d_Mo_execute_84 (by decide) ?_
            exact ih (j + 1) _ (by omega) (by omega) (lk1 hr (fun z => z.2 c70))
          · refine j_iconst (v := nI 2) d_Mo_execute_73 (by decide +kernel) ?_
            refine j_goto (t := 79) d_Mo_execute_74 (by decide) ?_
            refine j_istore (lc' := [_, _, _, _, _, _, _, _, _, _]) d_Mo_execute_79 (by decide) rfl rfl ?_
            refine n_iinc (k := 2) (lc' := [_, _, _, _, _, _, _, _, _, _]) d_Mo_execute_81 (by decide +kernel) rfl (by decide) rfl rfl ?_
            refine j_goto (t := 28) d_Mo_execute_84 (by decide) ?_
            exact ih (j + 1) _ (by omega) (by omega) (Or.inr ⟨rfl, lkBad_s.mpr (Or.inr ⟨(Or.inr (by omega)), c70⟩)⟩)

set_option maxHeartbeats 4000000 in
set_option maxRecDepth 100000 in
theorem m_execute0 {l : Launch} {D : va_G} {M nx : Nat} {L : Int32} {σ ρ : Sg} {g : Nat → Option va_E} {p : Nat} (hp : p < 8) (hb : bd σ) (q : Nat) (hq : q < 32) (ht : σ 7 0 q < 8) (h16 : σ 10 p 0 < 16) (hk : σ 6 0 q = 0) : jM (G0 l D) m_Mo_execute 0 0 0 [.ref (M + 0), .int (nI p), .int (nI q)] (hM D M L σ ρ g, nx) (fun v h => v = none ∧ h = (hM D M L (xS σ p q) ρ g, nx)) := by
  refine jM.of (by decide +kernel) (Nat.le_of_ble_eq_true rfl) rfl ?_
  have b6 := hb 6 0 q
  first | refine j_aload_n d_Mo_execute_0 rfl ?_ | refine j_aload_nq d_Mo_execute_0 rfl ?_ | refine j_aload_nN d_Mo_execute_0 rfl ?_
  refine j_get d_Mo_execute_1 f_Mo_28 (hM_o (by decide)) rfl ?_
  refine j_iload_n d_Mo_execute_4 rfl ?_
  refine j_iald (t := 0) d_Mo_execute_5 rfl (hM_o (by decide)) rfl (by omega) (by decide) ?_
  refine j_istore_n (lc' := [_, _, _, _, _, _, _, _, _, _]) d_Mo_execute_6 (by decide) rfl rfl ?_
  refine j_iload_n d_Mo_execute_7 rfl ?_
  refine j_iconst (v := nI 4) d_Mo_execute_8 (by decide +kernel) ?_
  refine jn_idiv d_Mo_execute_9 (by omega) (by decide) (by decide) ?_
  refine j_istore (lc' := [_, _, _, _, _, _, _, _, _, _]) d_Mo_execute_10 (by decide) rfl rfl ?_
  refine j_iconst (v := nI 1) d_Mo_execute_12 (by decide +kernel) ?_
  refine j_istore (lc' := [_, _, _, _, _, _, _, _, _, _]) d_Mo_execute_13 (by decide) rfl rfl ?_
  first | refine j_aload_n d_Mo_execute_15 rfl ?_ | refine j_aload_nq d_Mo_execute_15 rfl ?_ | refine j_aload_nN d_Mo_execute_15 rfl ?_
  refine j_get d_Mo_execute_16 f_Mo_25 (hM_o (by decide)) rfl ?_
  refine j_iload_n d_Mo_execute_19 rfl ?_
  refine j_iald (t := 0) d_Mo_execute_20 rfl (hM_o (by decide)) rfl (by omega) (by decide) ?_
  first | refine c_if_ne (t := 87) d_Mo_execute_21 (by decide) (fun c21 => ?_) (fun c21 => ?_) | refine n_if_ne (t := 87) d_Mo_execute_21 (by decide) (by omega) (fun c21 => ?_) (fun c21 => ?_) | refine j_if_ne (t := 87) d_Mo_execute_21 (by decide) (fun c21 => ?_) (fun c21 => ?_)
  · exfalso; first | exact c21 | omega
  · refine j_iload d_Mo_execute_24 rfl ?_
    refine j_istore (lc' := [_, _, _, _, _, _, _, _, _, _]) d_Mo_execute_26 (by decide) rfl rfl ?_
    have hx := lp_ex_1 (l := l) (D := D) (M := M) (nx := nx) (L := L) (ρ := ρ) (g := g) hp hb q (σ 7 0 q) hq ht h16 hk 11 0 1 (by omega) (by omega) (Or.inl ⟨rfl, by rintro ⟨i, h1, -⟩; omega⟩)
    unfold xS exS exR
    rw [hk, ifP_t rfl, show ifP (0 = 0 ∧ lkBad σ p (σ 7 0 q) 10) 2 1 = ifP (lkBad σ p (σ 7 0 q) 10) 2 1 from by by_cases z : lkBad σ p (σ 7 0 q) 10; rw [ifP_t z, ifP_t ⟨rfl, z⟩]; rw [ifP_f z, ifP_f (fun y => z y.2)]]
    exact hx

set_option maxHeartbeats 4000000 in
set_option maxRecDepth 100000 in
theorem m_execute1 {l : Launch} {D : va_G} {M nx : Nat} {L : Int32} {σ ρ : Sg} {g : Nat → Option va_E} {p : Nat} (hp : p < 8) (hb : bd σ) (q : Nat) (hq : q < 32) (ht : σ 7 0 q < 8) (h16 : σ 10 p 0 < 16) (hk : σ 6 0 q = 1) (hin : σ 1 0 (σ 7 0 q) < 4 + 2 * σ 7 0 q ∧ σ 2 0 (σ 7 0 q) ≤ 4 + 2 * σ 7 0 q) : jM (G0 l D) m_Mo_execute 0 0 0 [.ref (M + 0), .int (nI p), .int (nI q)] (hM D M L σ ρ g, nx) (fun v h => v = none ∧ h = (hM D M L (xS σ p q) ρ g, nx)) := by
  refine jM.of (by decide +kernel) (Nat.le_of_ble_eq_true rfl) rfl ?_
  have b6 := hb 6 0 q
  first | refine j_aload_n d_Mo_execute_0 rfl ?_ | refine j_aload_nq d_Mo_execute_0 rfl ?_ | refine j_aload_nN d_Mo_execute_0 rfl ?_
  refine j_get d_Mo_execute_1 f_Mo_28 (hM_o (by decide)) rfl ?_
  refine j_iload_n d_Mo_execute_4 rfl ?_
  refine j_iald (t := 0) d_Mo_execute_5 rfl (hM_o (by decide)) rfl (by omega) (by decide) ?_
  refine j_istore_n (lc' := [_, _, _, _, _, _, _, _, _, _]) d_Mo_execute_6 (by decide) rfl rfl ?_
  refine j_iload_n d_Mo_execute_7 rfl ?_
  refine j_iconst (v := nI 4) d_Mo_execute_8 (by decide +kernel) ?_
  refine jn_idiv d_Mo_execute_9 (by omega) (by decide) (by decide) ?_
  refine j_istore (lc' := [_, _, _, _, _, _, _, _, _, _]) d_Mo_execute_10 (by decide) rfl rfl ?_
  refine j_iconst (v := nI 1) d_Mo_execute_12 (by decide +kernel) ?_
  refine j_istore (lc' := [_, _, _, _, _, _, _, _, _, _]) d_Mo_execute_13 (by decide) rfl rfl ?_
  first | refine j_aload_n d_Mo_execute_15 rfl ?_ | refine j_aload_nq d_Mo_execute_15 rfl ?_ | refine j_aload_nN d_Mo_execute_15 rfl ?_
  refine j_get d_Mo_execute_16 f_Mo_25 (hM_o (by decide)) rfl ?_
  refine j_iload_n d_Mo_execute_19 rfl ?_
  refine j_iald (t := 0) d_Mo_execute_20 rfl (hM_o (by decide)) rfl (by omega) (by decide) ?_
  first | refine c_if_ne (t := 87) d_Mo_execute_21 (by decide) (fun c21 => ?_) (fun c21 => ?_) | refine n_if_ne (t := 87) d_Mo_execute_21 (by decide) (by omega) (fun c21 => ?_) (fun c21 => ?_) | refine j_if_ne (t := 87) d_Mo_execute_21 (by decide) (fun c21 => ?_) (fun c21 => ?_)
  · unfold xS exS exR
    rw [hk, ifP_f (by decide), ifP_t rfl, ifP_f (fun z => absurd z.1 (by decide))]
    exact lp_ex87_1 hp hb q (σ 7 0 q) hq ht h16 hk hin _ _ _ _
  · exfalso; first | exact c21 | omega

set_option maxHeartbeats 4000000 in
set_option maxRecDepth 100000 in
theorem m_execute2 {l : Launch} {D : va_G} {M nx : Nat} {L : Int32} {σ ρ : Sg} {g : Nat → Option va_E} {p : Nat} (hp : p < 8) (hb : bd σ) (q : Nat) (hq : q < 32) (ht : σ 7 0 q < 8) (h16 : σ 10 p 0 < 16) (hk : σ 6 0 q = 2) : jM (G0 l D) m_Mo_execute 0 0 0 [.ref (M + 0), .int (nI p), .int (nI q)] (hM D M L σ ρ g, nx) (fun v h => v = none ∧ h = (hM D M L (xS σ p q) ρ g, nx)) := by
  refine jM.of (by decide +kernel) (Nat.le_of_ble_eq_true rfl) rfl ?_
  have b6 := hb 6 0 q
  first | refine j_aload_n d_Mo_execute_0 rfl ?_ | refine j_aload_nq d_Mo_execute_0 rfl ?_ | refine j_aload_nN d_Mo_execute_0 rfl ?_
  refine j_get d_Mo_execute_1 f_Mo_28 (hM_o (by decide)) rfl ?_
  refine j_iload_n d_Mo_execute_4 rfl ?_
  refine j_iald (t := 0) d_Mo_execute_5 rfl (hM_o (by decide)) rfl (by omega) (by decide) ?_
  refine j_istore_n (lc' := [_, _, _, _, _, _, _, _, _, _]) d_Mo_execute_6 (by decide) rfl rfl ?_
  refine j_iload_n d_Mo_execute_7 rfl ?_
  refine j_iconst (v := nI 4) d_Mo_execute_8 (by decide +kernel) ?_
  refine jn_idiv d_Mo_execute_9 (by omega) (by decide) (by decide) ?_
  refine j_istore (lc' := [_, _, _, _, _, _, _, _, _, _]) d_Mo_execute_10 (by decide) rfl rfl ?_
  refine j_iconst (v := nI 1) d_Mo_execute_12 (by decide +kernel) ?_
  refine j_istore (lc' := [_, _, _, _, _, _, _, _, _, _]) d_Mo_execute_13 (by decide) rfl rfl ?_
  first | refine j_aload_n d_Mo_execute_15 rfl ?_ | refine j_aload_nq d_Mo_execute_15 rfl ?_ | refine j_aload_nN d_Mo_execute_15 rfl ?_
  refine j_get d_Mo_execute_16 f_Mo_25 (hM_o (by decide)) rfl ?_
  refine j_iload_n d_Mo_execute_19 rfl ?_
  refine j_iald (t := 0) d_Mo_execute_20 rfl (hM_o (by decide)) rfl (by omega) (by decide) ?_
  first | refine c_if_ne (t := 87) d_Mo_execute_21 (by decide) (fun c21 => ?_) (fun c21 => ?_) | refine n_if_ne (t := 87) d_Mo_execute_21 (by decide) (by omega) (fun c21 => ?_) (fun c21 => ?_) | refine j_if_ne (t := 87) d_Mo_execute_21 (by decide) (fun c21 => ?_) (fun c21 => ?_)
  · unfold xS exS exR
    rw [hk, ifP_f (by decide), ifP_f (by decide), ifP_f (fun z => absurd z.1 (by decide))]
    exact lp_ex87_2 hp hb q (σ 7 0 q) hq ht h16 hk _ _ _ _
  · exfalso; first | exact c21 | omega

theorem m_execute {l : Launch} {D : va_G} {M nx : Nat} {L : Int32} {σ ρ : Sg} {g : Nat → Option va_E} {p : Nat} (hp : p < 8) (hb : bd σ) (q : Nat) (hq : q < 32) (ht : σ 7 0 q < 8) (h16 : σ 10 p 0 < 16) (h6 : σ 6 0 q < 3) (hin : σ 1 0 (σ 7 0 q) < 4 + 2 * σ 7 0 q ∧ σ 2 0 (σ 7 0 q) ≤ 4 + 2 * σ 7 0 q) : jM (G0 l D) m_Mo_execute 0 0 0 [.ref (M + 0), .int (nI p), .int (nI q)] (hM D M L σ ρ g, nx) (fun v h => v = none ∧ h = (hM D M L (xS σ p q) ρ g, nx)) := by
  have : σ 6 0 q = 0 ∨ σ 6 0 q = 1 ∨ σ 6 0 q = 2 := by omega
  rcases this with h | h | h
  · exact m_execute0 hp hb q hq ht h16 h
  · exact m_execute1 hp hb q hq ht h16 h hin
  · exact m_execute2 hp hb q hq ht h16 h
