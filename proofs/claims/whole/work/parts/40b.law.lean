def G_L_inc (rec : ax_M → Int32 → Option (Int32 × ax_M)) (M : ax_M) (v3 : Int32) : Option (Int32 × ax_M) := (some (v3 + 6)).bind (fun y => rec M y)
set_option maxRecDepth 100000 in
set_option maxHeartbeats 4000000 in
theorem K_L_inc {Z : ax_Z} {ad : Nat → Nat} {c s b L : Nat} {xs : Nat → Int32} {q : Int32 × ax_M} (B : ax_B Z "VoteAuctionsLaw" code ret) (hR : ax_R Z 9 600000 7302250) (hX : ax_scr Z b L xs) (hq : q.1 = 1) {rec : ax_M → Int32 → Option (Int32 × ax_M)} (hr : ∀ ad' : Nat → Nat, ad' 9999 = b → ∀ (M : ax_M) (v3 : Int32), rec M v3 = some q → ax_W Z ad' (c + 6) (s + 54) 18 [(0, ax_O (some 9999)), (1, ax_O (some 0)), (2, ax_O (some 100)), (3, ax_I v3)] [] M) (hc : c + 6 ≤ 600000) (hs : s + 54 ≤ 7302250) (hn : Z.2.2.2.2.2.2.2.2.2.2.2.1 = 4) (had : ad 9999 = b) : ∀ (M : ax_M) (v3 : Int32), G_L_inc rec M v3 = some q → ax_W Z ad (c + 6) (s + 54) 1146 [(0, ax_O (some 9999)), (1, ax_O (some 0)), (2, ax_O (some 100)), (3, ax_I v3)] [] M := by
  intro M v3 hf
  unfold G_L_inc at hf
  refine ax_iincN B (j := 3) (lv' := fun y => [(3, ax_I y), (0, ax_O (some 9999)), (1, ax_O (some 0)), (2, ax_O (some 100))]) d_L_law_1146 rfl hf rfl (by rw [hn]; decide) (fun _ => rfl) (fun y hf => ?_)
  refine ax_goto B (tgt := 18) d_L_law_1149 (by decide) ?_
  refine ax_sub [1, 2, 3, 0] rfl ?_
  exact hr ad had M y hf
def G_L_0 (xs : Nat → Int32) (L : Nat) (rec : ax_M → Int32 → Option (Int32 × ax_M)) (M : ax_M) (v3 : Int32) : Option (Int32 × ax_M) := (ax_sr xs L (v3 + 1)).bind (fun x1 => (ax_sr xs L (v3 + 2)).bind (fun x2 => (ax_ob M 0 (some 0)).bind (fun _ => (f_V_account M (some 0) x1 x2).bind (fun q3 => (ax_sr xs L (v3 + 1)).bind (fun x4 => (ax_sr xs L (v3 + 2)).bind (fun x5 => (ax_ob q3.2 3 (some 100)).bind (fun _ => (f_M_account q3.2 (some 100) x4 x5).bind (fun q6 => if q3.1 = q6.1 then G_L_inc rec q6.2 v3 else some (0, q6.2)))))))))
set_option maxRecDepth 100000 in
set_option maxHeartbeats 4000000 in
theorem K_L_0 {Z : ax_Z} {ad : Nat → Nat} {c s b L : Nat} {xs : Nat → Int32} {q : Int32 × ax_M} (B : ax_B Z "VoteAuctionsLaw" code ret) (hR : ax_R Z 9 600000 7302250) (hX : ax_scr Z b L xs) (hq : q.1 = 1) {rec : ax_M → Int32 → Option (Int32 × ax_M)} (hr : ∀ ad' : Nat → Nat, ad' 9999 = b → ∀ (M : ax_M) (v3 : Int32), rec M v3 = some q → ax_W Z ad' (c + 6) (s + 54) 18 [(0, ax_O (some 9999)), (1, ax_O (some 0)), (2, ax_O (some 100)), (3, ax_I v3)] [] M) (hc : c + 6 ≤ 600000) (hs : s + 54 ≤ 7302250) (hn : Z.2.2.2.2.2.2.2.2.2.2.2.1 = 4) (had : ad 9999 = b) : ∀ (M : ax_M) (v3 : Int32), G_L_0 xs L rec M v3 = some q → ax_W Z ad c s 148 [(0, ax_O (some 9999)), (1, ax_O (some 0)), (2, ax_O (some 100)), (3, ax_I v3)] [] M := by
  intro M v3 hf
  unfold G_L_0 at hf
  refine ax_aload_n B d_L_law_148 rfl (j := 1) rfl ?_
  refine ax_aload_n B d_L_law_149 rfl (j := 0) rfl ?_
  refine ax_iload_n B d_L_law_150 rfl (j := 3) rfl ?_
  refine ax_iconst B (v := 1) (by decide) d_L_law_151 ?_
  refine ax_iadd B d_L_law_152 ?_
  refine ax_sld B hX had d_L_law_153 hf (fun x1 hf => ?_)
  refine ax_aload_n B d_L_law_154 rfl (j := 0) rfl ?_
  refine ax_iload_n B d_L_law_155 rfl (j := 3) rfl ?_
  refine ax_iconst B (v := 2) (by decide) d_L_law_156 ?_
  refine ax_iadd B d_L_law_157 ?_
  refine ax_sld B hX had d_L_law_158 hf (fun x2 hf => ?_)
  refine ax_cVV B hR (as := [ax_I x1, ax_I x2]) (V := fun q => ax_I q.1) (N := fun q => q.2) d_L_law_159 l_L_13 m_V_account hf (fun q h => c_V_account _ _ _ _ _ _ h) rfl rfl (by decide) (by decide) (by omega) (by omega) (Nat.le_of_ble_eq_true rfl) (fun q3 hf => ?_)
  refine ax_aload_n B d_L_law_162 rfl (j := 2) rfl ?_
  refine ax_aload_n B d_L_law_163 rfl (j := 0) rfl ?_
  refine ax_iload_n B d_L_law_164 rfl (j := 3) rfl ?_
  refine ax_iconst B (v := 1) (by decide) d_L_law_165 ?_
  refine ax_iadd B d_L_law_166 ?_
  refine ax_sld B hX had d_L_law_167 hf (fun x4 hf => ?_)
  refine ax_aload_n B d_L_law_168 rfl (j := 0) rfl ?_
  refine ax_iload_n B d_L_law_169 rfl (j := 3) rfl ?_
  refine ax_iconst B (v := 2) (by decide) d_L_law_170 ?_
  refine ax_iadd B d_L_law_171 ?_
  refine ax_sld B hX had d_L_law_172 hf (fun x5 hf => ?_)
  refine ax_cVV B hR (as := [ax_I x4, ax_I x5]) (V := fun q => ax_I q.1) (N := fun q => q.2) d_L_law_173 l_L_17 m_M_account hf (fun q h => c_M_account _ _ _ _ _ _ h) rfl rfl (by decide) (by decide) (by omega) (by omega) (Nat.le_of_ble_eq_true rfl) (fun q6 hf => ?_)
  refine ax_icmp_eq B (tgt := 1146) d_L_law_176 (by decide) hf (fun hf => ?_) (fun hf => ?_)
  · refine ax_widen (Nat.le_add_right _ 6) (Nat.le_add_right _ 54) ?_
    exact K_L_inc B hR hX hq hr hc hs hn had q6.2 v3 hf
  · cases hf
    exact absurd hq (show ¬ (0 : Int32) = 1 by decide)
def G_L_1 (xs : Nat → Int32) (L : Nat) (rec : ax_M → Int32 → Option (Int32 × ax_M)) (M : ax_M) (v3 : Int32) : Option (Int32 × ax_M) := (ax_sr xs L (v3 + 1)).bind (fun x1 => (ax_sr xs L (v3 + 2)).bind (fun x2 => (ax_ob M 0 (some 0)).bind (fun _ => (f_V_weigh M (some 0) x1 x2).bind (fun q3 => (ax_sr xs L (v3 + 1)).bind (fun x4 => (ax_sr xs L (v3 + 2)).bind (fun x5 => (ax_ob q3.2 3 (some 100)).bind (fun _ => (f_M_weigh q3.2 (some 100) x4 x5).bind (fun q6 => if q3.1 = q6.1 then G_L_inc rec q6.2 v3 else some (0, q6.2)))))))))
set_option maxRecDepth 100000 in
set_option maxHeartbeats 4000000 in
theorem K_L_1 {Z : ax_Z} {ad : Nat → Nat} {c s b L : Nat} {xs : Nat → Int32} {q : Int32 × ax_M} (B : ax_B Z "VoteAuctionsLaw" code ret) (hR : ax_R Z 9 600000 7302250) (hX : ax_scr Z b L xs) (hq : q.1 = 1) {rec : ax_M → Int32 → Option (Int32 × ax_M)} (hr : ∀ ad' : Nat → Nat, ad' 9999 = b → ∀ (M : ax_M) (v3 : Int32), rec M v3 = some q → ax_W Z ad' (c + 6) (s + 54) 18 [(0, ax_O (some 9999)), (1, ax_O (some 0)), (2, ax_O (some 100)), (3, ax_I v3)] [] M) (hc : c + 6 ≤ 600000) (hs : s + 54 ≤ 7302250) (hn : Z.2.2.2.2.2.2.2.2.2.2.2.1 = 4) (had : ad 9999 = b) : ∀ (M : ax_M) (v3 : Int32), G_L_1 xs L rec M v3 = some q → ax_W Z ad c s 181 [(0, ax_O (some 9999)), (1, ax_O (some 0)), (2, ax_O (some 100)), (3, ax_I v3)] [] M := by
  intro M v3 hf
  unfold G_L_1 at hf
  refine ax_aload_n B d_L_law_181 rfl (j := 1) rfl ?_
  refine ax_aload_n B d_L_law_182 rfl (j := 0) rfl ?_
  refine ax_iload_n B d_L_law_183 rfl (j := 3) rfl ?_
  refine ax_iconst B (v := 1) (by decide) d_L_law_184 ?_
  refine ax_iadd B d_L_law_185 ?_
  refine ax_sld B hX had d_L_law_186 hf (fun x1 hf => ?_)
  refine ax_aload_n B d_L_law_187 rfl (j := 0) rfl ?_
  refine ax_iload_n B d_L_law_188 rfl (j := 3) rfl ?_
  refine ax_iconst B (v := 2) (by decide) d_L_law_189 ?_
  refine ax_iadd B d_L_law_190 ?_
  refine ax_sld B hX had d_L_law_191 hf (fun x2 hf => ?_)
  refine ax_cVV B hR (as := [ax_I x1, ax_I x2]) (V := fun q => ax_I q.1) (N := fun q => q.2) d_L_law_192 l_L_18 m_V_weigh hf (fun q h => c_V_weigh _ _ _ _ _ _ h) rfl rfl (by decide) (by decide) (by omega) (by omega) (Nat.le_of_ble_eq_true rfl) (fun q3 hf => ?_)
  refine ax_aload_n B d_L_law_195 rfl (j := 2) rfl ?_
  refine ax_aload_n B d_L_law_196 rfl (j := 0) rfl ?_
  refine ax_iload_n B d_L_law_197 rfl (j := 3) rfl ?_
  refine ax_iconst B (v := 1) (by decide) d_L_law_198 ?_
  refine ax_iadd B d_L_law_199 ?_
  refine ax_sld B hX had d_L_law_200 hf (fun x4 hf => ?_)
  refine ax_aload_n B d_L_law_201 rfl (j := 0) rfl ?_
  refine ax_iload_n B d_L_law_202 rfl (j := 3) rfl ?_
  refine ax_iconst B (v := 2) (by decide) d_L_law_203 ?_
  refine ax_iadd B d_L_law_204 ?_
  refine ax_sld B hX had d_L_law_205 hf (fun x5 hf => ?_)
  refine ax_cVV B hR (as := [ax_I x4, ax_I x5]) (V := fun q => ax_I q.1) (N := fun q => q.2) d_L_law_206 l_L_21 m_M_weigh hf (fun q h => c_M_weigh _ _ _ _ _ _ h) rfl rfl (by decide) (by decide) (by omega) (by omega) (Nat.le_of_ble_eq_true rfl) (fun q6 hf => ?_)
  refine ax_icmp_eq B (tgt := 1146) d_L_law_209 (by decide) hf (fun hf => ?_) (fun hf => ?_)
  · refine ax_widen (Nat.le_add_right _ 6) (Nat.le_add_right _ 54) ?_
    exact K_L_inc B hR hX hq hr hc hs hn had q6.2 v3 hf
  · cases hf
    exact absurd hq (show ¬ (0 : Int32) = 1 by decide)
def G_L_2 (xs : Nat → Int32) (L : Nat) (rec : ax_M → Int32 → Option (Int32 × ax_M)) (M : ax_M) (v3 : Int32) : Option (Int32 × ax_M) := (ax_sr xs L (v3 + 1)).bind (fun x1 => (ax_sr xs L (v3 + 2)).bind (fun x2 => (ax_ob M 0 (some 0)).bind (fun _ => (f_V_fund M (some 0) x1 x2).bind (fun q3 => (ax_sr xs L (v3 + 1)).bind (fun x4 => (ax_sr xs L (v3 + 2)).bind (fun x5 => (ax_ob q3.2 3 (some 100)).bind (fun _ => (f_M_fund q3.2 (some 100) x4 x5).bind (fun q6 => if q3.1 = q6.1 then G_L_inc rec q6.2 v3 else some (0, q6.2)))))))))
set_option maxRecDepth 100000 in
set_option maxHeartbeats 4000000 in
theorem K_L_2 {Z : ax_Z} {ad : Nat → Nat} {c s b L : Nat} {xs : Nat → Int32} {q : Int32 × ax_M} (B : ax_B Z "VoteAuctionsLaw" code ret) (hR : ax_R Z 9 600000 7302250) (hX : ax_scr Z b L xs) (hq : q.1 = 1) {rec : ax_M → Int32 → Option (Int32 × ax_M)} (hr : ∀ ad' : Nat → Nat, ad' 9999 = b → ∀ (M : ax_M) (v3 : Int32), rec M v3 = some q → ax_W Z ad' (c + 6) (s + 54) 18 [(0, ax_O (some 9999)), (1, ax_O (some 0)), (2, ax_O (some 100)), (3, ax_I v3)] [] M) (hc : c + 6 ≤ 600000) (hs : s + 54 ≤ 7302250) (hn : Z.2.2.2.2.2.2.2.2.2.2.2.1 = 4) (had : ad 9999 = b) : ∀ (M : ax_M) (v3 : Int32), G_L_2 xs L rec M v3 = some q → ax_W Z ad c s 214 [(0, ax_O (some 9999)), (1, ax_O (some 0)), (2, ax_O (some 100)), (3, ax_I v3)] [] M := by
  intro M v3 hf
  unfold G_L_2 at hf
  refine ax_aload_n B d_L_law_214 rfl (j := 1) rfl ?_
  refine ax_aload_n B d_L_law_215 rfl (j := 0) rfl ?_
  refine ax_iload_n B d_L_law_216 rfl (j := 3) rfl ?_
  refine ax_iconst B (v := 1) (by decide) d_L_law_217 ?_
  refine ax_iadd B d_L_law_218 ?_
  refine ax_sld B hX had d_L_law_219 hf (fun x1 hf => ?_)
  refine ax_aload_n B d_L_law_220 rfl (j := 0) rfl ?_
  refine ax_iload_n B d_L_law_221 rfl (j := 3) rfl ?_
  refine ax_iconst B (v := 2) (by decide) d_L_law_222 ?_
  refine ax_iadd B d_L_law_223 ?_
  refine ax_sld B hX had d_L_law_224 hf (fun x2 hf => ?_)
  refine ax_cVV B hR (as := [ax_I x1, ax_I x2]) (V := fun q => ax_I q.1) (N := fun q => q.2) d_L_law_225 l_L_22 m_V_fund hf (fun q h => c_V_fund _ _ _ _ _ _ h) rfl rfl (by decide) (by decide) (by omega) (by omega) (Nat.le_of_ble_eq_true rfl) (fun q3 hf => ?_)
  refine ax_aload_n B d_L_law_228 rfl (j := 2) rfl ?_
  refine ax_aload_n B d_L_law_229 rfl (j := 0) rfl ?_
  refine ax_iload_n B d_L_law_230 rfl (j := 3) rfl ?_
  refine ax_iconst B (v := 1) (by decide) d_L_law_231 ?_
  refine ax_iadd B d_L_law_232 ?_
  refine ax_sld B hX had d_L_law_233 hf (fun x4 hf => ?_)
  refine ax_aload_n B d_L_law_234 rfl (j := 0) rfl ?_
  refine ax_iload_n B d_L_law_235 rfl (j := 3) rfl ?_
  refine ax_iconst B (v := 2) (by decide) d_L_law_236 ?_
  refine ax_iadd B d_L_law_237 ?_
  refine ax_sld B hX had d_L_law_238 hf (fun x5 hf => ?_)
  refine ax_cVV B hR (as := [ax_I x4, ax_I x5]) (V := fun q => ax_I q.1) (N := fun q => q.2) d_L_law_239 l_L_25 m_M_fund hf (fun q h => c_M_fund _ _ _ _ _ _ h) rfl rfl (by decide) (by decide) (by omega) (by omega) (Nat.le_of_ble_eq_true rfl) (fun q6 hf => ?_)
  refine ax_icmp_eq B (tgt := 1146) d_L_law_242 (by decide) hf (fun hf => ?_) (fun hf => ?_)
  · refine ax_widen (Nat.le_add_right _ 6) (Nat.le_add_right _ 54) ?_
    exact K_L_inc B hR hX hq hr hc hs hn had q6.2 v3 hf
  · cases hf
    exact absurd hq (show ¬ (0 : Int32) = 1 by decide)
def G_L_3 (xs : Nat → Int32) (L : Nat) (rec : ax_M → Int32 → Option (Int32 × ax_M)) (M : ax_M) (v3 : Int32) : Option (Int32 × ax_M) := (ax_sr xs L (v3 + 1)).bind (fun x1 => (ax_sr xs L (v3 + 2)).bind (fun x2 => (ax_ob M 0 (some 0)).bind (fun _ => (f_V_speak M (some 0) x1 x2).bind (fun q3 => (ax_sr xs L (v3 + 1)).bind (fun x4 => (ax_sr xs L (v3 + 2)).bind (fun x5 => (ax_ob q3.2 3 (some 100)).bind (fun _ => (f_M_speak q3.2 (some 100) x4 x5).bind (fun q6 => if q3.1 = q6.1 then G_L_inc rec q6.2 v3 else some (0, q6.2)))))))))
set_option maxRecDepth 100000 in
set_option maxHeartbeats 4000000 in
theorem K_L_3 {Z : ax_Z} {ad : Nat → Nat} {c s b L : Nat} {xs : Nat → Int32} {q : Int32 × ax_M} (B : ax_B Z "VoteAuctionsLaw" code ret) (hR : ax_R Z 9 600000 7302250) (hX : ax_scr Z b L xs) (hq : q.1 = 1) {rec : ax_M → Int32 → Option (Int32 × ax_M)} (hr : ∀ ad' : Nat → Nat, ad' 9999 = b → ∀ (M : ax_M) (v3 : Int32), rec M v3 = some q → ax_W Z ad' (c + 6) (s + 54) 18 [(0, ax_O (some 9999)), (1, ax_O (some 0)), (2, ax_O (some 100)), (3, ax_I v3)] [] M) (hc : c + 6 ≤ 600000) (hs : s + 54 ≤ 7302250) (hn : Z.2.2.2.2.2.2.2.2.2.2.2.1 = 4) (had : ad 9999 = b) : ∀ (M : ax_M) (v3 : Int32), G_L_3 xs L rec M v3 = some q → ax_W Z ad c s 247 [(0, ax_O (some 9999)), (1, ax_O (some 0)), (2, ax_O (some 100)), (3, ax_I v3)] [] M := by
  intro M v3 hf
  unfold G_L_3 at hf
  refine ax_aload_n B d_L_law_247 rfl (j := 1) rfl ?_
  refine ax_aload_n B d_L_law_248 rfl (j := 0) rfl ?_
  refine ax_iload_n B d_L_law_249 rfl (j := 3) rfl ?_
  refine ax_iconst B (v := 1) (by decide) d_L_law_250 ?_
  refine ax_iadd B d_L_law_251 ?_
  refine ax_sld B hX had d_L_law_252 hf (fun x1 hf => ?_)
  refine ax_aload_n B d_L_law_253 rfl (j := 0) rfl ?_
  refine ax_iload_n B d_L_law_254 rfl (j := 3) rfl ?_
  refine ax_iconst B (v := 2) (by decide) d_L_law_255 ?_
  refine ax_iadd B d_L_law_256 ?_
  refine ax_sld B hX had d_L_law_257 hf (fun x2 hf => ?_)
  refine ax_cVV B hR (as := [ax_I x1, ax_I x2]) (V := fun q => ax_I q.1) (N := fun q => q.2) d_L_law_258 l_L_26 m_V_speak hf (fun q h => c_V_speak _ _ _ _ _ _ h) rfl rfl (by decide) (by decide) (by omega) (by omega) (Nat.le_of_ble_eq_true rfl) (fun q3 hf => ?_)
  refine ax_aload_n B d_L_law_261 rfl (j := 2) rfl ?_
  refine ax_aload_n B d_L_law_262 rfl (j := 0) rfl ?_
  refine ax_iload_n B d_L_law_263 rfl (j := 3) rfl ?_
  refine ax_iconst B (v := 1) (by decide) d_L_law_264 ?_
  refine ax_iadd B d_L_law_265 ?_
  refine ax_sld B hX had d_L_law_266 hf (fun x4 hf => ?_)
  refine ax_aload_n B d_L_law_267 rfl (j := 0) rfl ?_
  refine ax_iload_n B d_L_law_268 rfl (j := 3) rfl ?_
  refine ax_iconst B (v := 2) (by decide) d_L_law_269 ?_
  refine ax_iadd B d_L_law_270 ?_
  refine ax_sld B hX had d_L_law_271 hf (fun x5 hf => ?_)
  refine ax_cVV B hR (as := [ax_I x4, ax_I x5]) (V := fun q => ax_I q.1) (N := fun q => q.2) d_L_law_272 l_L_29 m_M_speak hf (fun q h => c_M_speak _ _ _ _ _ _ h) rfl rfl (by decide) (by decide) (by omega) (by omega) (Nat.le_of_ble_eq_true rfl) (fun q6 hf => ?_)
  refine ax_icmp_eq B (tgt := 1146) d_L_law_275 (by decide) hf (fun hf => ?_) (fun hf => ?_)
  · refine ax_widen (Nat.le_add_right _ 6) (Nat.le_add_right _ 54) ?_
    exact K_L_inc B hR hX hq hr hc hs hn had q6.2 v3 hf
  · cases hf
    exact absurd hq (show ¬ (0 : Int32) = 1 by decide)
def G_L_4 (xs : Nat → Int32) (L : Nat) (rec : ax_M → Int32 → Option (Int32 × ax_M)) (M : ax_M) (v3 : Int32) : Option (Int32 × ax_M) := (ax_sr xs L (v3 + 1)).bind (fun x1 => (ax_sr xs L (v3 + 2)).bind (fun x2 => (ax_ob M 0 (some 0)).bind (fun _ => (f_V_holds M (some 0) x1 x2).bind (fun q3 => (ax_sr xs L (v3 + 1)).bind (fun x4 => (ax_sr xs L (v3 + 2)).bind (fun x5 => (ax_ob q3.2 3 (some 100)).bind (fun _ => (f_M_holds q3.2 (some 100) x4 x5).bind (fun q6 => if (lg_cmp q3.1 q6.1) = 0 then G_L_inc rec q6.2 v3 else some (0, q6.2)))))))))
set_option maxRecDepth 100000 in
set_option maxHeartbeats 4000000 in
theorem K_L_4 {Z : ax_Z} {ad : Nat → Nat} {c s b L : Nat} {xs : Nat → Int32} {q : Int32 × ax_M} (B : ax_B Z "VoteAuctionsLaw" code ret) (hR : ax_R Z 9 600000 7302250) (hX : ax_scr Z b L xs) (hq : q.1 = 1) {rec : ax_M → Int32 → Option (Int32 × ax_M)} (hr : ∀ ad' : Nat → Nat, ad' 9999 = b → ∀ (M : ax_M) (v3 : Int32), rec M v3 = some q → ax_W Z ad' (c + 6) (s + 54) 18 [(0, ax_O (some 9999)), (1, ax_O (some 0)), (2, ax_O (some 100)), (3, ax_I v3)] [] M) (hc : c + 6 ≤ 600000) (hs : s + 54 ≤ 7302250) (hn : Z.2.2.2.2.2.2.2.2.2.2.2.1 = 4) (had : ad 9999 = b) : ∀ (M : ax_M) (v3 : Int32), G_L_4 xs L rec M v3 = some q → ax_W Z ad c s 280 [(0, ax_O (some 9999)), (1, ax_O (some 0)), (2, ax_O (some 100)), (3, ax_I v3)] [] M := by
  intro M v3 hf
  unfold G_L_4 at hf
  refine ax_aload_n B d_L_law_280 rfl (j := 1) rfl ?_
  refine ax_aload_n B d_L_law_281 rfl (j := 0) rfl ?_
  refine ax_iload_n B d_L_law_282 rfl (j := 3) rfl ?_
  refine ax_iconst B (v := 1) (by decide) d_L_law_283 ?_
  refine ax_iadd B d_L_law_284 ?_
  refine ax_sld B hX had d_L_law_285 hf (fun x1 hf => ?_)
  refine ax_aload_n B d_L_law_286 rfl (j := 0) rfl ?_
  refine ax_iload_n B d_L_law_287 rfl (j := 3) rfl ?_
  refine ax_iconst B (v := 2) (by decide) d_L_law_288 ?_
  refine ax_iadd B d_L_law_289 ?_
  refine ax_sld B hX had d_L_law_290 hf (fun x2 hf => ?_)
  refine ax_cVV B hR (as := [ax_I x1, ax_I x2]) (V := fun q => ax_L q.1) (N := fun q => q.2) d_L_law_291 l_L_30 m_V_holds hf (fun q h => c_V_holds _ _ _ _ _ _ h) rfl rfl (by decide) (by decide) (by omega) (by omega) (Nat.le_of_ble_eq_true rfl) (fun q3 hf => ?_)
  refine ax_aload_n B d_L_law_294 rfl (j := 2) rfl ?_
  refine ax_aload_n B d_L_law_295 rfl (j := 0) rfl ?_
  refine ax_iload_n B d_L_law_296 rfl (j := 3) rfl ?_
  refine ax_iconst B (v := 1) (by decide) d_L_law_297 ?_
  refine ax_iadd B d_L_law_298 ?_
  refine ax_sld B hX had d_L_law_299 hf (fun x4 hf => ?_)
  refine ax_aload_n B d_L_law_300 rfl (j := 0) rfl ?_
  refine ax_iload_n B d_L_law_301 rfl (j := 3) rfl ?_
  refine ax_iconst B (v := 2) (by decide) d_L_law_302 ?_
  refine ax_iadd B d_L_law_303 ?_
  refine ax_sld B hX had d_L_law_304 hf (fun x5 hf => ?_)
  refine ax_cVV B hR (as := [ax_I x4, ax_I x5]) (V := fun q => ax_L q.1) (N := fun q => q.2) d_L_law_305 l_L_34 m_M_holds hf (fun q h => c_M_holds _ _ _ _ _ _ h) rfl rfl (by decide) (by decide) (by omega) (by omega) (Nat.le_of_ble_eq_true rfl) (fun q6 hf => ?_)
  refine ax_lcmp B d_L_law_308 ?_
  refine ax_if_eq B (tgt := 1146) d_L_law_309 (by decide) hf (fun hf => ?_) (fun hf => ?_)
  · refine ax_widen (Nat.le_add_right _ 6) (Nat.le_add_right _ 54) ?_
    exact K_L_inc B hR hX hq hr hc hs hn had q6.2 v3 hf
  · cases hf
    exact absurd hq (show ¬ (0 : Int32) = 1 by decide)
def G_L_5 (xs : Nat → Int32) (L : Nat) (rec : ax_M → Int32 → Option (Int32 × ax_M)) (M : ax_M) (v3 : Int32) : Option (Int32 × ax_M) := (ax_ob M 0 (some 0)).bind (fun _ => (f_V_pot M (some 0) ).bind (fun q1 => (ax_ob q1.2 3 (some 100)).bind (fun _ => (f_M_pot q1.2 (some 100) ).bind (fun q2 => if (lg_cmp q1.1 q2.1) = 0 then G_L_inc rec q2.2 v3 else some (0, q2.2)))))
set_option maxRecDepth 100000 in
set_option maxHeartbeats 4000000 in
theorem K_L_5 {Z : ax_Z} {ad : Nat → Nat} {c s b L : Nat} {xs : Nat → Int32} {q : Int32 × ax_M} (B : ax_B Z "VoteAuctionsLaw" code ret) (hR : ax_R Z 9 600000 7302250) (hX : ax_scr Z b L xs) (hq : q.1 = 1) {rec : ax_M → Int32 → Option (Int32 × ax_M)} (hr : ∀ ad' : Nat → Nat, ad' 9999 = b → ∀ (M : ax_M) (v3 : Int32), rec M v3 = some q → ax_W Z ad' (c + 6) (s + 54) 18 [(0, ax_O (some 9999)), (1, ax_O (some 0)), (2, ax_O (some 100)), (3, ax_I v3)] [] M) (hc : c + 6 ≤ 600000) (hs : s + 54 ≤ 7302250) (hn : Z.2.2.2.2.2.2.2.2.2.2.2.1 = 4) (had : ad 9999 = b) : ∀ (M : ax_M) (v3 : Int32), G_L_5 xs L rec M v3 = some q → ax_W Z ad c s 314 [(0, ax_O (some 9999)), (1, ax_O (some 0)), (2, ax_O (some 100)), (3, ax_I v3)] [] M := by
  intro M v3 hf
  unfold G_L_5 at hf
  refine ax_aload_n B d_L_law_314 rfl (j := 1) rfl ?_
  refine ax_cVV B hR (as := []) (V := fun q => ax_L q.1) (N := fun q => q.2) d_L_law_315 l_L_35 m_V_pot hf (fun q h => c_V_pot _ _ _ _ h) rfl rfl (by decide) (by decide) (by omega) (by omega) (Nat.le_of_ble_eq_true rfl) (fun q1 hf => ?_)
  refine ax_aload_n B d_L_law_318 rfl (j := 2) rfl ?_
  refine ax_cVV B hR (as := []) (V := fun q => ax_L q.1) (N := fun q => q.2) d_L_law_319 l_L_39 m_M_pot hf (fun q h => c_M_pot _ _ _ _ h) rfl rfl (by decide) (by decide) (by omega) (by omega) (Nat.le_of_ble_eq_true rfl) (fun q2 hf => ?_)
  refine ax_lcmp B d_L_law_322 ?_
  refine ax_if_eq B (tgt := 1146) d_L_law_323 (by decide) hf (fun hf => ?_) (fun hf => ?_)
  · refine ax_widen (Nat.le_add_right _ 6) (Nat.le_add_right _ 54) ?_
    exact K_L_inc B hR hX hq hr hc hs hn had q2.2 v3 hf
  · cases hf
    exact absurd hq (show ¬ (0 : Int32) = 1 by decide)
def G_L_6 (xs : Nat → Int32) (L : Nat) (rec : ax_M → Int32 → Option (Int32 × ax_M)) (M : ax_M) (v3 : Int32) : Option (Int32 × ax_M) := (ax_sr xs L (v3 + 1)).bind (fun x1 => (ax_ob M 0 (some 0)).bind (fun _ => (f_V_tick M (some 0) x1).bind (fun q2 => (ax_sr xs L (v3 + 1)).bind (fun x3 => (ax_ob q2.2 3 (some 100)).bind (fun _ => (f_M_tick q2.2 (some 100) x3).bind (fun q4 => if q2.1 = q4.1 then G_L_inc rec q4.2 v3 else some (0, q4.2)))))))
set_option maxRecDepth 100000 in
set_option maxHeartbeats 4000000 in
theorem K_L_6 {Z : ax_Z} {ad : Nat → Nat} {c s b L : Nat} {xs : Nat → Int32} {q : Int32 × ax_M} (B : ax_B Z "VoteAuctionsLaw" code ret) (hR : ax_R Z 9 600000 7302250) (hX : ax_scr Z b L xs) (hq : q.1 = 1) {rec : ax_M → Int32 → Option (Int32 × ax_M)} (hr : ∀ ad' : Nat → Nat, ad' 9999 = b → ∀ (M : ax_M) (v3 : Int32), rec M v3 = some q → ax_W Z ad' (c + 6) (s + 54) 18 [(0, ax_O (some 9999)), (1, ax_O (some 0)), (2, ax_O (some 100)), (3, ax_I v3)] [] M) (hc : c + 6 ≤ 600000) (hs : s + 54 ≤ 7302250) (hn : Z.2.2.2.2.2.2.2.2.2.2.2.1 = 4) (had : ad 9999 = b) : ∀ (M : ax_M) (v3 : Int32), G_L_6 xs L rec M v3 = some q → ax_W Z ad c s 328 [(0, ax_O (some 9999)), (1, ax_O (some 0)), (2, ax_O (some 100)), (3, ax_I v3)] [] M := by
  intro M v3 hf
  unfold G_L_6 at hf
  refine ax_aload_n B d_L_law_328 rfl (j := 1) rfl ?_
  refine ax_aload_n B d_L_law_329 rfl (j := 0) rfl ?_
  refine ax_iload_n B d_L_law_330 rfl (j := 3) rfl ?_
  refine ax_iconst B (v := 1) (by decide) d_L_law_331 ?_
  refine ax_iadd B d_L_law_332 ?_
  refine ax_sld B hX had d_L_law_333 hf (fun x1 hf => ?_)
  refine ax_cVV B hR (as := [ax_I x1]) (V := fun q => ax_I q.1) (N := fun q => q.2) d_L_law_334 l_L_40 m_V_tick hf (fun q h => c_V_tick _ _ _ _ _ h) rfl rfl (by decide) (by decide) (by omega) (by omega) (Nat.le_of_ble_eq_true rfl) (fun q2 hf => ?_)
  refine ax_aload_n B d_L_law_337 rfl (j := 2) rfl ?_
  refine ax_aload_n B d_L_law_338 rfl (j := 0) rfl ?_
  refine ax_iload_n B d_L_law_339 rfl (j := 3) rfl ?_
  refine ax_iconst B (v := 1) (by decide) d_L_law_340 ?_
  refine ax_iadd B d_L_law_341 ?_
  refine ax_sld B hX had d_L_law_342 hf (fun x3 hf => ?_)
  refine ax_cVV B hR (as := [ax_I x3]) (V := fun q => ax_I q.1) (N := fun q => q.2) d_L_law_343 l_L_44 m_M_tick hf (fun q h => c_M_tick _ _ _ _ _ h) rfl rfl (by decide) (by decide) (by omega) (by omega) (Nat.le_of_ble_eq_true rfl) (fun q4 hf => ?_)
  refine ax_icmp_eq B (tgt := 1146) d_L_law_346 (by decide) hf (fun hf => ?_) (fun hf => ?_)
  · refine ax_widen (Nat.le_add_right _ 6) (Nat.le_add_right _ 54) ?_
    exact K_L_inc B hR hX hq hr hc hs hn had q4.2 v3 hf
  · cases hf
    exact absurd hq (show ¬ (0 : Int32) = 1 by decide)
def G_L_7 (xs : Nat → Int32) (L : Nat) (rec : ax_M → Int32 → Option (Int32 × ax_M)) (M : ax_M) (v3 : Int32) : Option (Int32 × ax_M) := (ax_sr xs L (v3 + 1)).bind (fun x1 => (ax_sr xs L (v3 + 2)).bind (fun x2 => (ax_sr xs L (v3 + 3)).bind (fun x3 => (ax_ob M 0 (some 0)).bind (fun _ => (f_V_mark M (some 0) x1 x2 x3).bind (fun q4 => (ax_sr xs L (v3 + 1)).bind (fun x5 => (ax_sr xs L (v3 + 2)).bind (fun x6 => (ax_sr xs L (v3 + 3)).bind (fun x7 => (ax_ob q4.2 3 (some 100)).bind (fun _ => (f_M_mark q4.2 (some 100) x5 x6 x7).bind (fun q8 => if (lg_cmp q4.1 q8.1) = 0 then G_L_inc rec q8.2 v3 else some (0, q8.2)))))))))))
set_option maxRecDepth 100000 in
set_option maxHeartbeats 4000000 in
theorem K_L_7 {Z : ax_Z} {ad : Nat → Nat} {c s b L : Nat} {xs : Nat → Int32} {q : Int32 × ax_M} (B : ax_B Z "VoteAuctionsLaw" code ret) (hR : ax_R Z 9 600000 7302250) (hX : ax_scr Z b L xs) (hq : q.1 = 1) {rec : ax_M → Int32 → Option (Int32 × ax_M)} (hr : ∀ ad' : Nat → Nat, ad' 9999 = b → ∀ (M : ax_M) (v3 : Int32), rec M v3 = some q → ax_W Z ad' (c + 6) (s + 54) 18 [(0, ax_O (some 9999)), (1, ax_O (some 0)), (2, ax_O (some 100)), (3, ax_I v3)] [] M) (hc : c + 6 ≤ 600000) (hs : s + 54 ≤ 7302250) (hn : Z.2.2.2.2.2.2.2.2.2.2.2.1 = 4) (had : ad 9999 = b) : ∀ (M : ax_M) (v3 : Int32), G_L_7 xs L rec M v3 = some q → ax_W Z ad c s 351 [(0, ax_O (some 9999)), (1, ax_O (some 0)), (2, ax_O (some 100)), (3, ax_I v3)] [] M := by
  intro M v3 hf
  unfold G_L_7 at hf
  refine ax_aload_n B d_L_law_351 rfl (j := 1) rfl ?_
  refine ax_aload_n B d_L_law_352 rfl (j := 0) rfl ?_
  refine ax_iload_n B d_L_law_353 rfl (j := 3) rfl ?_
  refine ax_iconst B (v := 1) (by decide) d_L_law_354 ?_
  refine ax_iadd B d_L_law_355 ?_
  refine ax_sld B hX had d_L_law_356 hf (fun x1 hf => ?_)
  refine ax_aload_n B d_L_law_357 rfl (j := 0) rfl ?_
  refine ax_iload_n B d_L_law_358 rfl (j := 3) rfl ?_
  refine ax_iconst B (v := 2) (by decide) d_L_law_359 ?_
  refine ax_iadd B d_L_law_360 ?_
  refine ax_sld B hX had d_L_law_361 hf (fun x2 hf => ?_)
  refine ax_aload_n B d_L_law_362 rfl (j := 0) rfl ?_
  refine ax_iload_n B d_L_law_363 rfl (j := 3) rfl ?_
  refine ax_iconst B (v := 3) (by decide) d_L_law_364 ?_
  refine ax_iadd B d_L_law_365 ?_
  refine ax_sld B hX had d_L_law_366 hf (fun x3 hf => ?_)
  refine ax_cVV B hR (as := [ax_I x1, ax_I x2, ax_I x3]) (V := fun q => ax_L q.1) (N := fun q => q.2) d_L_law_367 l_L_45 m_V_mark hf (fun q h => c_V_mark _ _ _ _ _ _ _ h) rfl rfl (by decide) (by decide) (by omega) (by omega) (Nat.le_of_ble_eq_true rfl) (fun q4 hf => ?_)
  refine ax_aload_n B d_L_law_370 rfl (j := 2) rfl ?_
  refine ax_aload_n B d_L_law_371 rfl (j := 0) rfl ?_
  refine ax_iload_n B d_L_law_372 rfl (j := 3) rfl ?_
  refine ax_iconst B (v := 1) (by decide) d_L_law_373 ?_
  refine ax_iadd B d_L_law_374 ?_
  refine ax_sld B hX had d_L_law_375 hf (fun x5 hf => ?_)
  refine ax_aload_n B d_L_law_376 rfl (j := 0) rfl ?_
  refine ax_iload_n B d_L_law_377 rfl (j := 3) rfl ?_
  refine ax_iconst B (v := 2) (by decide) d_L_law_378 ?_
  refine ax_iadd B d_L_law_379 ?_
  refine ax_sld B hX had d_L_law_380 hf (fun x6 hf => ?_)
  refine ax_aload_n B d_L_law_381 rfl (j := 0) rfl ?_
  refine ax_iload_n B d_L_law_382 rfl (j := 3) rfl ?_
  refine ax_iconst B (v := 3) (by decide) d_L_law_383 ?_
  refine ax_iadd B d_L_law_384 ?_
  refine ax_sld B hX had d_L_law_385 hf (fun x7 hf => ?_)
  refine ax_cVV B hR (as := [ax_I x5, ax_I x6, ax_I x7]) (V := fun q => ax_L q.1) (N := fun q => q.2) d_L_law_386 l_L_49 m_M_mark hf (fun q h => c_M_mark _ _ _ _ _ _ _ h) rfl rfl (by decide) (by decide) (by omega) (by omega) (Nat.le_of_ble_eq_true rfl) (fun q8 hf => ?_)
  refine ax_lcmp B d_L_law_389 ?_
  refine ax_if_eq B (tgt := 1146) d_L_law_390 (by decide) hf (fun hf => ?_) (fun hf => ?_)
  · refine ax_widen (Nat.le_add_right _ 6) (Nat.le_add_right _ 54) ?_
    exact K_L_inc B hR hX hq hr hc hs hn had q8.2 v3 hf
  · cases hf
    exact absurd hq (show ¬ (0 : Int32) = 1 by decide)
def G_L_8 (xs : Nat → Int32) (L : Nat) (rec : ax_M → Int32 → Option (Int32 × ax_M)) (M : ax_M) (v3 : Int32) : Option (Int32 × ax_M) := (ax_sr xs L (v3 + 1)).bind (fun x1 => (ax_sr xs L (v3 + 2)).bind (fun x2 => (ax_sr xs L (v3 + 3)).bind (fun x3 => (ax_sr xs L (v3 + 4)).bind (fun x4 => (ax_sr xs L (v3 + 5)).bind (fun x5 => (ax_gf [some 9999, some 0, some 100] [(10 * (ax_i M 0 7).toNatClampNeg + 1000), (10 * (ax_i M 0 7).toNatClampNeg + 1000) + 1, (10 * (ax_i M 0 7).toNatClampNeg + 1000) + 2, (10 * (ax_i M 0 7).toNatClampNeg + 1000) + 3, (10 * (ax_i M 0 7).toNatClampNeg + 1000) + 4, (10 * (ax_i M 0 7).toNatClampNeg + 1000) + 5]).bind (fun _ => (ax_ob M 0 (some 0)).bind (fun _ => (f_V_question (10 * (ax_i M 0 7).toNatClampNeg + 1000) M (some 0) x1 x2 x3 x4 x5).bind (fun q6 => (ax_sr xs L (v3 + 1)).bind (fun x7 => (ax_sr xs L (v3 + 2)).bind (fun x8 => (ax_sr xs L (v3 + 3)).bind (fun x9 => (ax_sr xs L (v3 + 4)).bind (fun x10 => (ax_sr xs L (v3 + 5)).bind (fun x11 => (ax_ob q6.2 3 (some 100)).bind (fun _ => (f_M_question q6.2 (some 100) x7 x8 x9 x10 x11).bind (fun q12 => if q6.1 = q12.1 then G_L_inc rec q12.2 v3 else some (0, q12.2))))))))))))))))
set_option maxRecDepth 100000 in
set_option maxHeartbeats 4000000 in
theorem K_L_8 {Z : ax_Z} {ad : Nat → Nat} {c s b L : Nat} {xs : Nat → Int32} {q : Int32 × ax_M} (B : ax_B Z "VoteAuctionsLaw" code ret) (hR : ax_R Z 9 600000 7302250) (hX : ax_scr Z b L xs) (hq : q.1 = 1) {rec : ax_M → Int32 → Option (Int32 × ax_M)} (hr : ∀ ad' : Nat → Nat, ad' 9999 = b → ∀ (M : ax_M) (v3 : Int32), rec M v3 = some q → ax_W Z ad' (c + 6) (s + 54) 18 [(0, ax_O (some 9999)), (1, ax_O (some 0)), (2, ax_O (some 100)), (3, ax_I v3)] [] M) (hc : c + 6 ≤ 600000) (hs : s + 54 ≤ 7302250) (hn : Z.2.2.2.2.2.2.2.2.2.2.2.1 = 4) (had : ad 9999 = b) : ∀ (M : ax_M) (v3 : Int32), G_L_8 xs L rec M v3 = some q → ax_W Z ad c s 395 [(0, ax_O (some 9999)), (1, ax_O (some 0)), (2, ax_O (some 100)), (3, ax_I v3)] [] M := by
  intro M v3 hf
  unfold G_L_8 at hf
  refine ax_aload_n B d_L_law_395 rfl (j := 1) rfl ?_
  refine ax_aload_n B d_L_law_396 rfl (j := 0) rfl ?_
  refine ax_iload_n B d_L_law_397 rfl (j := 3) rfl ?_
  refine ax_iconst B (v := 1) (by decide) d_L_law_398 ?_
  refine ax_iadd B d_L_law_399 ?_
  refine ax_sld B hX had d_L_law_400 hf (fun x1 hf => ?_)
  refine ax_aload_n B d_L_law_401 rfl (j := 0) rfl ?_
  refine ax_iload_n B d_L_law_402 rfl (j := 3) rfl ?_
  refine ax_iconst B (v := 2) (by decide) d_L_law_403 ?_
  refine ax_iadd B d_L_law_404 ?_
  refine ax_sld B hX had d_L_law_405 hf (fun x2 hf => ?_)
  refine ax_aload_n B d_L_law_406 rfl (j := 0) rfl ?_
  refine ax_iload_n B d_L_law_407 rfl (j := 3) rfl ?_
  refine ax_iconst B (v := 3) (by decide) d_L_law_408 ?_
  refine ax_iadd B d_L_law_409 ?_
  refine ax_sld B hX had d_L_law_410 hf (fun x3 hf => ?_)
  refine ax_aload_n B d_L_law_411 rfl (j := 0) rfl ?_
  refine ax_iload_n B d_L_law_412 rfl (j := 3) rfl ?_
  refine ax_iconst B (v := 4) (by decide) d_L_law_413 ?_
  refine ax_iadd B d_L_law_414 ?_
  refine ax_sld B hX had d_L_law_415 hf (fun x4 hf => ?_)
  refine ax_aload_n B d_L_law_416 rfl (j := 0) rfl ?_
  refine ax_iload_n B d_L_law_417 rfl (j := 3) rfl ?_
  refine ax_iconst B (v := 5) (by decide) d_L_law_418 ?_
  refine ax_iadd B d_L_law_419 ?_
  refine ax_sld B hX had d_L_law_420 hf (fun x5 hf => ?_)
  refine ax_cVA B hR (as := [ax_I x1, ax_I x2, ax_I x3, ax_I x4, ax_I x5]) (V := fun q => ax_I q.1) (N := fun q => q.2) d_L_law_421 l_L_50 m_V_question (ax_cvr (by simp) (ax_cvr (by simp) (ax_cvr (by simp) (ax_cvi ax_cv0)))) ax_cv0 hf (fun q h => c_V_question _ _ _ _ _ _ _ _ _ _ h) rfl rfl (by decide) (by decide) hc hs (Nat.le_of_ble_eq_true rfl) (fun q6 ad2 hag hf => ?_)
  replace had := (hag 9999 (by simp; omega)).trans had
  refine ax_aload_n B d_L_law_424 rfl (j := 2) rfl ?_
  refine ax_aload_n B d_L_law_425 rfl (j := 0) rfl ?_
  refine ax_iload_n B d_L_law_426 rfl (j := 3) rfl ?_
  refine ax_iconst B (v := 1) (by decide) d_L_law_427 ?_
  refine ax_iadd B d_L_law_428 ?_
  refine ax_sld B hX had d_L_law_429 hf (fun x7 hf => ?_)
  refine ax_aload_n B d_L_law_430 rfl (j := 0) rfl ?_
  refine ax_iload_n B d_L_law_431 rfl (j := 3) rfl ?_
  refine ax_iconst B (v := 2) (by decide) d_L_law_432 ?_
  refine ax_iadd B d_L_law_433 ?_
  refine ax_sld B hX had d_L_law_434 hf (fun x8 hf => ?_)
  refine ax_aload_n B d_L_law_435 rfl (j := 0) rfl ?_
  refine ax_iload_n B d_L_law_436 rfl (j := 3) rfl ?_
  refine ax_iconst B (v := 3) (by decide) d_L_law_437 ?_
  refine ax_iadd B d_L_law_438 ?_
  refine ax_sld B hX had d_L_law_439 hf (fun x9 hf => ?_)
  refine ax_aload_n B d_L_law_440 rfl (j := 0) rfl ?_
  refine ax_iload_n B d_L_law_441 rfl (j := 3) rfl ?_
  refine ax_iconst B (v := 4) (by decide) d_L_law_442 ?_
  refine ax_iadd B d_L_law_443 ?_
  refine ax_sld B hX had d_L_law_444 hf (fun x10 hf => ?_)
  refine ax_aload_n B d_L_law_445 rfl (j := 0) rfl ?_
  refine ax_iload_n B d_L_law_446 rfl (j := 3) rfl ?_
  refine ax_iconst B (v := 5) (by decide) d_L_law_447 ?_
  refine ax_iadd B d_L_law_448 ?_
  refine ax_sld B hX had d_L_law_449 hf (fun x11 hf => ?_)
  refine ax_cVV B hR (as := [ax_I x7, ax_I x8, ax_I x9, ax_I x10, ax_I x11]) (V := fun q => ax_I q.1) (N := fun q => q.2) d_L_law_450 l_L_54 m_M_question hf (fun q h => c_M_question _ _ _ _ _ _ _ _ _ h) rfl rfl (by decide) (by decide) (by omega) (by omega) (Nat.le_of_ble_eq_true rfl) (fun q12 hf => ?_)
  refine ax_icmp_eq B (tgt := 1146) d_L_law_453 (by decide) hf (fun hf => ?_) (fun hf => ?_)
  · skip
    exact K_L_inc B hR hX hq hr hc hs hn had q12.2 v3 hf
  · cases hf
    exact absurd hq (show ¬ (0 : Int32) = 1 by decide)
def G_L_9 (xs : Nat → Int32) (L : Nat) (rec : ax_M → Int32 → Option (Int32 × ax_M)) (M : ax_M) (v3 : Int32) : Option (Int32 × ax_M) := (ax_sr xs L (v3 + 1)).bind (fun x1 => (ax_sr xs L (v3 + 2)).bind (fun x2 => (ax_sr xs L (v3 + 3)).bind (fun x3 => (ax_sr xs L (v3 + 4)).bind (fun x4 => (ax_ob M 0 (some 0)).bind (fun _ => (f_V_call M (some 0) x1 x2 x3 x4).bind (fun q5 => (ax_sr xs L (v3 + 1)).bind (fun x6 => (ax_sr xs L (v3 + 2)).bind (fun x7 => (ax_sr xs L (v3 + 3)).bind (fun x8 => (ax_sr xs L (v3 + 4)).bind (fun x9 => (ax_ob q5.2 3 (some 100)).bind (fun _ => (f_M_call q5.2 (some 100) x6 x7 x8 x9).bind (fun q10 => if q5.1 = q10.1 then G_L_inc rec q10.2 v3 else some (0, q10.2)))))))))))))
set_option maxRecDepth 100000 in
set_option maxHeartbeats 4000000 in
theorem K_L_9 {Z : ax_Z} {ad : Nat → Nat} {c s b L : Nat} {xs : Nat → Int32} {q : Int32 × ax_M} (B : ax_B Z "VoteAuctionsLaw" code ret) (hR : ax_R Z 9 600000 7302250) (hX : ax_scr Z b L xs) (hq : q.1 = 1) {rec : ax_M → Int32 → Option (Int32 × ax_M)} (hr : ∀ ad' : Nat → Nat, ad' 9999 = b → ∀ (M : ax_M) (v3 : Int32), rec M v3 = some q → ax_W Z ad' (c + 6) (s + 54) 18 [(0, ax_O (some 9999)), (1, ax_O (some 0)), (2, ax_O (some 100)), (3, ax_I v3)] [] M) (hc : c + 6 ≤ 600000) (hs : s + 54 ≤ 7302250) (hn : Z.2.2.2.2.2.2.2.2.2.2.2.1 = 4) (had : ad 9999 = b) : ∀ (M : ax_M) (v3 : Int32), G_L_9 xs L rec M v3 = some q → ax_W Z ad c s 458 [(0, ax_O (some 9999)), (1, ax_O (some 0)), (2, ax_O (some 100)), (3, ax_I v3)] [] M := by
  intro M v3 hf
  unfold G_L_9 at hf
  refine ax_aload_n B d_L_law_458 rfl (j := 1) rfl ?_
  refine ax_aload_n B d_L_law_459 rfl (j := 0) rfl ?_
  refine ax_iload_n B d_L_law_460 rfl (j := 3) rfl ?_
  refine ax_iconst B (v := 1) (by decide) d_L_law_461 ?_
  refine ax_iadd B d_L_law_462 ?_
  refine ax_sld B hX had d_L_law_463 hf (fun x1 hf => ?_)
  refine ax_aload_n B d_L_law_464 rfl (j := 0) rfl ?_
  refine ax_iload_n B d_L_law_465 rfl (j := 3) rfl ?_
  refine ax_iconst B (v := 2) (by decide) d_L_law_466 ?_
  refine ax_iadd B d_L_law_467 ?_
  refine ax_sld B hX had d_L_law_468 hf (fun x2 hf => ?_)
  refine ax_aload_n B d_L_law_469 rfl (j := 0) rfl ?_
  refine ax_iload_n B d_L_law_470 rfl (j := 3) rfl ?_
  refine ax_iconst B (v := 3) (by decide) d_L_law_471 ?_
  refine ax_iadd B d_L_law_472 ?_
  refine ax_sld B hX had d_L_law_473 hf (fun x3 hf => ?_)
  refine ax_aload_n B d_L_law_474 rfl (j := 0) rfl ?_
  refine ax_iload_n B d_L_law_475 rfl (j := 3) rfl ?_
  refine ax_iconst B (v := 4) (by decide) d_L_law_476 ?_
  refine ax_iadd B d_L_law_477 ?_
  refine ax_sld B hX had d_L_law_478 hf (fun x4 hf => ?_)
  refine ax_cVV B hR (as := [ax_I x1, ax_I x2, ax_I x3, ax_I x4]) (V := fun q => ax_I q.1) (N := fun q => q.2) d_L_law_479 l_L_55 m_V_call hf (fun q h => c_V_call _ _ _ _ _ _ _ _ h) rfl rfl (by decide) (by decide) (by omega) (by omega) (Nat.le_of_ble_eq_true rfl) (fun q5 hf => ?_)
  refine ax_aload_n B d_L_law_482 rfl (j := 2) rfl ?_
  refine ax_aload_n B d_L_law_483 rfl (j := 0) rfl ?_
  refine ax_iload_n B d_L_law_484 rfl (j := 3) rfl ?_
  refine ax_iconst B (v := 1) (by decide) d_L_law_485 ?_
  refine ax_iadd B d_L_law_486 ?_
  refine ax_sld B hX had d_L_law_487 hf (fun x6 hf => ?_)
  refine ax_aload_n B d_L_law_488 rfl (j := 0) rfl ?_
  refine ax_iload_n B d_L_law_489 rfl (j := 3) rfl ?_
  refine ax_iconst B (v := 2) (by decide) d_L_law_490 ?_
  refine ax_iadd B d_L_law_491 ?_
  refine ax_sld B hX had d_L_law_492 hf (fun x7 hf => ?_)
  refine ax_aload_n B d_L_law_493 rfl (j := 0) rfl ?_
  refine ax_iload_n B d_L_law_494 rfl (j := 3) rfl ?_
  refine ax_iconst B (v := 3) (by decide) d_L_law_495 ?_
  refine ax_iadd B d_L_law_496 ?_
  refine ax_sld B hX had d_L_law_497 hf (fun x8 hf => ?_)
  refine ax_aload_n B d_L_law_498 rfl (j := 0) rfl ?_
  refine ax_iload_n B d_L_law_499 rfl (j := 3) rfl ?_
  refine ax_iconst B (v := 4) (by decide) d_L_law_500 ?_
  refine ax_iadd B d_L_law_501 ?_
  refine ax_sld B hX had d_L_law_502 hf (fun x9 hf => ?_)
  refine ax_cVV B hR (as := [ax_I x6, ax_I x7, ax_I x8, ax_I x9]) (V := fun q => ax_I q.1) (N := fun q => q.2) d_L_law_503 l_L_59 m_M_call hf (fun q h => c_M_call _ _ _ _ _ _ _ _ h) rfl rfl (by decide) (by decide) (by omega) (by omega) (Nat.le_of_ble_eq_true rfl) (fun q10 hf => ?_)
  refine ax_icmp_eq B (tgt := 1146) d_L_law_506 (by decide) hf (fun hf => ?_) (fun hf => ?_)
  · refine ax_widen (Nat.le_add_right _ 6) (Nat.le_add_right _ 54) ?_
    exact K_L_inc B hR hX hq hr hc hs hn had q10.2 v3 hf
  · cases hf
    exact absurd hq (show ¬ (0 : Int32) = 1 by decide)
def G_L_10 (xs : Nat → Int32) (L : Nat) (rec : ax_M → Int32 → Option (Int32 × ax_M)) (M : ax_M) (v3 : Int32) : Option (Int32 × ax_M) := (ax_sr xs L (v3 + 1)).bind (fun x1 => (ax_sr xs L (v3 + 2)).bind (fun x2 => (ax_sr xs L (v3 + 3)).bind (fun x3 => (ax_ob M 0 (some 0)).bind (fun _ => (f_V_vote M (some 0) x1 x2 x3).bind (fun q4 => (ax_sr xs L (v3 + 1)).bind (fun x5 => (ax_sr xs L (v3 + 2)).bind (fun x6 => (ax_sr xs L (v3 + 3)).bind (fun x7 => (ax_ob q4.2 3 (some 100)).bind (fun _ => (f_M_vote q4.2 (some 100) x5 x6 x7).bind (fun q8 => if q4.1 = q8.1 then G_L_inc rec q8.2 v3 else some (0, q8.2)))))))))))
set_option maxRecDepth 100000 in
set_option maxHeartbeats 4000000 in
theorem K_L_10 {Z : ax_Z} {ad : Nat → Nat} {c s b L : Nat} {xs : Nat → Int32} {q : Int32 × ax_M} (B : ax_B Z "VoteAuctionsLaw" code ret) (hR : ax_R Z 9 600000 7302250) (hX : ax_scr Z b L xs) (hq : q.1 = 1) {rec : ax_M → Int32 → Option (Int32 × ax_M)} (hr : ∀ ad' : Nat → Nat, ad' 9999 = b → ∀ (M : ax_M) (v3 : Int32), rec M v3 = some q → ax_W Z ad' (c + 6) (s + 54) 18 [(0, ax_O (some 9999)), (1, ax_O (some 0)), (2, ax_O (some 100)), (3, ax_I v3)] [] M) (hc : c + 6 ≤ 600000) (hs : s + 54 ≤ 7302250) (hn : Z.2.2.2.2.2.2.2.2.2.2.2.1 = 4) (had : ad 9999 = b) : ∀ (M : ax_M) (v3 : Int32), G_L_10 xs L rec M v3 = some q → ax_W Z ad c s 511 [(0, ax_O (some 9999)), (1, ax_O (some 0)), (2, ax_O (some 100)), (3, ax_I v3)] [] M := by
  intro M v3 hf
  unfold G_L_10 at hf
  refine ax_aload_n B d_L_law_511 rfl (j := 1) rfl ?_
  refine ax_aload_n B d_L_law_512 rfl (j := 0) rfl ?_
  refine ax_iload_n B d_L_law_513 rfl (j := 3) rfl ?_
  refine ax_iconst B (v := 1) (by decide) d_L_law_514 ?_
  refine ax_iadd B d_L_law_515 ?_
  refine ax_sld B hX had d_L_law_516 hf (fun x1 hf => ?_)
  refine ax_aload_n B d_L_law_517 rfl (j := 0) rfl ?_
  refine ax_iload_n B d_L_law_518 rfl (j := 3) rfl ?_
  refine ax_iconst B (v := 2) (by decide) d_L_law_519 ?_
  refine ax_iadd B d_L_law_520 ?_
  refine ax_sld B hX had d_L_law_521 hf (fun x2 hf => ?_)
  refine ax_aload_n B d_L_law_522 rfl (j := 0) rfl ?_
  refine ax_iload_n B d_L_law_523 rfl (j := 3) rfl ?_
  refine ax_iconst B (v := 3) (by decide) d_L_law_524 ?_
  refine ax_iadd B d_L_law_525 ?_
  refine ax_sld B hX had d_L_law_526 hf (fun x3 hf => ?_)
  refine ax_cVV B hR (as := [ax_I x1, ax_I x2, ax_I x3]) (V := fun q => ax_I q.1) (N := fun q => q.2) d_L_law_527 l_L_60 m_V_vote hf (fun q h => c_V_vote _ _ _ _ _ _ _ h) rfl rfl (by decide) (by decide) (by omega) (by omega) (Nat.le_of_ble_eq_true rfl) (fun q4 hf => ?_)
  refine ax_aload_n B d_L_law_530 rfl (j := 2) rfl ?_
  refine ax_aload_n B d_L_law_531 rfl (j := 0) rfl ?_
  refine ax_iload_n B d_L_law_532 rfl (j := 3) rfl ?_
  refine ax_iconst B (v := 1) (by decide) d_L_law_533 ?_
  refine ax_iadd B d_L_law_534 ?_
  refine ax_sld B hX had d_L_law_535 hf (fun x5 hf => ?_)
  refine ax_aload_n B d_L_law_536 rfl (j := 0) rfl ?_
  refine ax_iload_n B d_L_law_537 rfl (j := 3) rfl ?_
  refine ax_iconst B (v := 2) (by decide) d_L_law_538 ?_
  refine ax_iadd B d_L_law_539 ?_
  refine ax_sld B hX had d_L_law_540 hf (fun x6 hf => ?_)
  refine ax_aload_n B d_L_law_541 rfl (j := 0) rfl ?_
  refine ax_iload_n B d_L_law_542 rfl (j := 3) rfl ?_
  refine ax_iconst B (v := 3) (by decide) d_L_law_543 ?_
  refine ax_iadd B d_L_law_544 ?_
  refine ax_sld B hX had d_L_law_545 hf (fun x7 hf => ?_)
  refine ax_cVV B hR (as := [ax_I x5, ax_I x6, ax_I x7]) (V := fun q => ax_I q.1) (N := fun q => q.2) d_L_law_546 l_L_64 m_M_vote hf (fun q h => c_M_vote _ _ _ _ _ _ _ h) rfl rfl (by decide) (by decide) (by omega) (by omega) (Nat.le_of_ble_eq_true rfl) (fun q8 hf => ?_)
  refine ax_icmp_eq B (tgt := 1146) d_L_law_549 (by decide) hf (fun hf => ?_) (fun hf => ?_)
  · refine ax_widen (Nat.le_add_right _ 6) (Nat.le_add_right _ 54) ?_
    exact K_L_inc B hR hX hq hr hc hs hn had q8.2 v3 hf
  · cases hf
    exact absurd hq (show ¬ (0 : Int32) = 1 by decide)
def G_L_11 (xs : Nat → Int32) (L : Nat) (rec : ax_M → Int32 → Option (Int32 × ax_M)) (M : ax_M) (v3 : Int32) : Option (Int32 × ax_M) := (ax_sr xs L (v3 + 1)).bind (fun x1 => (ax_sr xs L (v3 + 2)).bind (fun x2 => (ax_sr xs L (v3 + 3)).bind (fun x3 => (ax_sr xs L (v3 + 4)).bind (fun x4 => (ax_ob M 0 (some 0)).bind (fun _ => (f_V_hide M (some 0) x1 x2 (((x3.toInt64) <<< ((32 : Int32).toInt64 &&& 63)) ||| ((x4.toInt64) &&& 4294967295))).bind (fun q5 => (ax_sr xs L (v3 + 1)).bind (fun x6 => (ax_sr xs L (v3 + 2)).bind (fun x7 => (ax_sr xs L (v3 + 3)).bind (fun x8 => (ax_sr xs L (v3 + 4)).bind (fun x9 => (ax_ob q5.2 3 (some 100)).bind (fun _ => (f_M_hide q5.2 (some 100) x6 x7 (((x8.toInt64) <<< ((32 : Int32).toInt64 &&& 63)) ||| ((x9.toInt64) &&& 4294967295))).bind (fun q10 => if q5.1 = q10.1 then G_L_inc rec q10.2 v3 else some (0, q10.2)))))))))))))
set_option maxRecDepth 100000 in
set_option maxHeartbeats 4000000 in
theorem K_L_11 {Z : ax_Z} {ad : Nat → Nat} {c s b L : Nat} {xs : Nat → Int32} {q : Int32 × ax_M} (B : ax_B Z "VoteAuctionsLaw" code ret) (hR : ax_R Z 9 600000 7302250) (hX : ax_scr Z b L xs) (hq : q.1 = 1) {rec : ax_M → Int32 → Option (Int32 × ax_M)} (hr : ∀ ad' : Nat → Nat, ad' 9999 = b → ∀ (M : ax_M) (v3 : Int32), rec M v3 = some q → ax_W Z ad' (c + 6) (s + 54) 18 [(0, ax_O (some 9999)), (1, ax_O (some 0)), (2, ax_O (some 100)), (3, ax_I v3)] [] M) (hc : c + 6 ≤ 600000) (hs : s + 54 ≤ 7302250) (hn : Z.2.2.2.2.2.2.2.2.2.2.2.1 = 4) (had : ad 9999 = b) : ∀ (M : ax_M) (v3 : Int32), G_L_11 xs L rec M v3 = some q → ax_W Z ad c s 554 [(0, ax_O (some 9999)), (1, ax_O (some 0)), (2, ax_O (some 100)), (3, ax_I v3)] [] M := by
  intro M v3 hf
  unfold G_L_11 at hf
  refine ax_aload_n B d_L_law_554 rfl (j := 1) rfl ?_
  refine ax_aload_n B d_L_law_555 rfl (j := 0) rfl ?_
  refine ax_iload_n B d_L_law_556 rfl (j := 3) rfl ?_
  refine ax_iconst B (v := 1) (by decide) d_L_law_557 ?_
  refine ax_iadd B d_L_law_558 ?_
  refine ax_sld B hX had d_L_law_559 hf (fun x1 hf => ?_)
  refine ax_aload_n B d_L_law_560 rfl (j := 0) rfl ?_
  refine ax_iload_n B d_L_law_561 rfl (j := 3) rfl ?_
  refine ax_iconst B (v := 2) (by decide) d_L_law_562 ?_
  refine ax_iadd B d_L_law_563 ?_
  refine ax_sld B hX had d_L_law_564 hf (fun x2 hf => ?_)
  refine ax_aload_n B d_L_law_565 rfl (j := 0) rfl ?_
  refine ax_iload_n B d_L_law_566 rfl (j := 3) rfl ?_
  refine ax_iconst B (v := 3) (by decide) d_L_law_567 ?_
  refine ax_iadd B d_L_law_568 ?_
  refine ax_sld B hX had d_L_law_569 hf (fun x3 hf => ?_)
  refine ax_i2l B d_L_law_570 ?_
  refine ax_bipush B (v := 32) (by decide) d_L_law_571 ?_
  refine ax_lshl B d_L_law_573 ?_
  refine ax_aload_n B d_L_law_574 rfl (j := 0) rfl ?_
  refine ax_iload_n B d_L_law_575 rfl (j := 3) rfl ?_
  refine ax_iconst B (v := 4) (by decide) d_L_law_576 ?_
  refine ax_iadd B d_L_law_577 ?_
  refine ax_sld B hX had d_L_law_578 hf (fun x4 hf => ?_)
  refine ax_i2l B d_L_law_579 ?_
  refine ax_ldc2 B (v := 4294967295) n_L_65 d_L_law_580 ?_
  refine ax_land B d_L_law_583 ?_
  refine ax_lor B d_L_law_584 ?_
  refine ax_cVV B hR (as := [ax_I x1, ax_I x2, ax_L (((x3.toInt64) <<< ((32 : Int32).toInt64 &&& 63)) ||| ((x4.toInt64) &&& 4294967295))]) (V := fun q => ax_I q.1) (N := fun q => q.2) d_L_law_585 l_L_67 m_V_hide hf (fun q h => c_V_hide _ _ _ _ _ _ _ h) rfl rfl (by decide) (by decide) (by omega) (by omega) (Nat.le_of_ble_eq_true rfl) (fun q5 hf => ?_)
  refine ax_aload_n B d_L_law_588 rfl (j := 2) rfl ?_
  refine ax_aload_n B d_L_law_589 rfl (j := 0) rfl ?_
  refine ax_iload_n B d_L_law_590 rfl (j := 3) rfl ?_
  refine ax_iconst B (v := 1) (by decide) d_L_law_591 ?_
  refine ax_iadd B d_L_law_592 ?_
  refine ax_sld B hX had d_L_law_593 hf (fun x6 hf => ?_)
  refine ax_aload_n B d_L_law_594 rfl (j := 0) rfl ?_
  refine ax_iload_n B d_L_law_595 rfl (j := 3) rfl ?_
  refine ax_iconst B (v := 2) (by decide) d_L_law_596 ?_
  refine ax_iadd B d_L_law_597 ?_
  refine ax_sld B hX had d_L_law_598 hf (fun x7 hf => ?_)
  refine ax_aload_n B d_L_law_599 rfl (j := 0) rfl ?_
  refine ax_iload_n B d_L_law_600 rfl (j := 3) rfl ?_
  refine ax_iconst B (v := 3) (by decide) d_L_law_601 ?_
  refine ax_iadd B d_L_law_602 ?_
  refine ax_sld B hX had d_L_law_603 hf (fun x8 hf => ?_)
  refine ax_i2l B d_L_law_604 ?_
  refine ax_bipush B (v := 32) (by decide) d_L_law_605 ?_
  refine ax_lshl B d_L_law_607 ?_
  refine ax_aload_n B d_L_law_608 rfl (j := 0) rfl ?_
  refine ax_iload_n B d_L_law_609 rfl (j := 3) rfl ?_
  refine ax_iconst B (v := 4) (by decide) d_L_law_610 ?_
  refine ax_iadd B d_L_law_611 ?_
  refine ax_sld B hX had d_L_law_612 hf (fun x9 hf => ?_)
  refine ax_i2l B d_L_law_613 ?_
  refine ax_ldc2 B (v := 4294967295) n_L_65 d_L_law_614 ?_
  refine ax_land B d_L_law_617 ?_
  refine ax_lor B d_L_law_618 ?_
  refine ax_cVV B hR (as := [ax_I x6, ax_I x7, ax_L (((x8.toInt64) <<< ((32 : Int32).toInt64 &&& 63)) ||| ((x9.toInt64) &&& 4294967295))]) (V := fun q => ax_I q.1) (N := fun q => q.2) d_L_law_619 l_L_71 m_M_hide hf (fun q h => c_M_hide _ _ _ _ _ _ _ h) rfl rfl (by decide) (by decide) (by omega) (by omega) (Nat.le_of_ble_eq_true rfl) (fun q10 hf => ?_)
  refine ax_icmp_eq B (tgt := 1146) d_L_law_622 (by decide) hf (fun hf => ?_) (fun hf => ?_)
  · refine ax_widen (Nat.le_add_right _ 6) (Nat.le_add_right _ 54) ?_
    exact K_L_inc B hR hX hq hr hc hs hn had q10.2 v3 hf
  · cases hf
    exact absurd hq (show ¬ (0 : Int32) = 1 by decide)
def G_L_12 (xs : Nat → Int32) (L : Nat) (rec : ax_M → Int32 → Option (Int32 × ax_M)) (M : ax_M) (v3 : Int32) : Option (Int32 × ax_M) := (ax_sr xs L (v3 + 1)).bind (fun x1 => (ax_sr xs L (v3 + 2)).bind (fun x2 => (ax_sr xs L (v3 + 3)).bind (fun x3 => (ax_sr xs L (v3 + 4)).bind (fun x4 => (ax_ob M 0 (some 0)).bind (fun _ => (f_V_reveal M (some 0) x1 x2 x3 x4).bind (fun q5 => (ax_sr xs L (v3 + 1)).bind (fun x6 => (ax_sr xs L (v3 + 2)).bind (fun x7 => (ax_sr xs L (v3 + 3)).bind (fun x8 => (ax_sr xs L (v3 + 4)).bind (fun x9 => (ax_ob q5.2 3 (some 100)).bind (fun _ => (f_M_reveal q5.2 (some 100) x6 x7 x8 x9).bind (fun q10 => if q5.1 = q10.1 then G_L_inc rec q10.2 v3 else some (0, q10.2)))))))))))))
set_option maxRecDepth 100000 in
set_option maxHeartbeats 4000000 in
theorem K_L_12 {Z : ax_Z} {ad : Nat → Nat} {c s b L : Nat} {xs : Nat → Int32} {q : Int32 × ax_M} (B : ax_B Z "VoteAuctionsLaw" code ret) (hR : ax_R Z 9 600000 7302250) (hX : ax_scr Z b L xs) (hq : q.1 = 1) {rec : ax_M → Int32 → Option (Int32 × ax_M)} (hr : ∀ ad' : Nat → Nat, ad' 9999 = b → ∀ (M : ax_M) (v3 : Int32), rec M v3 = some q → ax_W Z ad' (c + 6) (s + 54) 18 [(0, ax_O (some 9999)), (1, ax_O (some 0)), (2, ax_O (some 100)), (3, ax_I v3)] [] M) (hc : c + 6 ≤ 600000) (hs : s + 54 ≤ 7302250) (hn : Z.2.2.2.2.2.2.2.2.2.2.2.1 = 4) (had : ad 9999 = b) : ∀ (M : ax_M) (v3 : Int32), G_L_12 xs L rec M v3 = some q → ax_W Z ad c s 627 [(0, ax_O (some 9999)), (1, ax_O (some 0)), (2, ax_O (some 100)), (3, ax_I v3)] [] M := by
  intro M v3 hf
  unfold G_L_12 at hf
  refine ax_aload_n B d_L_law_627 rfl (j := 1) rfl ?_
  refine ax_aload_n B d_L_law_628 rfl (j := 0) rfl ?_
  refine ax_iload_n B d_L_law_629 rfl (j := 3) rfl ?_
  refine ax_iconst B (v := 1) (by decide) d_L_law_630 ?_
  refine ax_iadd B d_L_law_631 ?_
  refine ax_sld B hX had d_L_law_632 hf (fun x1 hf => ?_)
  refine ax_aload_n B d_L_law_633 rfl (j := 0) rfl ?_
  refine ax_iload_n B d_L_law_634 rfl (j := 3) rfl ?_
  refine ax_iconst B (v := 2) (by decide) d_L_law_635 ?_
  refine ax_iadd B d_L_law_636 ?_
  refine ax_sld B hX had d_L_law_637 hf (fun x2 hf => ?_)
  refine ax_aload_n B d_L_law_638 rfl (j := 0) rfl ?_
  refine ax_iload_n B d_L_law_639 rfl (j := 3) rfl ?_
  refine ax_iconst B (v := 3) (by decide) d_L_law_640 ?_
  refine ax_iadd B d_L_law_641 ?_
  refine ax_sld B hX had d_L_law_642 hf (fun x3 hf => ?_)
  refine ax_aload_n B d_L_law_643 rfl (j := 0) rfl ?_
  refine ax_iload_n B d_L_law_644 rfl (j := 3) rfl ?_
  refine ax_iconst B (v := 4) (by decide) d_L_law_645 ?_
  refine ax_iadd B d_L_law_646 ?_
  refine ax_sld B hX had d_L_law_647 hf (fun x4 hf => ?_)
  refine ax_cVV B hR (as := [ax_I x1, ax_I x2, ax_I x3, ax_I x4]) (V := fun q => ax_I q.1) (N := fun q => q.2) d_L_law_648 l_L_72 m_V_reveal hf (fun q h => c_V_reveal _ _ _ _ _ _ _ _ h) rfl rfl (by decide) (by decide) (by omega) (by omega) (Nat.le_of_ble_eq_true rfl) (fun q5 hf => ?_)
  refine ax_aload_n B d_L_law_651 rfl (j := 2) rfl ?_
  refine ax_aload_n B d_L_law_652 rfl (j := 0) rfl ?_
  refine ax_iload_n B d_L_law_653 rfl (j := 3) rfl ?_
  refine ax_iconst B (v := 1) (by decide) d_L_law_654 ?_
  refine ax_iadd B d_L_law_655 ?_
  refine ax_sld B hX had d_L_law_656 hf (fun x6 hf => ?_)
  refine ax_aload_n B d_L_law_657 rfl (j := 0) rfl ?_
  refine ax_iload_n B d_L_law_658 rfl (j := 3) rfl ?_
  refine ax_iconst B (v := 2) (by decide) d_L_law_659 ?_
  refine ax_iadd B d_L_law_660 ?_
  refine ax_sld B hX had d_L_law_661 hf (fun x7 hf => ?_)
  refine ax_aload_n B d_L_law_662 rfl (j := 0) rfl ?_
  refine ax_iload_n B d_L_law_663 rfl (j := 3) rfl ?_
  refine ax_iconst B (v := 3) (by decide) d_L_law_664 ?_
  refine ax_iadd B d_L_law_665 ?_
  refine ax_sld B hX had d_L_law_666 hf (fun x8 hf => ?_)
  refine ax_aload_n B d_L_law_667 rfl (j := 0) rfl ?_
  refine ax_iload_n B d_L_law_668 rfl (j := 3) rfl ?_
  refine ax_iconst B (v := 4) (by decide) d_L_law_669 ?_
  refine ax_iadd B d_L_law_670 ?_
  refine ax_sld B hX had d_L_law_671 hf (fun x9 hf => ?_)
  refine ax_cVV B hR (as := [ax_I x6, ax_I x7, ax_I x8, ax_I x9]) (V := fun q => ax_I q.1) (N := fun q => q.2) d_L_law_672 l_L_75 m_M_reveal hf (fun q h => c_M_reveal _ _ _ _ _ _ _ _ h) rfl rfl (by decide) (by decide) (by omega) (by omega) (Nat.le_of_ble_eq_true rfl) (fun q10 hf => ?_)
  refine ax_icmp_eq B (tgt := 1146) d_L_law_675 (by decide) hf (fun hf => ?_) (fun hf => ?_)
  · refine ax_widen (Nat.le_add_right _ 6) (Nat.le_add_right _ 54) ?_
    exact K_L_inc B hR hX hq hr hc hs hn had q10.2 v3 hf
  · cases hf
    exact absurd hq (show ¬ (0 : Int32) = 1 by decide)
def G_L_13 (xs : Nat → Int32) (L : Nat) (rec : ax_M → Int32 → Option (Int32 × ax_M)) (M : ax_M) (v3 : Int32) : Option (Int32 × ax_M) := (ax_sr xs L (v3 + 1)).bind (fun x1 => (ax_sr xs L (v3 + 2)).bind (fun x2 => (ax_ob M 0 (some 0)).bind (fun _ => (f_V_count M (some 0) x1 x2).bind (fun q3 => (ax_sr xs L (v3 + 1)).bind (fun x4 => (ax_sr xs L (v3 + 2)).bind (fun x5 => (ax_ob q3.2 3 (some 100)).bind (fun _ => (f_M_count q3.2 (some 100) x4 x5).bind (fun q6 => if q3.1 = q6.1 then G_L_inc rec q6.2 v3 else some (0, q6.2)))))))))
set_option maxRecDepth 100000 in
set_option maxHeartbeats 4000000 in
theorem K_L_13 {Z : ax_Z} {ad : Nat → Nat} {c s b L : Nat} {xs : Nat → Int32} {q : Int32 × ax_M} (B : ax_B Z "VoteAuctionsLaw" code ret) (hR : ax_R Z 9 600000 7302250) (hX : ax_scr Z b L xs) (hq : q.1 = 1) {rec : ax_M → Int32 → Option (Int32 × ax_M)} (hr : ∀ ad' : Nat → Nat, ad' 9999 = b → ∀ (M : ax_M) (v3 : Int32), rec M v3 = some q → ax_W Z ad' (c + 6) (s + 54) 18 [(0, ax_O (some 9999)), (1, ax_O (some 0)), (2, ax_O (some 100)), (3, ax_I v3)] [] M) (hc : c + 6 ≤ 600000) (hs : s + 54 ≤ 7302250) (hn : Z.2.2.2.2.2.2.2.2.2.2.2.1 = 4) (had : ad 9999 = b) : ∀ (M : ax_M) (v3 : Int32), G_L_13 xs L rec M v3 = some q → ax_W Z ad c s 680 [(0, ax_O (some 9999)), (1, ax_O (some 0)), (2, ax_O (some 100)), (3, ax_I v3)] [] M := by
  intro M v3 hf
  unfold G_L_13 at hf
  refine ax_aload_n B d_L_law_680 rfl (j := 1) rfl ?_
  refine ax_aload_n B d_L_law_681 rfl (j := 0) rfl ?_
  refine ax_iload_n B d_L_law_682 rfl (j := 3) rfl ?_
  refine ax_iconst B (v := 1) (by decide) d_L_law_683 ?_
  refine ax_iadd B d_L_law_684 ?_
  refine ax_sld B hX had d_L_law_685 hf (fun x1 hf => ?_)
  refine ax_aload_n B d_L_law_686 rfl (j := 0) rfl ?_
  refine ax_iload_n B d_L_law_687 rfl (j := 3) rfl ?_
  refine ax_iconst B (v := 2) (by decide) d_L_law_688 ?_
  refine ax_iadd B d_L_law_689 ?_
  refine ax_sld B hX had d_L_law_690 hf (fun x2 hf => ?_)
  refine ax_cVV B hR (as := [ax_I x1, ax_I x2]) (V := fun q => ax_I q.1) (N := fun q => q.2) d_L_law_691 l_L_76 m_V_count hf (fun q h => c_V_count _ _ _ _ _ _ h) rfl rfl (by decide) (by decide) (by omega) (by omega) (Nat.le_of_ble_eq_true rfl) (fun q3 hf => ?_)
  refine ax_aload_n B d_L_law_694 rfl (j := 2) rfl ?_
  refine ax_aload_n B d_L_law_695 rfl (j := 0) rfl ?_
  refine ax_iload_n B d_L_law_696 rfl (j := 3) rfl ?_
  refine ax_iconst B (v := 1) (by decide) d_L_law_697 ?_
  refine ax_iadd B d_L_law_698 ?_
  refine ax_sld B hX had d_L_law_699 hf (fun x4 hf => ?_)
  refine ax_aload_n B d_L_law_700 rfl (j := 0) rfl ?_
  refine ax_iload_n B d_L_law_701 rfl (j := 3) rfl ?_
  refine ax_iconst B (v := 2) (by decide) d_L_law_702 ?_
  refine ax_iadd B d_L_law_703 ?_
  refine ax_sld B hX had d_L_law_704 hf (fun x5 hf => ?_)
  refine ax_cVV B hR (as := [ax_I x4, ax_I x5]) (V := fun q => ax_I q.1) (N := fun q => q.2) d_L_law_705 l_L_79 m_M_count hf (fun q h => c_M_count _ _ _ _ _ _ h) rfl rfl (by decide) (by decide) (by omega) (by omega) (Nat.le_of_ble_eq_true rfl) (fun q6 hf => ?_)
  refine ax_icmp_eq B (tgt := 1146) d_L_law_708 (by decide) hf (fun hf => ?_) (fun hf => ?_)
  · refine ax_widen (Nat.le_add_right _ 6) (Nat.le_add_right _ 54) ?_
    exact K_L_inc B hR hX hq hr hc hs hn had q6.2 v3 hf
  · cases hf
    exact absurd hq (show ¬ (0 : Int32) = 1 by decide)
def G_L_14 (xs : Nat → Int32) (L : Nat) (rec : ax_M → Int32 → Option (Int32 × ax_M)) (M : ax_M) (v3 : Int32) : Option (Int32 × ax_M) := (ax_sr xs L (v3 + 1)).bind (fun x1 => (ax_sr xs L (v3 + 2)).bind (fun x2 => (ax_ob M 0 (some 0)).bind (fun _ => (f_V_fallen M (some 0) x1 x2).bind (fun q3 => (ax_sr xs L (v3 + 1)).bind (fun x4 => (ax_sr xs L (v3 + 2)).bind (fun x5 => (ax_ob q3.2 3 (some 100)).bind (fun _ => (f_M_fallen q3.2 (some 100) x4 x5).bind (fun q6 => if q3.1 = q6.1 then G_L_inc rec q6.2 v3 else some (0, q6.2)))))))))
set_option maxRecDepth 100000 in
set_option maxHeartbeats 4000000 in
theorem K_L_14 {Z : ax_Z} {ad : Nat → Nat} {c s b L : Nat} {xs : Nat → Int32} {q : Int32 × ax_M} (B : ax_B Z "VoteAuctionsLaw" code ret) (hR : ax_R Z 9 600000 7302250) (hX : ax_scr Z b L xs) (hq : q.1 = 1) {rec : ax_M → Int32 → Option (Int32 × ax_M)} (hr : ∀ ad' : Nat → Nat, ad' 9999 = b → ∀ (M : ax_M) (v3 : Int32), rec M v3 = some q → ax_W Z ad' (c + 6) (s + 54) 18 [(0, ax_O (some 9999)), (1, ax_O (some 0)), (2, ax_O (some 100)), (3, ax_I v3)] [] M) (hc : c + 6 ≤ 600000) (hs : s + 54 ≤ 7302250) (hn : Z.2.2.2.2.2.2.2.2.2.2.2.1 = 4) (had : ad 9999 = b) : ∀ (M : ax_M) (v3 : Int32), G_L_14 xs L rec M v3 = some q → ax_W Z ad c s 713 [(0, ax_O (some 9999)), (1, ax_O (some 0)), (2, ax_O (some 100)), (3, ax_I v3)] [] M := by
  intro M v3 hf
  unfold G_L_14 at hf
  refine ax_aload_n B d_L_law_713 rfl (j := 1) rfl ?_
  refine ax_aload_n B d_L_law_714 rfl (j := 0) rfl ?_
  refine ax_iload_n B d_L_law_715 rfl (j := 3) rfl ?_
  refine ax_iconst B (v := 1) (by decide) d_L_law_716 ?_
  refine ax_iadd B d_L_law_717 ?_
  refine ax_sld B hX had d_L_law_718 hf (fun x1 hf => ?_)
  refine ax_aload_n B d_L_law_719 rfl (j := 0) rfl ?_
  refine ax_iload_n B d_L_law_720 rfl (j := 3) rfl ?_
  refine ax_iconst B (v := 2) (by decide) d_L_law_721 ?_
  refine ax_iadd B d_L_law_722 ?_
  refine ax_sld B hX had d_L_law_723 hf (fun x2 hf => ?_)
  refine ax_cVV B hR (as := [ax_I x1, ax_I x2]) (V := fun q => ax_I q.1) (N := fun q => q.2) d_L_law_724 l_L_80 m_V_fallen hf (fun q h => c_V_fallen _ _ _ _ _ _ h) rfl rfl (by decide) (by decide) (by omega) (by omega) (Nat.le_of_ble_eq_true rfl) (fun q3 hf => ?_)
  refine ax_aload_n B d_L_law_727 rfl (j := 2) rfl ?_
  refine ax_aload_n B d_L_law_728 rfl (j := 0) rfl ?_
  refine ax_iload_n B d_L_law_729 rfl (j := 3) rfl ?_
  refine ax_iconst B (v := 1) (by decide) d_L_law_730 ?_
  refine ax_iadd B d_L_law_731 ?_
  refine ax_sld B hX had d_L_law_732 hf (fun x4 hf => ?_)
  refine ax_aload_n B d_L_law_733 rfl (j := 0) rfl ?_
  refine ax_iload_n B d_L_law_734 rfl (j := 3) rfl ?_
  refine ax_iconst B (v := 2) (by decide) d_L_law_735 ?_
  refine ax_iadd B d_L_law_736 ?_
  refine ax_sld B hX had d_L_law_737 hf (fun x5 hf => ?_)
  refine ax_cVV B hR (as := [ax_I x4, ax_I x5]) (V := fun q => ax_I q.1) (N := fun q => q.2) d_L_law_738 l_L_83 m_M_fallen hf (fun q h => c_M_fallen _ _ _ _ _ _ h) rfl rfl (by decide) (by decide) (by omega) (by omega) (Nat.le_of_ble_eq_true rfl) (fun q6 hf => ?_)
  refine ax_icmp_eq B (tgt := 1146) d_L_law_741 (by decide) hf (fun hf => ?_) (fun hf => ?_)
  · refine ax_widen (Nat.le_add_right _ 6) (Nat.le_add_right _ 54) ?_
    exact K_L_inc B hR hX hq hr hc hs hn had q6.2 v3 hf
  · cases hf
    exact absurd hq (show ¬ (0 : Int32) = 1 by decide)
def G_L_15 (xs : Nat → Int32) (L : Nat) (rec : ax_M → Int32 → Option (Int32 × ax_M)) (M : ax_M) (v3 : Int32) : Option (Int32 × ax_M) := (ax_sr xs L (v3 + 1)).bind (fun x1 => (ax_ob M 0 (some 0)).bind (fun _ => (f_V_winner M (some 0) x1).bind (fun q2 => (ax_sr xs L (v3 + 1)).bind (fun x3 => (ax_ob q2.2 3 (some 100)).bind (fun _ => (f_M_winner q2.2 (some 100) x3).bind (fun q4 => if q2.1 = q4.1 then G_L_inc rec q4.2 v3 else some (0, q4.2)))))))
set_option maxRecDepth 100000 in
set_option maxHeartbeats 4000000 in
theorem K_L_15 {Z : ax_Z} {ad : Nat → Nat} {c s b L : Nat} {xs : Nat → Int32} {q : Int32 × ax_M} (B : ax_B Z "VoteAuctionsLaw" code ret) (hR : ax_R Z 9 600000 7302250) (hX : ax_scr Z b L xs) (hq : q.1 = 1) {rec : ax_M → Int32 → Option (Int32 × ax_M)} (hr : ∀ ad' : Nat → Nat, ad' 9999 = b → ∀ (M : ax_M) (v3 : Int32), rec M v3 = some q → ax_W Z ad' (c + 6) (s + 54) 18 [(0, ax_O (some 9999)), (1, ax_O (some 0)), (2, ax_O (some 100)), (3, ax_I v3)] [] M) (hc : c + 6 ≤ 600000) (hs : s + 54 ≤ 7302250) (hn : Z.2.2.2.2.2.2.2.2.2.2.2.1 = 4) (had : ad 9999 = b) : ∀ (M : ax_M) (v3 : Int32), G_L_15 xs L rec M v3 = some q → ax_W Z ad c s 746 [(0, ax_O (some 9999)), (1, ax_O (some 0)), (2, ax_O (some 100)), (3, ax_I v3)] [] M := by
  intro M v3 hf
  unfold G_L_15 at hf
  refine ax_aload_n B d_L_law_746 rfl (j := 1) rfl ?_
  refine ax_aload_n B d_L_law_747 rfl (j := 0) rfl ?_
  refine ax_iload_n B d_L_law_748 rfl (j := 3) rfl ?_
  refine ax_iconst B (v := 1) (by decide) d_L_law_749 ?_
  refine ax_iadd B d_L_law_750 ?_
  refine ax_sld B hX had d_L_law_751 hf (fun x1 hf => ?_)
  refine ax_cVV B hR (as := [ax_I x1]) (V := fun q => ax_I q.1) (N := fun q => q.2) d_L_law_752 l_L_84 m_V_winner hf (fun q h => c_V_winner _ _ _ _ _ h) rfl rfl (by decide) (by decide) (by omega) (by omega) (Nat.le_of_ble_eq_true rfl) (fun q2 hf => ?_)
  refine ax_aload_n B d_L_law_755 rfl (j := 2) rfl ?_
  refine ax_aload_n B d_L_law_756 rfl (j := 0) rfl ?_
  refine ax_iload_n B d_L_law_757 rfl (j := 3) rfl ?_
  refine ax_iconst B (v := 1) (by decide) d_L_law_758 ?_
  refine ax_iadd B d_L_law_759 ?_
  refine ax_sld B hX had d_L_law_760 hf (fun x3 hf => ?_)
  refine ax_cVV B hR (as := [ax_I x3]) (V := fun q => ax_I q.1) (N := fun q => q.2) d_L_law_761 l_L_87 m_M_winner hf (fun q h => c_M_winner _ _ _ _ _ h) rfl rfl (by decide) (by decide) (by omega) (by omega) (Nat.le_of_ble_eq_true rfl) (fun q4 hf => ?_)
  refine ax_icmp_eq B (tgt := 1146) d_L_law_764 (by decide) hf (fun hf => ?_) (fun hf => ?_)
  · refine ax_widen (Nat.le_add_right _ 6) (Nat.le_add_right _ 54) ?_
    exact K_L_inc B hR hX hq hr hc hs hn had q4.2 v3 hf
  · cases hf
    exact absurd hq (show ¬ (0 : Int32) = 1 by decide)
def G_L_16 (xs : Nat → Int32) (L : Nat) (rec : ax_M → Int32 → Option (Int32 × ax_M)) (M : ax_M) (v3 : Int32) : Option (Int32 × ax_M) := (ax_sr xs L (v3 + 1)).bind (fun x1 => (ax_ob M 0 (some 0)).bind (fun _ => (f_V_passed M (some 0) x1).bind (fun q2 => (ax_sr xs L (v3 + 1)).bind (fun x3 => (ax_ob q2.2 3 (some 100)).bind (fun _ => (f_M_passed q2.2 (some 100) x3).bind (fun q4 => if q2.1 = q4.1 then G_L_inc rec q4.2 v3 else some (0, q4.2)))))))
set_option maxRecDepth 100000 in
set_option maxHeartbeats 4000000 in
theorem K_L_16 {Z : ax_Z} {ad : Nat → Nat} {c s b L : Nat} {xs : Nat → Int32} {q : Int32 × ax_M} (B : ax_B Z "VoteAuctionsLaw" code ret) (hR : ax_R Z 9 600000 7302250) (hX : ax_scr Z b L xs) (hq : q.1 = 1) {rec : ax_M → Int32 → Option (Int32 × ax_M)} (hr : ∀ ad' : Nat → Nat, ad' 9999 = b → ∀ (M : ax_M) (v3 : Int32), rec M v3 = some q → ax_W Z ad' (c + 6) (s + 54) 18 [(0, ax_O (some 9999)), (1, ax_O (some 0)), (2, ax_O (some 100)), (3, ax_I v3)] [] M) (hc : c + 6 ≤ 600000) (hs : s + 54 ≤ 7302250) (hn : Z.2.2.2.2.2.2.2.2.2.2.2.1 = 4) (had : ad 9999 = b) : ∀ (M : ax_M) (v3 : Int32), G_L_16 xs L rec M v3 = some q → ax_W Z ad c s 769 [(0, ax_O (some 9999)), (1, ax_O (some 0)), (2, ax_O (some 100)), (3, ax_I v3)] [] M := by
  intro M v3 hf
  unfold G_L_16 at hf
  refine ax_aload_n B d_L_law_769 rfl (j := 1) rfl ?_
  refine ax_aload_n B d_L_law_770 rfl (j := 0) rfl ?_
  refine ax_iload_n B d_L_law_771 rfl (j := 3) rfl ?_
  refine ax_iconst B (v := 1) (by decide) d_L_law_772 ?_
  refine ax_iadd B d_L_law_773 ?_
  refine ax_sld B hX had d_L_law_774 hf (fun x1 hf => ?_)
  refine ax_cVV B hR (as := [ax_I x1]) (V := fun q => ax_I q.1) (N := fun q => q.2) d_L_law_775 l_L_88 m_V_passed hf (fun q h => c_V_passed _ _ _ _ _ h) rfl rfl (by decide) (by decide) (by omega) (by omega) (Nat.le_of_ble_eq_true rfl) (fun q2 hf => ?_)
  refine ax_aload_n B d_L_law_778 rfl (j := 2) rfl ?_
  refine ax_aload_n B d_L_law_779 rfl (j := 0) rfl ?_
  refine ax_iload_n B d_L_law_780 rfl (j := 3) rfl ?_
  refine ax_iconst B (v := 1) (by decide) d_L_law_781 ?_
  refine ax_iadd B d_L_law_782 ?_
  refine ax_sld B hX had d_L_law_783 hf (fun x3 hf => ?_)
  refine ax_cVV B hR (as := [ax_I x3]) (V := fun q => ax_I q.1) (N := fun q => q.2) d_L_law_784 l_L_91 m_M_passed hf (fun q h => c_M_passed _ _ _ _ _ h) rfl rfl (by decide) (by decide) (by omega) (by omega) (Nat.le_of_ble_eq_true rfl) (fun q4 hf => ?_)
  refine ax_icmp_eq B (tgt := 1146) d_L_law_787 (by decide) hf (fun hf => ?_) (fun hf => ?_)
  · refine ax_widen (Nat.le_add_right _ 6) (Nat.le_add_right _ 54) ?_
    exact K_L_inc B hR hX hq hr hc hs hn had q4.2 v3 hf
  · cases hf
    exact absurd hq (show ¬ (0 : Int32) = 1 by decide)
def G_L_17 (xs : Nat → Int32) (L : Nat) (rec : ax_M → Int32 → Option (Int32 × ax_M)) (M : ax_M) (v3 : Int32) : Option (Int32 × ax_M) := (ax_sr xs L (v3 + 1)).bind (fun x1 => (ax_ob M 0 (some 0)).bind (fun _ => (f_V_run M (some 0) x1).bind (fun q2 => (ax_sr xs L (v3 + 1)).bind (fun x3 => (ax_ob q2.2 3 (some 100)).bind (fun _ => (f_M_run q2.2 (some 100) x3).bind (fun q4 => if q2.1 = q4.1 then G_L_inc rec q4.2 v3 else some (0, q4.2)))))))
set_option maxRecDepth 100000 in
set_option maxHeartbeats 4000000 in
theorem K_L_17 {Z : ax_Z} {ad : Nat → Nat} {c s b L : Nat} {xs : Nat → Int32} {q : Int32 × ax_M} (B : ax_B Z "VoteAuctionsLaw" code ret) (hR : ax_R Z 9 600000 7302250) (hX : ax_scr Z b L xs) (hq : q.1 = 1) {rec : ax_M → Int32 → Option (Int32 × ax_M)} (hr : ∀ ad' : Nat → Nat, ad' 9999 = b → ∀ (M : ax_M) (v3 : Int32), rec M v3 = some q → ax_W Z ad' (c + 6) (s + 54) 18 [(0, ax_O (some 9999)), (1, ax_O (some 0)), (2, ax_O (some 100)), (3, ax_I v3)] [] M) (hc : c + 6 ≤ 600000) (hs : s + 54 ≤ 7302250) (hn : Z.2.2.2.2.2.2.2.2.2.2.2.1 = 4) (had : ad 9999 = b) : ∀ (M : ax_M) (v3 : Int32), G_L_17 xs L rec M v3 = some q → ax_W Z ad c s 792 [(0, ax_O (some 9999)), (1, ax_O (some 0)), (2, ax_O (some 100)), (3, ax_I v3)] [] M := by
  intro M v3 hf
  unfold G_L_17 at hf
  refine ax_aload_n B d_L_law_792 rfl (j := 1) rfl ?_
  refine ax_aload_n B d_L_law_793 rfl (j := 0) rfl ?_
  refine ax_iload_n B d_L_law_794 rfl (j := 3) rfl ?_
  refine ax_iconst B (v := 1) (by decide) d_L_law_795 ?_
  refine ax_iadd B d_L_law_796 ?_
  refine ax_sld B hX had d_L_law_797 hf (fun x1 hf => ?_)
  refine ax_cVV B hR (as := [ax_I x1]) (V := fun q => ax_I q.1) (N := fun q => q.2) d_L_law_798 l_L_92 m_V_run hf (fun q h => c_V_run _ _ _ _ _ h) rfl rfl (by decide) (by decide) (by omega) (by omega) (Nat.le_of_ble_eq_true rfl) (fun q2 hf => ?_)
  refine ax_aload_n B d_L_law_801 rfl (j := 2) rfl ?_
  refine ax_aload_n B d_L_law_802 rfl (j := 0) rfl ?_
  refine ax_iload_n B d_L_law_803 rfl (j := 3) rfl ?_
  refine ax_iconst B (v := 1) (by decide) d_L_law_804 ?_
  refine ax_iadd B d_L_law_805 ?_
  refine ax_sld B hX had d_L_law_806 hf (fun x3 hf => ?_)
  refine ax_cVV B hR (as := [ax_I x3]) (V := fun q => ax_I q.1) (N := fun q => q.2) d_L_law_807 l_L_95 m_M_run hf (fun q h => c_M_run _ _ _ _ _ h) rfl rfl (by decide) (by decide) (by omega) (by omega) (Nat.le_of_ble_eq_true rfl) (fun q4 hf => ?_)
  refine ax_icmp_eq B (tgt := 1146) d_L_law_810 (by decide) hf (fun hf => ?_) (fun hf => ?_)
  · refine ax_widen (Nat.le_add_right _ 6) (Nat.le_add_right _ 54) ?_
    exact K_L_inc B hR hX hq hr hc hs hn had q4.2 v3 hf
  · cases hf
    exact absurd hq (show ¬ (0 : Int32) = 1 by decide)
def G_L_18 (xs : Nat → Int32) (L : Nat) (rec : ax_M → Int32 → Option (Int32 × ax_M)) (M : ax_M) (v3 : Int32) : Option (Int32 × ax_M) := (ax_sr xs L (v3 + 1)).bind (fun x1 => (ax_sr xs L (v3 + 2)).bind (fun x2 => (ax_sr xs L (v3 + 3)).bind (fun x3 => (ax_sr xs L (v3 + 4)).bind (fun x4 => (ax_sr xs L (v3 + 5)).bind (fun x5 => (ax_gf [some 9999, some 0, some 100] [(10 * (ax_i M 0 9).toNatClampNeg + 2000), (10 * (ax_i M 0 9).toNatClampNeg + 2000) + 1, (10 * (ax_i M 0 9).toNatClampNeg + 2000) + 2, (10 * (ax_i M 0 9).toNatClampNeg + 2000) + 3, (10 * (ax_i M 0 9).toNatClampNeg + 2000) + 4, (10 * (ax_i M 0 9).toNatClampNeg + 2000) + 5]).bind (fun _ => (ax_ob M 0 (some 0)).bind (fun _ => (f_V_auction (10 * (ax_i M 0 9).toNatClampNeg + 2000) M (some 0) x1 x2 x3 x4 x5).bind (fun q6 => (ax_sr xs L (v3 + 1)).bind (fun x7 => (ax_sr xs L (v3 + 2)).bind (fun x8 => (ax_sr xs L (v3 + 3)).bind (fun x9 => (ax_sr xs L (v3 + 4)).bind (fun x10 => (ax_sr xs L (v3 + 5)).bind (fun x11 => (ax_ob q6.2 3 (some 100)).bind (fun _ => (f_M_auction q6.2 (some 100) x7 x8 x9 x10 x11).bind (fun q12 => if q6.1 = q12.1 then G_L_inc rec q12.2 v3 else some (0, q12.2))))))))))))))))
set_option maxRecDepth 100000 in
set_option maxHeartbeats 4000000 in
theorem K_L_18 {Z : ax_Z} {ad : Nat → Nat} {c s b L : Nat} {xs : Nat → Int32} {q : Int32 × ax_M} (B : ax_B Z "VoteAuctionsLaw" code ret) (hR : ax_R Z 9 600000 7302250) (hX : ax_scr Z b L xs) (hq : q.1 = 1) {rec : ax_M → Int32 → Option (Int32 × ax_M)} (hr : ∀ ad' : Nat → Nat, ad' 9999 = b → ∀ (M : ax_M) (v3 : Int32), rec M v3 = some q → ax_W Z ad' (c + 6) (s + 54) 18 [(0, ax_O (some 9999)), (1, ax_O (some 0)), (2, ax_O (some 100)), (3, ax_I v3)] [] M) (hc : c + 6 ≤ 600000) (hs : s + 54 ≤ 7302250) (hn : Z.2.2.2.2.2.2.2.2.2.2.2.1 = 4) (had : ad 9999 = b) : ∀ (M : ax_M) (v3 : Int32), G_L_18 xs L rec M v3 = some q → ax_W Z ad c s 815 [(0, ax_O (some 9999)), (1, ax_O (some 0)), (2, ax_O (some 100)), (3, ax_I v3)] [] M := by
  intro M v3 hf
  unfold G_L_18 at hf
  refine ax_aload_n B d_L_law_815 rfl (j := 1) rfl ?_
  refine ax_aload_n B d_L_law_816 rfl (j := 0) rfl ?_
  refine ax_iload_n B d_L_law_817 rfl (j := 3) rfl ?_
  refine ax_iconst B (v := 1) (by decide) d_L_law_818 ?_
  refine ax_iadd B d_L_law_819 ?_
  refine ax_sld B hX had d_L_law_820 hf (fun x1 hf => ?_)
  refine ax_aload_n B d_L_law_821 rfl (j := 0) rfl ?_
  refine ax_iload_n B d_L_law_822 rfl (j := 3) rfl ?_
  refine ax_iconst B (v := 2) (by decide) d_L_law_823 ?_
  refine ax_iadd B d_L_law_824 ?_
  refine ax_sld B hX had d_L_law_825 hf (fun x2 hf => ?_)
  refine ax_aload_n B d_L_law_826 rfl (j := 0) rfl ?_
  refine ax_iload_n B d_L_law_827 rfl (j := 3) rfl ?_
  refine ax_iconst B (v := 3) (by decide) d_L_law_828 ?_
  refine ax_iadd B d_L_law_829 ?_
  refine ax_sld B hX had d_L_law_830 hf (fun x3 hf => ?_)
  refine ax_aload_n B d_L_law_831 rfl (j := 0) rfl ?_
  refine ax_iload_n B d_L_law_832 rfl (j := 3) rfl ?_
  refine ax_iconst B (v := 4) (by decide) d_L_law_833 ?_
  refine ax_iadd B d_L_law_834 ?_
  refine ax_sld B hX had d_L_law_835 hf (fun x4 hf => ?_)
  refine ax_aload_n B d_L_law_836 rfl (j := 0) rfl ?_
  refine ax_iload_n B d_L_law_837 rfl (j := 3) rfl ?_
  refine ax_iconst B (v := 5) (by decide) d_L_law_838 ?_
  refine ax_iadd B d_L_law_839 ?_
  refine ax_sld B hX had d_L_law_840 hf (fun x5 hf => ?_)
  refine ax_cVA B hR (as := [ax_I x1, ax_I x2, ax_I x3, ax_I x4, ax_I x5]) (V := fun q => ax_I q.1) (N := fun q => q.2) d_L_law_841 l_L_96 m_V_auction (ax_cvr (by simp) (ax_cvr (by simp) (ax_cvr (by simp) (ax_cvi ax_cv0)))) ax_cv0 hf (fun q h => c_V_auction _ _ _ _ _ _ _ _ _ _ h) rfl rfl (by decide) (by decide) hc hs (Nat.le_of_ble_eq_true rfl) (fun q6 ad2 hag hf => ?_)
  replace had := (hag 9999 (by simp; omega)).trans had
  refine ax_aload_n B d_L_law_844 rfl (j := 2) rfl ?_
  refine ax_aload_n B d_L_law_845 rfl (j := 0) rfl ?_
  refine ax_iload_n B d_L_law_846 rfl (j := 3) rfl ?_
  refine ax_iconst B (v := 1) (by decide) d_L_law_847 ?_
  refine ax_iadd B d_L_law_848 ?_
  refine ax_sld B hX had d_L_law_849 hf (fun x7 hf => ?_)
  refine ax_aload_n B d_L_law_850 rfl (j := 0) rfl ?_
  refine ax_iload_n B d_L_law_851 rfl (j := 3) rfl ?_
  refine ax_iconst B (v := 2) (by decide) d_L_law_852 ?_
  refine ax_iadd B d_L_law_853 ?_
  refine ax_sld B hX had d_L_law_854 hf (fun x8 hf => ?_)
  refine ax_aload_n B d_L_law_855 rfl (j := 0) rfl ?_
  refine ax_iload_n B d_L_law_856 rfl (j := 3) rfl ?_
  refine ax_iconst B (v := 3) (by decide) d_L_law_857 ?_
  refine ax_iadd B d_L_law_858 ?_
  refine ax_sld B hX had d_L_law_859 hf (fun x9 hf => ?_)
  refine ax_aload_n B d_L_law_860 rfl (j := 0) rfl ?_
  refine ax_iload_n B d_L_law_861 rfl (j := 3) rfl ?_
  refine ax_iconst B (v := 4) (by decide) d_L_law_862 ?_
  refine ax_iadd B d_L_law_863 ?_
  refine ax_sld B hX had d_L_law_864 hf (fun x10 hf => ?_)
  refine ax_aload_n B d_L_law_865 rfl (j := 0) rfl ?_
  refine ax_iload_n B d_L_law_866 rfl (j := 3) rfl ?_
  refine ax_iconst B (v := 5) (by decide) d_L_law_867 ?_
  refine ax_iadd B d_L_law_868 ?_
  refine ax_sld B hX had d_L_law_869 hf (fun x11 hf => ?_)
  refine ax_cVV B hR (as := [ax_I x7, ax_I x8, ax_I x9, ax_I x10, ax_I x11]) (V := fun q => ax_I q.1) (N := fun q => q.2) d_L_law_870 l_L_99 m_M_auction hf (fun q h => c_M_auction _ _ _ _ _ _ _ _ _ h) rfl rfl (by decide) (by decide) (by omega) (by omega) (Nat.le_of_ble_eq_true rfl) (fun q12 hf => ?_)
  refine ax_icmp_eq B (tgt := 1146) d_L_law_873 (by decide) hf (fun hf => ?_) (fun hf => ?_)
  · skip
    exact K_L_inc B hR hX hq hr hc hs hn had q12.2 v3 hf
  · cases hf
    exact absurd hq (show ¬ (0 : Int32) = 1 by decide)
def G_L_19 (xs : Nat → Int32) (L : Nat) (rec : ax_M → Int32 → Option (Int32 × ax_M)) (M : ax_M) (v3 : Int32) : Option (Int32 × ax_M) := (ax_sr xs L (v3 + 1)).bind (fun x1 => (ax_sr xs L (v3 + 2)).bind (fun x2 => (ax_sr xs L (v3 + 3)).bind (fun x3 => (ax_sr xs L (v3 + 4)).bind (fun x4 => (ax_ob M 0 (some 0)).bind (fun _ => (f_V_bid M (some 0) x1 x2 x3 x4).bind (fun q5 => (ax_sr xs L (v3 + 1)).bind (fun x6 => (ax_sr xs L (v3 + 2)).bind (fun x7 => (ax_sr xs L (v3 + 3)).bind (fun x8 => (ax_sr xs L (v3 + 4)).bind (fun x9 => (ax_ob q5.2 3 (some 100)).bind (fun _ => (f_M_bid q5.2 (some 100) x6 x7 x8 x9).bind (fun q10 => if q5.1 = q10.1 then G_L_inc rec q10.2 v3 else some (0, q10.2)))))))))))))
set_option maxRecDepth 100000 in
set_option maxHeartbeats 4000000 in
theorem K_L_19 {Z : ax_Z} {ad : Nat → Nat} {c s b L : Nat} {xs : Nat → Int32} {q : Int32 × ax_M} (B : ax_B Z "VoteAuctionsLaw" code ret) (hR : ax_R Z 9 600000 7302250) (hX : ax_scr Z b L xs) (hq : q.1 = 1) {rec : ax_M → Int32 → Option (Int32 × ax_M)} (hr : ∀ ad' : Nat → Nat, ad' 9999 = b → ∀ (M : ax_M) (v3 : Int32), rec M v3 = some q → ax_W Z ad' (c + 6) (s + 54) 18 [(0, ax_O (some 9999)), (1, ax_O (some 0)), (2, ax_O (some 100)), (3, ax_I v3)] [] M) (hc : c + 6 ≤ 600000) (hs : s + 54 ≤ 7302250) (hn : Z.2.2.2.2.2.2.2.2.2.2.2.1 = 4) (had : ad 9999 = b) : ∀ (M : ax_M) (v3 : Int32), G_L_19 xs L rec M v3 = some q → ax_W Z ad c s 878 [(0, ax_O (some 9999)), (1, ax_O (some 0)), (2, ax_O (some 100)), (3, ax_I v3)] [] M := by
  intro M v3 hf
  unfold G_L_19 at hf
  refine ax_aload_n B d_L_law_878 rfl (j := 1) rfl ?_
  refine ax_aload_n B d_L_law_879 rfl (j := 0) rfl ?_
  refine ax_iload_n B d_L_law_880 rfl (j := 3) rfl ?_
  refine ax_iconst B (v := 1) (by decide) d_L_law_881 ?_
  refine ax_iadd B d_L_law_882 ?_
  refine ax_sld B hX had d_L_law_883 hf (fun x1 hf => ?_)
  refine ax_aload_n B d_L_law_884 rfl (j := 0) rfl ?_
  refine ax_iload_n B d_L_law_885 rfl (j := 3) rfl ?_
  refine ax_iconst B (v := 2) (by decide) d_L_law_886 ?_
  refine ax_iadd B d_L_law_887 ?_
  refine ax_sld B hX had d_L_law_888 hf (fun x2 hf => ?_)
  refine ax_aload_n B d_L_law_889 rfl (j := 0) rfl ?_
  refine ax_iload_n B d_L_law_890 rfl (j := 3) rfl ?_
  refine ax_iconst B (v := 3) (by decide) d_L_law_891 ?_
  refine ax_iadd B d_L_law_892 ?_
  refine ax_sld B hX had d_L_law_893 hf (fun x3 hf => ?_)
  refine ax_aload_n B d_L_law_894 rfl (j := 0) rfl ?_
  refine ax_iload_n B d_L_law_895 rfl (j := 3) rfl ?_
  refine ax_iconst B (v := 4) (by decide) d_L_law_896 ?_
  refine ax_iadd B d_L_law_897 ?_
  refine ax_sld B hX had d_L_law_898 hf (fun x4 hf => ?_)
  refine ax_cVV B hR (as := [ax_I x1, ax_I x2, ax_I x3, ax_I x4]) (V := fun q => ax_I q.1) (N := fun q => q.2) d_L_law_899 l_L_100 m_V_bid hf (fun q h => c_V_bid _ _ _ _ _ _ _ _ h) rfl rfl (by decide) (by decide) (by omega) (by omega) (Nat.le_of_ble_eq_true rfl) (fun q5 hf => ?_)
  refine ax_aload_n B d_L_law_902 rfl (j := 2) rfl ?_
  refine ax_aload_n B d_L_law_903 rfl (j := 0) rfl ?_
  refine ax_iload_n B d_L_law_904 rfl (j := 3) rfl ?_
  refine ax_iconst B (v := 1) (by decide) d_L_law_905 ?_
  refine ax_iadd B d_L_law_906 ?_
  refine ax_sld B hX had d_L_law_907 hf (fun x6 hf => ?_)
  refine ax_aload_n B d_L_law_908 rfl (j := 0) rfl ?_
  refine ax_iload_n B d_L_law_909 rfl (j := 3) rfl ?_
  refine ax_iconst B (v := 2) (by decide) d_L_law_910 ?_
  refine ax_iadd B d_L_law_911 ?_
  refine ax_sld B hX had d_L_law_912 hf (fun x7 hf => ?_)
  refine ax_aload_n B d_L_law_913 rfl (j := 0) rfl ?_
  refine ax_iload_n B d_L_law_914 rfl (j := 3) rfl ?_
  refine ax_iconst B (v := 3) (by decide) d_L_law_915 ?_
  refine ax_iadd B d_L_law_916 ?_
  refine ax_sld B hX had d_L_law_917 hf (fun x8 hf => ?_)
  refine ax_aload_n B d_L_law_918 rfl (j := 0) rfl ?_
  refine ax_iload_n B d_L_law_919 rfl (j := 3) rfl ?_
  refine ax_iconst B (v := 4) (by decide) d_L_law_920 ?_
  refine ax_iadd B d_L_law_921 ?_
  refine ax_sld B hX had d_L_law_922 hf (fun x9 hf => ?_)
  refine ax_cVV B hR (as := [ax_I x6, ax_I x7, ax_I x8, ax_I x9]) (V := fun q => ax_I q.1) (N := fun q => q.2) d_L_law_923 l_L_103 m_M_bid hf (fun q h => c_M_bid _ _ _ _ _ _ _ _ h) rfl rfl (by decide) (by decide) (by omega) (by omega) (Nat.le_of_ble_eq_true rfl) (fun q10 hf => ?_)
  refine ax_icmp_eq B (tgt := 1146) d_L_law_926 (by decide) hf (fun hf => ?_) (fun hf => ?_)
  · refine ax_widen (Nat.le_add_right _ 6) (Nat.le_add_right _ 54) ?_
    exact K_L_inc B hR hX hq hr hc hs hn had q10.2 v3 hf
  · cases hf
    exact absurd hq (show ¬ (0 : Int32) = 1 by decide)
def G_L_20 (xs : Nat → Int32) (L : Nat) (rec : ax_M → Int32 → Option (Int32 × ax_M)) (M : ax_M) (v3 : Int32) : Option (Int32 × ax_M) := (ax_sr xs L (v3 + 1)).bind (fun x1 => (ax_sr xs L (v3 + 2)).bind (fun x2 => (ax_sr xs L (v3 + 3)).bind (fun x3 => (ax_sr xs L (v3 + 4)).bind (fun x4 => (ax_ob M 0 (some 0)).bind (fun _ => (f_V_seal M (some 0) x1 x2 (((x3.toInt64) <<< ((32 : Int32).toInt64 &&& 63)) ||| ((x4.toInt64) &&& 4294967295))).bind (fun q5 => (ax_sr xs L (v3 + 1)).bind (fun x6 => (ax_sr xs L (v3 + 2)).bind (fun x7 => (ax_sr xs L (v3 + 3)).bind (fun x8 => (ax_sr xs L (v3 + 4)).bind (fun x9 => (ax_ob q5.2 3 (some 100)).bind (fun _ => (f_M_seal q5.2 (some 100) x6 x7 (((x8.toInt64) <<< ((32 : Int32).toInt64 &&& 63)) ||| ((x9.toInt64) &&& 4294967295))).bind (fun q10 => if q5.1 = q10.1 then G_L_inc rec q10.2 v3 else some (0, q10.2)))))))))))))
set_option maxRecDepth 100000 in
set_option maxHeartbeats 4000000 in
theorem K_L_20 {Z : ax_Z} {ad : Nat → Nat} {c s b L : Nat} {xs : Nat → Int32} {q : Int32 × ax_M} (B : ax_B Z "VoteAuctionsLaw" code ret) (hR : ax_R Z 9 600000 7302250) (hX : ax_scr Z b L xs) (hq : q.1 = 1) {rec : ax_M → Int32 → Option (Int32 × ax_M)} (hr : ∀ ad' : Nat → Nat, ad' 9999 = b → ∀ (M : ax_M) (v3 : Int32), rec M v3 = some q → ax_W Z ad' (c + 6) (s + 54) 18 [(0, ax_O (some 9999)), (1, ax_O (some 0)), (2, ax_O (some 100)), (3, ax_I v3)] [] M) (hc : c + 6 ≤ 600000) (hs : s + 54 ≤ 7302250) (hn : Z.2.2.2.2.2.2.2.2.2.2.2.1 = 4) (had : ad 9999 = b) : ∀ (M : ax_M) (v3 : Int32), G_L_20 xs L rec M v3 = some q → ax_W Z ad c s 931 [(0, ax_O (some 9999)), (1, ax_O (some 0)), (2, ax_O (some 100)), (3, ax_I v3)] [] M := by
  intro M v3 hf
  unfold G_L_20 at hf
  refine ax_aload_n B d_L_law_931 rfl (j := 1) rfl ?_
  refine ax_aload_n B d_L_law_932 rfl (j := 0) rfl ?_
  refine ax_iload_n B d_L_law_933 rfl (j := 3) rfl ?_
  refine ax_iconst B (v := 1) (by decide) d_L_law_934 ?_
  refine ax_iadd B d_L_law_935 ?_
  refine ax_sld B hX had d_L_law_936 hf (fun x1 hf => ?_)
  refine ax_aload_n B d_L_law_937 rfl (j := 0) rfl ?_
  refine ax_iload_n B d_L_law_938 rfl (j := 3) rfl ?_
  refine ax_iconst B (v := 2) (by decide) d_L_law_939 ?_
  refine ax_iadd B d_L_law_940 ?_
  refine ax_sld B hX had d_L_law_941 hf (fun x2 hf => ?_)
  refine ax_aload_n B d_L_law_942 rfl (j := 0) rfl ?_
  refine ax_iload_n B d_L_law_943 rfl (j := 3) rfl ?_
  refine ax_iconst B (v := 3) (by decide) d_L_law_944 ?_
  refine ax_iadd B d_L_law_945 ?_
  refine ax_sld B hX had d_L_law_946 hf (fun x3 hf => ?_)
  refine ax_i2l B d_L_law_947 ?_
  refine ax_bipush B (v := 32) (by decide) d_L_law_948 ?_
  refine ax_lshl B d_L_law_950 ?_
  refine ax_aload_n B d_L_law_951 rfl (j := 0) rfl ?_
  refine ax_iload_n B d_L_law_952 rfl (j := 3) rfl ?_
  refine ax_iconst B (v := 4) (by decide) d_L_law_953 ?_
  refine ax_iadd B d_L_law_954 ?_
  refine ax_sld B hX had d_L_law_955 hf (fun x4 hf => ?_)
  refine ax_i2l B d_L_law_956 ?_
  refine ax_ldc2 B (v := 4294967295) n_L_65 d_L_law_957 ?_
  refine ax_land B d_L_law_960 ?_
  refine ax_lor B d_L_law_961 ?_
  refine ax_cVV B hR (as := [ax_I x1, ax_I x2, ax_L (((x3.toInt64) <<< ((32 : Int32).toInt64 &&& 63)) ||| ((x4.toInt64) &&& 4294967295))]) (V := fun q => ax_I q.1) (N := fun q => q.2) d_L_law_962 l_L_104 m_V_seal hf (fun q h => c_V_seal _ _ _ _ _ _ _ h) rfl rfl (by decide) (by decide) (by omega) (by omega) (Nat.le_of_ble_eq_true rfl) (fun q5 hf => ?_)
  refine ax_aload_n B d_L_law_965 rfl (j := 2) rfl ?_
  refine ax_aload_n B d_L_law_966 rfl (j := 0) rfl ?_
  refine ax_iload_n B d_L_law_967 rfl (j := 3) rfl ?_
  refine ax_iconst B (v := 1) (by decide) d_L_law_968 ?_
  refine ax_iadd B d_L_law_969 ?_
  refine ax_sld B hX had d_L_law_970 hf (fun x6 hf => ?_)
  refine ax_aload_n B d_L_law_971 rfl (j := 0) rfl ?_
  refine ax_iload_n B d_L_law_972 rfl (j := 3) rfl ?_
  refine ax_iconst B (v := 2) (by decide) d_L_law_973 ?_
  refine ax_iadd B d_L_law_974 ?_
  refine ax_sld B hX had d_L_law_975 hf (fun x7 hf => ?_)
  refine ax_aload_n B d_L_law_976 rfl (j := 0) rfl ?_
  refine ax_iload_n B d_L_law_977 rfl (j := 3) rfl ?_
  refine ax_iconst B (v := 3) (by decide) d_L_law_978 ?_
  refine ax_iadd B d_L_law_979 ?_
  refine ax_sld B hX had d_L_law_980 hf (fun x8 hf => ?_)
  refine ax_i2l B d_L_law_981 ?_
  refine ax_bipush B (v := 32) (by decide) d_L_law_982 ?_
  refine ax_lshl B d_L_law_984 ?_
  refine ax_aload_n B d_L_law_985 rfl (j := 0) rfl ?_
  refine ax_iload_n B d_L_law_986 rfl (j := 3) rfl ?_
  refine ax_iconst B (v := 4) (by decide) d_L_law_987 ?_
  refine ax_iadd B d_L_law_988 ?_
  refine ax_sld B hX had d_L_law_989 hf (fun x9 hf => ?_)
  refine ax_i2l B d_L_law_990 ?_
  refine ax_ldc2 B (v := 4294967295) n_L_65 d_L_law_991 ?_
  refine ax_land B d_L_law_994 ?_
  refine ax_lor B d_L_law_995 ?_
  refine ax_cVV B hR (as := [ax_I x6, ax_I x7, ax_L (((x8.toInt64) <<< ((32 : Int32).toInt64 &&& 63)) ||| ((x9.toInt64) &&& 4294967295))]) (V := fun q => ax_I q.1) (N := fun q => q.2) d_L_law_996 l_L_107 m_M_seal hf (fun q h => c_M_seal _ _ _ _ _ _ _ h) rfl rfl (by decide) (by decide) (by omega) (by omega) (Nat.le_of_ble_eq_true rfl) (fun q10 hf => ?_)
  refine ax_icmp_eq B (tgt := 1146) d_L_law_999 (by decide) hf (fun hf => ?_) (fun hf => ?_)
  · refine ax_widen (Nat.le_add_right _ 6) (Nat.le_add_right _ 54) ?_
    exact K_L_inc B hR hX hq hr hc hs hn had q10.2 v3 hf
  · cases hf
    exact absurd hq (show ¬ (0 : Int32) = 1 by decide)
def G_L_21 (xs : Nat → Int32) (L : Nat) (rec : ax_M → Int32 → Option (Int32 × ax_M)) (M : ax_M) (v3 : Int32) : Option (Int32 × ax_M) := (ax_sr xs L (v3 + 1)).bind (fun x1 => (ax_sr xs L (v3 + 2)).bind (fun x2 => (ax_sr xs L (v3 + 3)).bind (fun x3 => (ax_sr xs L (v3 + 4)).bind (fun x4 => (ax_ob M 0 (some 0)).bind (fun _ => (f_V_unseal M (some 0) x1 x2 x3 x4).bind (fun q5 => (ax_sr xs L (v3 + 1)).bind (fun x6 => (ax_sr xs L (v3 + 2)).bind (fun x7 => (ax_sr xs L (v3 + 3)).bind (fun x8 => (ax_sr xs L (v3 + 4)).bind (fun x9 => (ax_ob q5.2 3 (some 100)).bind (fun _ => (f_M_unseal q5.2 (some 100) x6 x7 x8 x9).bind (fun q10 => if q5.1 = q10.1 then G_L_inc rec q10.2 v3 else some (0, q10.2)))))))))))))
set_option maxRecDepth 100000 in
set_option maxHeartbeats 4000000 in
theorem K_L_21 {Z : ax_Z} {ad : Nat → Nat} {c s b L : Nat} {xs : Nat → Int32} {q : Int32 × ax_M} (B : ax_B Z "VoteAuctionsLaw" code ret) (hR : ax_R Z 9 600000 7302250) (hX : ax_scr Z b L xs) (hq : q.1 = 1) {rec : ax_M → Int32 → Option (Int32 × ax_M)} (hr : ∀ ad' : Nat → Nat, ad' 9999 = b → ∀ (M : ax_M) (v3 : Int32), rec M v3 = some q → ax_W Z ad' (c + 6) (s + 54) 18 [(0, ax_O (some 9999)), (1, ax_O (some 0)), (2, ax_O (some 100)), (3, ax_I v3)] [] M) (hc : c + 6 ≤ 600000) (hs : s + 54 ≤ 7302250) (hn : Z.2.2.2.2.2.2.2.2.2.2.2.1 = 4) (had : ad 9999 = b) : ∀ (M : ax_M) (v3 : Int32), G_L_21 xs L rec M v3 = some q → ax_W Z ad c s 1004 [(0, ax_O (some 9999)), (1, ax_O (some 0)), (2, ax_O (some 100)), (3, ax_I v3)] [] M := by
  intro M v3 hf
  unfold G_L_21 at hf
  refine ax_aload_n B d_L_law_1004 rfl (j := 1) rfl ?_
  refine ax_aload_n B d_L_law_1005 rfl (j := 0) rfl ?_
  refine ax_iload_n B d_L_law_1006 rfl (j := 3) rfl ?_
  refine ax_iconst B (v := 1) (by decide) d_L_law_1007 ?_
  refine ax_iadd B d_L_law_1008 ?_
  refine ax_sld B hX had d_L_law_1009 hf (fun x1 hf => ?_)
  refine ax_aload_n B d_L_law_1010 rfl (j := 0) rfl ?_
  refine ax_iload_n B d_L_law_1011 rfl (j := 3) rfl ?_
  refine ax_iconst B (v := 2) (by decide) d_L_law_1012 ?_
  refine ax_iadd B d_L_law_1013 ?_
  refine ax_sld B hX had d_L_law_1014 hf (fun x2 hf => ?_)
  refine ax_aload_n B d_L_law_1015 rfl (j := 0) rfl ?_
  refine ax_iload_n B d_L_law_1016 rfl (j := 3) rfl ?_
  refine ax_iconst B (v := 3) (by decide) d_L_law_1017 ?_
  refine ax_iadd B d_L_law_1018 ?_
  refine ax_sld B hX had d_L_law_1019 hf (fun x3 hf => ?_)
  refine ax_aload_n B d_L_law_1020 rfl (j := 0) rfl ?_
  refine ax_iload_n B d_L_law_1021 rfl (j := 3) rfl ?_
  refine ax_iconst B (v := 4) (by decide) d_L_law_1022 ?_
  refine ax_iadd B d_L_law_1023 ?_
  refine ax_sld B hX had d_L_law_1024 hf (fun x4 hf => ?_)
  refine ax_cVV B hR (as := [ax_I x1, ax_I x2, ax_I x3, ax_I x4]) (V := fun q => ax_I q.1) (N := fun q => q.2) d_L_law_1025 l_L_108 m_V_unseal hf (fun q h => c_V_unseal _ _ _ _ _ _ _ _ h) rfl rfl (by decide) (by decide) (by omega) (by omega) (Nat.le_of_ble_eq_true rfl) (fun q5 hf => ?_)
  refine ax_aload_n B d_L_law_1028 rfl (j := 2) rfl ?_
  refine ax_aload_n B d_L_law_1029 rfl (j := 0) rfl ?_
  refine ax_iload_n B d_L_law_1030 rfl (j := 3) rfl ?_
  refine ax_iconst B (v := 1) (by decide) d_L_law_1031 ?_
  refine ax_iadd B d_L_law_1032 ?_
  refine ax_sld B hX had d_L_law_1033 hf (fun x6 hf => ?_)
  refine ax_aload_n B d_L_law_1034 rfl (j := 0) rfl ?_
  refine ax_iload_n B d_L_law_1035 rfl (j := 3) rfl ?_
  refine ax_iconst B (v := 2) (by decide) d_L_law_1036 ?_
  refine ax_iadd B d_L_law_1037 ?_
  refine ax_sld B hX had d_L_law_1038 hf (fun x7 hf => ?_)
  refine ax_aload_n B d_L_law_1039 rfl (j := 0) rfl ?_
  refine ax_iload_n B d_L_law_1040 rfl (j := 3) rfl ?_
  refine ax_iconst B (v := 3) (by decide) d_L_law_1041 ?_
  refine ax_iadd B d_L_law_1042 ?_
  refine ax_sld B hX had d_L_law_1043 hf (fun x8 hf => ?_)
  refine ax_aload_n B d_L_law_1044 rfl (j := 0) rfl ?_
  refine ax_iload_n B d_L_law_1045 rfl (j := 3) rfl ?_
  refine ax_iconst B (v := 4) (by decide) d_L_law_1046 ?_
  refine ax_iadd B d_L_law_1047 ?_
  refine ax_sld B hX had d_L_law_1048 hf (fun x9 hf => ?_)
  refine ax_cVV B hR (as := [ax_I x6, ax_I x7, ax_I x8, ax_I x9]) (V := fun q => ax_I q.1) (N := fun q => q.2) d_L_law_1049 l_L_111 m_M_unseal hf (fun q h => c_M_unseal _ _ _ _ _ _ _ _ h) rfl rfl (by decide) (by decide) (by omega) (by omega) (Nat.le_of_ble_eq_true rfl) (fun q10 hf => ?_)
  refine ax_icmp_eq B (tgt := 1146) d_L_law_1052 (by decide) hf (fun hf => ?_) (fun hf => ?_)
  · refine ax_widen (Nat.le_add_right _ 6) (Nat.le_add_right _ 54) ?_
    exact K_L_inc B hR hX hq hr hc hs hn had q10.2 v3 hf
  · cases hf
    exact absurd hq (show ¬ (0 : Int32) = 1 by decide)
def G_L_22 (xs : Nat → Int32) (L : Nat) (rec : ax_M → Int32 → Option (Int32 × ax_M)) (M : ax_M) (v3 : Int32) : Option (Int32 × ax_M) := (ax_sr xs L (v3 + 1)).bind (fun x1 => (ax_sr xs L (v3 + 2)).bind (fun x2 => (ax_ob M 0 (some 0)).bind (fun _ => (f_V_take M (some 0) x1 x2).bind (fun q3 => (ax_sr xs L (v3 + 1)).bind (fun x4 => (ax_sr xs L (v3 + 2)).bind (fun x5 => (ax_ob q3.2 3 (some 100)).bind (fun _ => (f_M_take q3.2 (some 100) x4 x5).bind (fun q6 => if q3.1 = q6.1 then G_L_inc rec q6.2 v3 else some (0, q6.2)))))))))
set_option maxRecDepth 100000 in
set_option maxHeartbeats 4000000 in
theorem K_L_22 {Z : ax_Z} {ad : Nat → Nat} {c s b L : Nat} {xs : Nat → Int32} {q : Int32 × ax_M} (B : ax_B Z "VoteAuctionsLaw" code ret) (hR : ax_R Z 9 600000 7302250) (hX : ax_scr Z b L xs) (hq : q.1 = 1) {rec : ax_M → Int32 → Option (Int32 × ax_M)} (hr : ∀ ad' : Nat → Nat, ad' 9999 = b → ∀ (M : ax_M) (v3 : Int32), rec M v3 = some q → ax_W Z ad' (c + 6) (s + 54) 18 [(0, ax_O (some 9999)), (1, ax_O (some 0)), (2, ax_O (some 100)), (3, ax_I v3)] [] M) (hc : c + 6 ≤ 600000) (hs : s + 54 ≤ 7302250) (hn : Z.2.2.2.2.2.2.2.2.2.2.2.1 = 4) (had : ad 9999 = b) : ∀ (M : ax_M) (v3 : Int32), G_L_22 xs L rec M v3 = some q → ax_W Z ad c s 1057 [(0, ax_O (some 9999)), (1, ax_O (some 0)), (2, ax_O (some 100)), (3, ax_I v3)] [] M := by
  intro M v3 hf
  unfold G_L_22 at hf
  refine ax_aload_n B d_L_law_1057 rfl (j := 1) rfl ?_
  refine ax_aload_n B d_L_law_1058 rfl (j := 0) rfl ?_
  refine ax_iload_n B d_L_law_1059 rfl (j := 3) rfl ?_
  refine ax_iconst B (v := 1) (by decide) d_L_law_1060 ?_
  refine ax_iadd B d_L_law_1061 ?_
  refine ax_sld B hX had d_L_law_1062 hf (fun x1 hf => ?_)
  refine ax_aload_n B d_L_law_1063 rfl (j := 0) rfl ?_
  refine ax_iload_n B d_L_law_1064 rfl (j := 3) rfl ?_
  refine ax_iconst B (v := 2) (by decide) d_L_law_1065 ?_
  refine ax_iadd B d_L_law_1066 ?_
  refine ax_sld B hX had d_L_law_1067 hf (fun x2 hf => ?_)
  refine ax_cVV B hR (as := [ax_I x1, ax_I x2]) (V := fun q => ax_I q.1) (N := fun q => q.2) d_L_law_1068 l_L_112 m_V_take hf (fun q h => c_V_take _ _ _ _ _ _ h) rfl rfl (by decide) (by decide) (by omega) (by omega) (Nat.le_of_ble_eq_true rfl) (fun q3 hf => ?_)
  refine ax_aload_n B d_L_law_1071 rfl (j := 2) rfl ?_
  refine ax_aload_n B d_L_law_1072 rfl (j := 0) rfl ?_
  refine ax_iload_n B d_L_law_1073 rfl (j := 3) rfl ?_
  refine ax_iconst B (v := 1) (by decide) d_L_law_1074 ?_
  refine ax_iadd B d_L_law_1075 ?_
  refine ax_sld B hX had d_L_law_1076 hf (fun x4 hf => ?_)
  refine ax_aload_n B d_L_law_1077 rfl (j := 0) rfl ?_
  refine ax_iload_n B d_L_law_1078 rfl (j := 3) rfl ?_
  refine ax_iconst B (v := 2) (by decide) d_L_law_1079 ?_
  refine ax_iadd B d_L_law_1080 ?_
  refine ax_sld B hX had d_L_law_1081 hf (fun x5 hf => ?_)
  refine ax_cVV B hR (as := [ax_I x4, ax_I x5]) (V := fun q => ax_I q.1) (N := fun q => q.2) d_L_law_1082 l_L_115 m_M_take hf (fun q h => c_M_take _ _ _ _ _ _ h) rfl rfl (by decide) (by decide) (by omega) (by omega) (Nat.le_of_ble_eq_true rfl) (fun q6 hf => ?_)
  refine ax_icmp_eq B (tgt := 1146) d_L_law_1085 (by decide) hf (fun hf => ?_) (fun hf => ?_)
  · refine ax_widen (Nat.le_add_right _ 6) (Nat.le_add_right _ 54) ?_
    exact K_L_inc B hR hX hq hr hc hs hn had q6.2 v3 hf
  · cases hf
    exact absurd hq (show ¬ (0 : Int32) = 1 by decide)
def G_L_23 (xs : Nat → Int32) (L : Nat) (rec : ax_M → Int32 → Option (Int32 × ax_M)) (M : ax_M) (v3 : Int32) : Option (Int32 × ax_M) := (ax_sr xs L (v3 + 1)).bind (fun x1 => (ax_ob M 0 (some 0)).bind (fun _ => (f_V_price M (some 0) x1).bind (fun q2 => (ax_sr xs L (v3 + 1)).bind (fun x3 => (ax_ob q2.2 3 (some 100)).bind (fun _ => (f_M_price q2.2 (some 100) x3).bind (fun q4 => if q2.1 = q4.1 then G_L_inc rec q4.2 v3 else some (0, q4.2)))))))
set_option maxRecDepth 100000 in
set_option maxHeartbeats 4000000 in
theorem K_L_23 {Z : ax_Z} {ad : Nat → Nat} {c s b L : Nat} {xs : Nat → Int32} {q : Int32 × ax_M} (B : ax_B Z "VoteAuctionsLaw" code ret) (hR : ax_R Z 9 600000 7302250) (hX : ax_scr Z b L xs) (hq : q.1 = 1) {rec : ax_M → Int32 → Option (Int32 × ax_M)} (hr : ∀ ad' : Nat → Nat, ad' 9999 = b → ∀ (M : ax_M) (v3 : Int32), rec M v3 = some q → ax_W Z ad' (c + 6) (s + 54) 18 [(0, ax_O (some 9999)), (1, ax_O (some 0)), (2, ax_O (some 100)), (3, ax_I v3)] [] M) (hc : c + 6 ≤ 600000) (hs : s + 54 ≤ 7302250) (hn : Z.2.2.2.2.2.2.2.2.2.2.2.1 = 4) (had : ad 9999 = b) : ∀ (M : ax_M) (v3 : Int32), G_L_23 xs L rec M v3 = some q → ax_W Z ad c s 1090 [(0, ax_O (some 9999)), (1, ax_O (some 0)), (2, ax_O (some 100)), (3, ax_I v3)] [] M := by
  intro M v3 hf
  unfold G_L_23 at hf
  refine ax_aload_n B d_L_law_1090 rfl (j := 1) rfl ?_
  refine ax_aload_n B d_L_law_1091 rfl (j := 0) rfl ?_
  refine ax_iload_n B d_L_law_1092 rfl (j := 3) rfl ?_
  refine ax_iconst B (v := 1) (by decide) d_L_law_1093 ?_
  refine ax_iadd B d_L_law_1094 ?_
  refine ax_sld B hX had d_L_law_1095 hf (fun x1 hf => ?_)
  refine ax_cVV B hR (as := [ax_I x1]) (V := fun q => ax_I q.1) (N := fun q => q.2) d_L_law_1096 l_L_116 m_V_price hf (fun q h => c_V_price _ _ _ _ _ h) rfl rfl (by decide) (by decide) (by omega) (by omega) (Nat.le_of_ble_eq_true rfl) (fun q2 hf => ?_)
  refine ax_aload_n B d_L_law_1099 rfl (j := 2) rfl ?_
  refine ax_aload_n B d_L_law_1100 rfl (j := 0) rfl ?_
  refine ax_iload_n B d_L_law_1101 rfl (j := 3) rfl ?_
  refine ax_iconst B (v := 1) (by decide) d_L_law_1102 ?_
  refine ax_iadd B d_L_law_1103 ?_
  refine ax_sld B hX had d_L_law_1104 hf (fun x3 hf => ?_)
  refine ax_cVV B hR (as := [ax_I x3]) (V := fun q => ax_I q.1) (N := fun q => q.2) d_L_law_1105 l_L_119 m_M_price hf (fun q h => c_M_price _ _ _ _ _ h) rfl rfl (by decide) (by decide) (by omega) (by omega) (Nat.le_of_ble_eq_true rfl) (fun q4 hf => ?_)
  refine ax_icmp_eq B (tgt := 1146) d_L_law_1108 (by decide) hf (fun hf => ?_) (fun hf => ?_)
  · refine ax_widen (Nat.le_add_right _ 6) (Nat.le_add_right _ 54) ?_
    exact K_L_inc B hR hX hq hr hc hs hn had q4.2 v3 hf
  · cases hf
    exact absurd hq (show ¬ (0 : Int32) = 1 by decide)
def G_L_24 (xs : Nat → Int32) (L : Nat) (rec : ax_M → Int32 → Option (Int32 × ax_M)) (M : ax_M) (v3 : Int32) : Option (Int32 × ax_M) := (ax_sr xs L (v3 + 1)).bind (fun x1 => (ax_sr xs L (v3 + 2)).bind (fun x2 => (ax_ob M 0 (some 0)).bind (fun _ => (f_V_won M (some 0) x1 x2).bind (fun q3 => (ax_sr xs L (v3 + 1)).bind (fun x4 => (ax_sr xs L (v3 + 2)).bind (fun x5 => (ax_ob q3.2 3 (some 100)).bind (fun _ => (f_M_won q3.2 (some 100) x4 x5).bind (fun q6 => if q3.1 = q6.1 then G_L_inc rec q6.2 v3 else some (0, q6.2)))))))))
set_option maxRecDepth 100000 in
set_option maxHeartbeats 4000000 in
theorem K_L_24 {Z : ax_Z} {ad : Nat → Nat} {c s b L : Nat} {xs : Nat → Int32} {q : Int32 × ax_M} (B : ax_B Z "VoteAuctionsLaw" code ret) (hR : ax_R Z 9 600000 7302250) (hX : ax_scr Z b L xs) (hq : q.1 = 1) {rec : ax_M → Int32 → Option (Int32 × ax_M)} (hr : ∀ ad' : Nat → Nat, ad' 9999 = b → ∀ (M : ax_M) (v3 : Int32), rec M v3 = some q → ax_W Z ad' (c + 6) (s + 54) 18 [(0, ax_O (some 9999)), (1, ax_O (some 0)), (2, ax_O (some 100)), (3, ax_I v3)] [] M) (hc : c + 6 ≤ 600000) (hs : s + 54 ≤ 7302250) (hn : Z.2.2.2.2.2.2.2.2.2.2.2.1 = 4) (had : ad 9999 = b) : ∀ (M : ax_M) (v3 : Int32), G_L_24 xs L rec M v3 = some q → ax_W Z ad c s 1113 [(0, ax_O (some 9999)), (1, ax_O (some 0)), (2, ax_O (some 100)), (3, ax_I v3)] [] M := by
  intro M v3 hf
  unfold G_L_24 at hf
  refine ax_aload_n B d_L_law_1113 rfl (j := 1) rfl ?_
  refine ax_aload_n B d_L_law_1114 rfl (j := 0) rfl ?_
  refine ax_iload_n B d_L_law_1115 rfl (j := 3) rfl ?_
  refine ax_iconst B (v := 1) (by decide) d_L_law_1116 ?_
  refine ax_iadd B d_L_law_1117 ?_
  refine ax_sld B hX had d_L_law_1118 hf (fun x1 hf => ?_)
  refine ax_aload_n B d_L_law_1119 rfl (j := 0) rfl ?_
  refine ax_iload_n B d_L_law_1120 rfl (j := 3) rfl ?_
  refine ax_iconst B (v := 2) (by decide) d_L_law_1121 ?_
  refine ax_iadd B d_L_law_1122 ?_
  refine ax_sld B hX had d_L_law_1123 hf (fun x2 hf => ?_)
  refine ax_cVV B hR (as := [ax_I x1, ax_I x2]) (V := fun q => ax_I q.1) (N := fun q => q.2) d_L_law_1124 l_L_120 m_V_won hf (fun q h => c_V_won _ _ _ _ _ _ h) rfl rfl (by decide) (by decide) (by omega) (by omega) (Nat.le_of_ble_eq_true rfl) (fun q3 hf => ?_)
  refine ax_aload_n B d_L_law_1127 rfl (j := 2) rfl ?_
  refine ax_aload_n B d_L_law_1128 rfl (j := 0) rfl ?_
  refine ax_iload_n B d_L_law_1129 rfl (j := 3) rfl ?_
  refine ax_iconst B (v := 1) (by decide) d_L_law_1130 ?_
  refine ax_iadd B d_L_law_1131 ?_
  refine ax_sld B hX had d_L_law_1132 hf (fun x4 hf => ?_)
  refine ax_aload_n B d_L_law_1133 rfl (j := 0) rfl ?_
  refine ax_iload_n B d_L_law_1134 rfl (j := 3) rfl ?_
  refine ax_iconst B (v := 2) (by decide) d_L_law_1135 ?_
  refine ax_iadd B d_L_law_1136 ?_
  refine ax_sld B hX had d_L_law_1137 hf (fun x5 hf => ?_)
  refine ax_cVV B hR (as := [ax_I x4, ax_I x5]) (V := fun q => ax_I q.1) (N := fun q => q.2) d_L_law_1138 l_L_123 m_M_won hf (fun q h => c_M_won _ _ _ _ _ _ h) rfl rfl (by decide) (by decide) (by omega) (by omega) (Nat.le_of_ble_eq_true rfl) (fun q6 hf => ?_)
  refine ax_icmp_eq B (tgt := 1146) d_L_law_1141 (by decide) hf (fun hf => ?_) (fun hf => ?_)
  · refine ax_widen (Nat.le_add_right _ 6) (Nat.le_add_right _ 54) ?_
    exact K_L_inc B hR hX hq hr hc hs hn had q6.2 v3 hf
  · cases hf
    exact absurd hq (show ¬ (0 : Int32) = 1 by decide)
def G_L_head (xs : Nat → Int32) (L : Nat) (rec : ax_M → Int32 → Option (Int32 × ax_M)) (M : ax_M) (v3 : Int32) : Option (Int32 × ax_M) := if (Int32.ofNat L - 6) < v3 then some (1, M) else (ax_sr xs L v3).bind (fun x => (some (x &&& 31)).bind (fun y => if y = 0 then G_L_0 xs L rec M v3 else if y = 1 then G_L_1 xs L rec M v3 else if y = 2 then G_L_2 xs L rec M v3 else if y = 3 then G_L_3 xs L rec M v3 else if y = 4 then G_L_4 xs L rec M v3 else if y = 5 then G_L_5 xs L rec M v3 else if y = 6 then G_L_6 xs L rec M v3 else if y = 7 then G_L_7 xs L rec M v3 else if y = 8 then G_L_8 xs L rec M v3 else if y = 9 then G_L_9 xs L rec M v3 else if y = 10 then G_L_10 xs L rec M v3 else if y = 11 then G_L_11 xs L rec M v3 else if y = 12 then G_L_12 xs L rec M v3 else if y = 13 then G_L_13 xs L rec M v3 else if y = 14 then G_L_14 xs L rec M v3 else if y = 15 then G_L_15 xs L rec M v3 else if y = 16 then G_L_16 xs L rec M v3 else if y = 17 then G_L_17 xs L rec M v3 else if y = 18 then G_L_18 xs L rec M v3 else if y = 19 then G_L_19 xs L rec M v3 else if y = 20 then G_L_20 xs L rec M v3 else if y = 21 then G_L_21 xs L rec M v3 else if y = 22 then G_L_22 xs L rec M v3 else if y = 23 then G_L_23 xs L rec M v3 else if y = 24 then G_L_24 xs L rec M v3 else G_L_inc rec M v3))
set_option maxRecDepth 100000 in
set_option maxHeartbeats 4000000 in
theorem K_L_head {Z : ax_Z} {ad : Nat → Nat} {c s b L : Nat} {xs : Nat → Int32} {q : Int32 × ax_M} (B : ax_B Z "VoteAuctionsLaw" code ret) (hR : ax_R Z 9 600000 7302250) (hX : ax_scr Z b L xs) (hq : q.1 = 1) {rec : ax_M → Int32 → Option (Int32 × ax_M)} (hr : ∀ ad' : Nat → Nat, ad' 9999 = b → ∀ (M : ax_M) (v3 : Int32), rec M v3 = some q → ax_W Z ad' (c + 6) (s + 54) 18 [(0, ax_O (some 9999)), (1, ax_O (some 0)), (2, ax_O (some 100)), (3, ax_I v3)] [] M) (hc : c + 6 ≤ 600000) (hs : s + 54 ≤ 7302250) (hn : Z.2.2.2.2.2.2.2.2.2.2.2.1 = 4) (hQ : ∀ (ad' : Nat → Nat) (M : ax_M) (lv : List (Nat × ax_U)), ax_W Z ad' c s 1153 lv [ax_I 1] M) (had : ad 9999 = b) : ∀ (M : ax_M) (v3 : Int32), G_L_head xs L rec M v3 = some q → ax_W Z ad c s 18 [(0, ax_O (some 9999)), (1, ax_O (some 0)), (2, ax_O (some 100)), (3, ax_I v3)] [] M := by
  intro M v3 hf
  unfold G_L_head at hf
  refine ax_iload_n B d_L_law_18 rfl (j := 3) rfl ?_
  refine ax_aload_n B d_L_law_19 rfl (j := 0) rfl ?_
  refine ax_slen B hX had d_L_law_20 ?_
  refine ax_bipush B (v := 6) (by decide) d_L_law_21 ?_
  refine ax_isub B d_L_law_23 ?_
  refine ax_icmp_gt B (tgt := 1152) d_L_law_24 (by decide) hf (fun hf => ?_) (fun hf => ?_)
  · refine ax_iconst B (v := 1) (by decide) d_L_law_1152 ?_
    exact hQ ad M _
  · refine ax_aload_n B d_L_law_27 rfl (j := 0) rfl ?_
    refine ax_iload_n B d_L_law_28 rfl (j := 3) rfl ?_
    refine ax_sld B hX had d_L_law_29 hf (fun x hf => ?_)
    refine ax_bipush B (v := 31) (by decide) d_L_law_30 ?_
    refine ax_iand B d_L_law_32 ?_
    refine ax_nmI hf (fun y hf => ?_)
    by_cases h0 : y = 0
    · subst h0
      rw [if_pos rfl] at hf
      exact ax_tswI B (tgt := 148) d_L_law_33 (by decide) (by decide) (off := 115) rfl (by decide) (K_L_0 B hR hX hq hr hc hs hn had M v3 hf)
    by_cases h1 : y = 1
    · subst h1
      rw [if_neg (by decide)] at hf
      rw [if_pos rfl] at hf
      exact ax_tswI B (tgt := 181) d_L_law_33 (by decide) (by decide) (off := 148) rfl (by decide) (K_L_1 B hR hX hq hr hc hs hn had M v3 hf)
    by_cases h2 : y = 2
    · subst h2
      rw [if_neg (by decide)] at hf
      rw [if_neg (by decide)] at hf
      rw [if_pos rfl] at hf
      exact ax_tswI B (tgt := 214) d_L_law_33 (by decide) (by decide) (off := 181) rfl (by decide) (K_L_2 B hR hX hq hr hc hs hn had M v3 hf)
    by_cases h3 : y = 3
    · subst h3
      rw [if_neg (by decide)] at hf
      rw [if_neg (by decide)] at hf
      rw [if_neg (by decide)] at hf
      rw [if_pos rfl] at hf
      exact ax_tswI B (tgt := 247) d_L_law_33 (by decide) (by decide) (off := 214) rfl (by decide) (K_L_3 B hR hX hq hr hc hs hn had M v3 hf)
    by_cases h4 : y = 4
    · subst h4
      rw [if_neg (by decide)] at hf
      rw [if_neg (by decide)] at hf
      rw [if_neg (by decide)] at hf
      rw [if_neg (by decide)] at hf
      rw [if_pos rfl] at hf
      exact ax_tswI B (tgt := 280) d_L_law_33 (by decide) (by decide) (off := 247) rfl (by decide) (K_L_4 B hR hX hq hr hc hs hn had M v3 hf)
    by_cases h5 : y = 5
    · subst h5
      rw [if_neg (by decide)] at hf
      rw [if_neg (by decide)] at hf
      rw [if_neg (by decide)] at hf
      rw [if_neg (by decide)] at hf
      rw [if_neg (by decide)] at hf
      rw [if_pos rfl] at hf
      exact ax_tswI B (tgt := 314) d_L_law_33 (by decide) (by decide) (off := 281) rfl (by decide) (K_L_5 B hR hX hq hr hc hs hn had M v3 hf)
    by_cases h6 : y = 6
    · subst h6
      rw [if_neg (by decide)] at hf
      rw [if_neg (by decide)] at hf
      rw [if_neg (by decide)] at hf
      rw [if_neg (by decide)] at hf
      rw [if_neg (by decide)] at hf
      rw [if_neg (by decide)] at hf
      rw [if_pos rfl] at hf
      exact ax_tswI B (tgt := 328) d_L_law_33 (by decide) (by decide) (off := 295) rfl (by decide) (K_L_6 B hR hX hq hr hc hs hn had M v3 hf)
    by_cases h7 : y = 7
    · subst h7
      rw [if_neg (by decide)] at hf
      rw [if_neg (by decide)] at hf
      rw [if_neg (by decide)] at hf
      rw [if_neg (by decide)] at hf
      rw [if_neg (by decide)] at hf
      rw [if_neg (by decide)] at hf
      rw [if_neg (by decide)] at hf
      rw [if_pos rfl] at hf
      exact ax_tswI B (tgt := 351) d_L_law_33 (by decide) (by decide) (off := 318) rfl (by decide) (K_L_7 B hR hX hq hr hc hs hn had M v3 hf)
    by_cases h8 : y = 8
    · subst h8
      rw [if_neg (by decide)] at hf
      rw [if_neg (by decide)] at hf
      rw [if_neg (by decide)] at hf
      rw [if_neg (by decide)] at hf
      rw [if_neg (by decide)] at hf
      rw [if_neg (by decide)] at hf
      rw [if_neg (by decide)] at hf
      rw [if_neg (by decide)] at hf
      rw [if_pos rfl] at hf
      exact ax_tswI B (tgt := 395) d_L_law_33 (by decide) (by decide) (off := 362) rfl (by decide) (K_L_8 B hR hX hq hr hc hs hn had M v3 hf)
    by_cases h9 : y = 9
    · subst h9
      rw [if_neg (by decide)] at hf
      rw [if_neg (by decide)] at hf
      rw [if_neg (by decide)] at hf
      rw [if_neg (by decide)] at hf
      rw [if_neg (by decide)] at hf
      rw [if_neg (by decide)] at hf
      rw [if_neg (by decide)] at hf
      rw [if_neg (by decide)] at hf
      rw [if_neg (by decide)] at hf
      rw [if_pos rfl] at hf
      exact ax_tswI B (tgt := 458) d_L_law_33 (by decide) (by decide) (off := 425) rfl (by decide) (K_L_9 B hR hX hq hr hc hs hn had M v3 hf)
    by_cases h10 : y = 10
    · subst h10
      rw [if_neg (by decide)] at hf
      rw [if_neg (by decide)] at hf
      rw [if_neg (by decide)] at hf
      rw [if_neg (by decide)] at hf
      rw [if_neg (by decide)] at hf
      rw [if_neg (by decide)] at hf
      rw [if_neg (by decide)] at hf
      rw [if_neg (by decide)] at hf
      rw [if_neg (by decide)] at hf
      rw [if_neg (by decide)] at hf
      rw [if_pos rfl] at hf
      exact ax_tswI B (tgt := 511) d_L_law_33 (by decide) (by decide) (off := 478) rfl (by decide) (K_L_10 B hR hX hq hr hc hs hn had M v3 hf)
    by_cases h11 : y = 11
    · subst h11
      rw [if_neg (by decide)] at hf
      rw [if_neg (by decide)] at hf
      rw [if_neg (by decide)] at hf
      rw [if_neg (by decide)] at hf
      rw [if_neg (by decide)] at hf
      rw [if_neg (by decide)] at hf
      rw [if_neg (by decide)] at hf
      rw [if_neg (by decide)] at hf
      rw [if_neg (by decide)] at hf
      rw [if_neg (by decide)] at hf
      rw [if_neg (by decide)] at hf
      rw [if_pos rfl] at hf
      exact ax_tswI B (tgt := 554) d_L_law_33 (by decide) (by decide) (off := 521) rfl (by decide) (K_L_11 B hR hX hq hr hc hs hn had M v3 hf)
    by_cases h12 : y = 12
    · subst h12
      rw [if_neg (by decide)] at hf
      rw [if_neg (by decide)] at hf
      rw [if_neg (by decide)] at hf
      rw [if_neg (by decide)] at hf
      rw [if_neg (by decide)] at hf
      rw [if_neg (by decide)] at hf
      rw [if_neg (by decide)] at hf
      rw [if_neg (by decide)] at hf
      rw [if_neg (by decide)] at hf
      rw [if_neg (by decide)] at hf
      rw [if_neg (by decide)] at hf
      rw [if_neg (by decide)] at hf
      rw [if_pos rfl] at hf
      exact ax_tswI B (tgt := 627) d_L_law_33 (by decide) (by decide) (off := 594) rfl (by decide) (K_L_12 B hR hX hq hr hc hs hn had M v3 hf)
    by_cases h13 : y = 13
    · subst h13
      rw [if_neg (by decide)] at hf
      rw [if_neg (by decide)] at hf
      rw [if_neg (by decide)] at hf
      rw [if_neg (by decide)] at hf
      rw [if_neg (by decide)] at hf
      rw [if_neg (by decide)] at hf
      rw [if_neg (by decide)] at hf
      rw [if_neg (by decide)] at hf
      rw [if_neg (by decide)] at hf
      rw [if_neg (by decide)] at hf
      rw [if_neg (by decide)] at hf
      rw [if_neg (by decide)] at hf
      rw [if_neg (by decide)] at hf
      rw [if_pos rfl] at hf
      exact ax_tswI B (tgt := 680) d_L_law_33 (by decide) (by decide) (off := 647) rfl (by decide) (K_L_13 B hR hX hq hr hc hs hn had M v3 hf)
    by_cases h14 : y = 14
    · subst h14
      rw [if_neg (by decide)] at hf
      rw [if_neg (by decide)] at hf
      rw [if_neg (by decide)] at hf
      rw [if_neg (by decide)] at hf
      rw [if_neg (by decide)] at hf
      rw [if_neg (by decide)] at hf
      rw [if_neg (by decide)] at hf
      rw [if_neg (by decide)] at hf
      rw [if_neg (by decide)] at hf
      rw [if_neg (by decide)] at hf
      rw [if_neg (by decide)] at hf
      rw [if_neg (by decide)] at hf
      rw [if_neg (by decide)] at hf
      rw [if_neg (by decide)] at hf
      rw [if_pos rfl] at hf
      exact ax_tswI B (tgt := 713) d_L_law_33 (by decide) (by decide) (off := 680) rfl (by decide) (K_L_14 B hR hX hq hr hc hs hn had M v3 hf)
    by_cases h15 : y = 15
    · subst h15
      rw [if_neg (by decide)] at hf
      rw [if_neg (by decide)] at hf
      rw [if_neg (by decide)] at hf
      rw [if_neg (by decide)] at hf
      rw [if_neg (by decide)] at hf
      rw [if_neg (by decide)] at hf
      rw [if_neg (by decide)] at hf
      rw [if_neg (by decide)] at hf
      rw [if_neg (by decide)] at hf
      rw [if_neg (by decide)] at hf
      rw [if_neg (by decide)] at hf
      rw [if_neg (by decide)] at hf
      rw [if_neg (by decide)] at hf
      rw [if_neg (by decide)] at hf
      rw [if_neg (by decide)] at hf
      rw [if_pos rfl] at hf
      exact ax_tswI B (tgt := 746) d_L_law_33 (by decide) (by decide) (off := 713) rfl (by decide) (K_L_15 B hR hX hq hr hc hs hn had M v3 hf)
    by_cases h16 : y = 16
    · subst h16
      rw [if_neg (by decide)] at hf
      rw [if_neg (by decide)] at hf
      rw [if_neg (by decide)] at hf
      rw [if_neg (by decide)] at hf
      rw [if_neg (by decide)] at hf
      rw [if_neg (by decide)] at hf
      rw [if_neg (by decide)] at hf
      rw [if_neg (by decide)] at hf
      rw [if_neg (by decide)] at hf
      rw [if_neg (by decide)] at hf
      rw [if_neg (by decide)] at hf
      rw [if_neg (by decide)] at hf
      rw [if_neg (by decide)] at hf
      rw [if_neg (by decide)] at hf
      rw [if_neg (by decide)] at hf
      rw [if_neg (by decide)] at hf
      rw [if_pos rfl] at hf
      exact ax_tswI B (tgt := 769) d_L_law_33 (by decide) (by decide) (off := 736) rfl (by decide) (K_L_16 B hR hX hq hr hc hs hn had M v3 hf)
    by_cases h17 : y = 17
    · subst h17
      rw [if_neg (by decide)] at hf
      rw [if_neg (by decide)] at hf
      rw [if_neg (by decide)] at hf
      rw [if_neg (by decide)] at hf
      rw [if_neg (by decide)] at hf
      rw [if_neg (by decide)] at hf
      rw [if_neg (by decide)] at hf
      rw [if_neg (by decide)] at hf
      rw [if_neg (by decide)] at hf
      rw [if_neg (by decide)] at hf
      rw [if_neg (by decide)] at hf
      rw [if_neg (by decide)] at hf
      rw [if_neg (by decide)] at hf
      rw [if_neg (by decide)] at hf
      rw [if_neg (by decide)] at hf
      rw [if_neg (by decide)] at hf
      rw [if_neg (by decide)] at hf
      rw [if_pos rfl] at hf
      exact ax_tswI B (tgt := 792) d_L_law_33 (by decide) (by decide) (off := 759) rfl (by decide) (K_L_17 B hR hX hq hr hc hs hn had M v3 hf)
    by_cases h18 : y = 18
    · subst h18
      rw [if_neg (by decide)] at hf
      rw [if_neg (by decide)] at hf
      rw [if_neg (by decide)] at hf
      rw [if_neg (by decide)] at hf
      rw [if_neg (by decide)] at hf
      rw [if_neg (by decide)] at hf
      rw [if_neg (by decide)] at hf
      rw [if_neg (by decide)] at hf
      rw [if_neg (by decide)] at hf
      rw [if_neg (by decide)] at hf
      rw [if_neg (by decide)] at hf
      rw [if_neg (by decide)] at hf
      rw [if_neg (by decide)] at hf
      rw [if_neg (by decide)] at hf
      rw [if_neg (by decide)] at hf
      rw [if_neg (by decide)] at hf
      rw [if_neg (by decide)] at hf
      rw [if_neg (by decide)] at hf
      rw [if_pos rfl] at hf
      exact ax_tswI B (tgt := 815) d_L_law_33 (by decide) (by decide) (off := 782) rfl (by decide) (K_L_18 B hR hX hq hr hc hs hn had M v3 hf)
    by_cases h19 : y = 19
    · subst h19
      rw [if_neg (by decide)] at hf
      rw [if_neg (by decide)] at hf
      rw [if_neg (by decide)] at hf
      rw [if_neg (by decide)] at hf
      rw [if_neg (by decide)] at hf
      rw [if_neg (by decide)] at hf
      rw [if_neg (by decide)] at hf
      rw [if_neg (by decide)] at hf
      rw [if_neg (by decide)] at hf
      rw [if_neg (by decide)] at hf
      rw [if_neg (by decide)] at hf
      rw [if_neg (by decide)] at hf
      rw [if_neg (by decide)] at hf
      rw [if_neg (by decide)] at hf
      rw [if_neg (by decide)] at hf
      rw [if_neg (by decide)] at hf
      rw [if_neg (by decide)] at hf
      rw [if_neg (by decide)] at hf
      rw [if_neg (by decide)] at hf
      rw [if_pos rfl] at hf
      exact ax_tswI B (tgt := 878) d_L_law_33 (by decide) (by decide) (off := 845) rfl (by decide) (K_L_19 B hR hX hq hr hc hs hn had M v3 hf)
    by_cases h20 : y = 20
    · subst h20
      rw [if_neg (by decide)] at hf
      rw [if_neg (by decide)] at hf
      rw [if_neg (by decide)] at hf
      rw [if_neg (by decide)] at hf
      rw [if_neg (by decide)] at hf
      rw [if_neg (by decide)] at hf
      rw [if_neg (by decide)] at hf
      rw [if_neg (by decide)] at hf
      rw [if_neg (by decide)] at hf
      rw [if_neg (by decide)] at hf
      rw [if_neg (by decide)] at hf
      rw [if_neg (by decide)] at hf
      rw [if_neg (by decide)] at hf
      rw [if_neg (by decide)] at hf
      rw [if_neg (by decide)] at hf
      rw [if_neg (by decide)] at hf
      rw [if_neg (by decide)] at hf
      rw [if_neg (by decide)] at hf
      rw [if_neg (by decide)] at hf
      rw [if_neg (by decide)] at hf
      rw [if_pos rfl] at hf
      exact ax_tswI B (tgt := 931) d_L_law_33 (by decide) (by decide) (off := 898) rfl (by decide) (K_L_20 B hR hX hq hr hc hs hn had M v3 hf)
    by_cases h21 : y = 21
    · subst h21
      rw [if_neg (by decide)] at hf
      rw [if_neg (by decide)] at hf
      rw [if_neg (by decide)] at hf
      rw [if_neg (by decide)] at hf
      rw [if_neg (by decide)] at hf
      rw [if_neg (by decide)] at hf
      rw [if_neg (by decide)] at hf
      rw [if_neg (by decide)] at hf
      rw [if_neg (by decide)] at hf
      rw [if_neg (by decide)] at hf
      rw [if_neg (by decide)] at hf
      rw [if_neg (by decide)] at hf
      rw [if_neg (by decide)] at hf
      rw [if_neg (by decide)] at hf
      rw [if_neg (by decide)] at hf
      rw [if_neg (by decide)] at hf
      rw [if_neg (by decide)] at hf
      rw [if_neg (by decide)] at hf
      rw [if_neg (by decide)] at hf
      rw [if_neg (by decide)] at hf
      rw [if_neg (by decide)] at hf
      rw [if_pos rfl] at hf
      exact ax_tswI B (tgt := 1004) d_L_law_33 (by decide) (by decide) (off := 971) rfl (by decide) (K_L_21 B hR hX hq hr hc hs hn had M v3 hf)
    by_cases h22 : y = 22
    · subst h22
      rw [if_neg (by decide)] at hf
      rw [if_neg (by decide)] at hf
      rw [if_neg (by decide)] at hf
      rw [if_neg (by decide)] at hf
      rw [if_neg (by decide)] at hf
      rw [if_neg (by decide)] at hf
      rw [if_neg (by decide)] at hf
      rw [if_neg (by decide)] at hf
      rw [if_neg (by decide)] at hf
      rw [if_neg (by decide)] at hf
      rw [if_neg (by decide)] at hf
      rw [if_neg (by decide)] at hf
      rw [if_neg (by decide)] at hf
      rw [if_neg (by decide)] at hf
      rw [if_neg (by decide)] at hf
      rw [if_neg (by decide)] at hf
      rw [if_neg (by decide)] at hf
      rw [if_neg (by decide)] at hf
      rw [if_neg (by decide)] at hf
      rw [if_neg (by decide)] at hf
      rw [if_neg (by decide)] at hf
      rw [if_neg (by decide)] at hf
      rw [if_pos rfl] at hf
      exact ax_tswI B (tgt := 1057) d_L_law_33 (by decide) (by decide) (off := 1024) rfl (by decide) (K_L_22 B hR hX hq hr hc hs hn had M v3 hf)
    by_cases h23 : y = 23
    · subst h23
      rw [if_neg (by decide)] at hf
      rw [if_neg (by decide)] at hf
      rw [if_neg (by decide)] at hf
      rw [if_neg (by decide)] at hf
      rw [if_neg (by decide)] at hf
      rw [if_neg (by decide)] at hf
      rw [if_neg (by decide)] at hf
      rw [if_neg (by decide)] at hf
      rw [if_neg (by decide)] at hf
      rw [if_neg (by decide)] at hf
      rw [if_neg (by decide)] at hf
      rw [if_neg (by decide)] at hf
      rw [if_neg (by decide)] at hf
      rw [if_neg (by decide)] at hf
      rw [if_neg (by decide)] at hf
      rw [if_neg (by decide)] at hf
      rw [if_neg (by decide)] at hf
      rw [if_neg (by decide)] at hf
      rw [if_neg (by decide)] at hf
      rw [if_neg (by decide)] at hf
      rw [if_neg (by decide)] at hf
      rw [if_neg (by decide)] at hf
      rw [if_neg (by decide)] at hf
      rw [if_pos rfl] at hf
      exact ax_tswI B (tgt := 1090) d_L_law_33 (by decide) (by decide) (off := 1057) rfl (by decide) (K_L_23 B hR hX hq hr hc hs hn had M v3 hf)
    by_cases h24 : y = 24
    · subst h24
      rw [if_neg (by decide)] at hf
      rw [if_neg (by decide)] at hf
      rw [if_neg (by decide)] at hf
      rw [if_neg (by decide)] at hf
      rw [if_neg (by decide)] at hf
      rw [if_neg (by decide)] at hf
      rw [if_neg (by decide)] at hf
      rw [if_neg (by decide)] at hf
      rw [if_neg (by decide)] at hf
      rw [if_neg (by decide)] at hf
      rw [if_neg (by decide)] at hf
      rw [if_neg (by decide)] at hf
      rw [if_neg (by decide)] at hf
      rw [if_neg (by decide)] at hf
      rw [if_neg (by decide)] at hf
      rw [if_neg (by decide)] at hf
      rw [if_neg (by decide)] at hf
      rw [if_neg (by decide)] at hf
      rw [if_neg (by decide)] at hf
      rw [if_neg (by decide)] at hf
      rw [if_neg (by decide)] at hf
      rw [if_neg (by decide)] at hf
      rw [if_neg (by decide)] at hf
      rw [if_neg (by decide)] at hf
      rw [if_pos rfl] at hf
      exact ax_tswI B (tgt := 1113) d_L_law_33 (by decide) (by decide) (off := 1080) rfl (by decide) (K_L_24 B hR hX hq hr hc hs hn had M v3 hf)
    rw [if_neg h0, if_neg h1, if_neg h2, if_neg h3, if_neg h4, if_neg h5, if_neg h6, if_neg h7, if_neg h8, if_neg h9, if_neg h10, if_neg h11, if_neg h12, if_neg h13, if_neg h14, if_neg h15, if_neg h16, if_neg h17, if_neg h18, if_neg h19, if_neg h20, if_neg h21, if_neg h22, if_neg h23, if_neg h24] at hf
    refine ax_tswO B (tgt := 1146) d_L_law_33 ?_ (by decide) (ax_widen (Nat.le_add_right _ 6) (Nat.le_add_right _ 54) (K_L_inc B hR hX hq hr hc hs hn had M v3 hf))
    have a0 := lv_neT h0 (a := 0) rfl
    have a1 := lv_neT h1 (a := 1) rfl
    have a2 := lv_neT h2 (a := 2) rfl
    have a3 := lv_neT h3 (a := 3) rfl
    have a4 := lv_neT h4 (a := 4) rfl
    have a5 := lv_neT h5 (a := 5) rfl
    have a6 := lv_neT h6 (a := 6) rfl
    have a7 := lv_neT h7 (a := 7) rfl
    have a8 := lv_neT h8 (a := 8) rfl
    have a9 := lv_neT h9 (a := 9) rfl
    have a10 := lv_neT h10 (a := 10) rfl
    have a11 := lv_neT h11 (a := 11) rfl
    have a12 := lv_neT h12 (a := 12) rfl
    have a13 := lv_neT h13 (a := 13) rfl
    have a14 := lv_neT h14 (a := 14) rfl
    have a15 := lv_neT h15 (a := 15) rfl
    have a16 := lv_neT h16 (a := 16) rfl
    have a17 := lv_neT h17 (a := 17) rfl
    have a18 := lv_neT h18 (a := 18) rfl
    have a19 := lv_neT h19 (a := 19) rfl
    have a20 := lv_neT h20 (a := 20) rfl
    have a21 := lv_neT h21 (a := 21) rfl
    have a22 := lv_neT h22 (a := 22) rfl
    have a23 := lv_neT h23 (a := 23) rfl
    have a24 := lv_neT h24 (a := 24) rfl
    omega
def F_L_law (xs : Nat → Int32) (L : Nat) : Nat → ax_M → Int32 → Option (Int32 × ax_M)
  | 0 => fun _ _ => none
  | n + 1 => G_L_head xs L (F_L_law xs L n)
