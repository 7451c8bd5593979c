-- one round of the law's loop, and the loop
theorem ix_s1 {k L : Nat} (h : k + 3 ≤ L) (hL : L ≤ 1536) : vp_in (nI k + 1) L := by
  show vp_in (nI k + nI 1) L
  rw [nI_add]
  exact vp_in_nI (by omega) (by omega)
theorem ix_s2 {k L : Nat} (h : k + 3 ≤ L) (hL : L ≤ 1536) : vp_in (nI k + 2) L := by
  show vp_in (nI k + nI 2) L
  rw [nI_add]
  exact vp_in_nI (by omega) (by omega)
theorem ix_go {k L : Nat} (hk : k ≤ L + 3) (hL : L ≤ 1536) : (Int32.ofNat L - 3 < nI k) = ¬ (k + 3 ≤ L) := by
  have e3 : (Int32.ofNat L - 3).toInt = (L : Int) - 3 := pk_sub_toInt (a := L) (b := 3) (by omega) (by decide)
  rw [Int32.lt_iff_toInt_lt, e3, nI_toInt (by omega)]
  apply propext
  omega
set_option maxHeartbeats 4000000 in
set_option maxRecDepth 100000 in
theorem law_step {p : Program} {l : Launch} {e : Env} {s : State} {m : MethodId} {args : Array Value} {below : List Frame} {meth : Method} {c : Code} {Q : State → Prop} {D : va_G} {a : Nat → Nat} {cA : Nat → ClassId} {b : Nat → Nat} {cB : Nat → ClassId} {z L : Nat} {xs : Nat → Int32} (hF : lF p m c s args D a cA b cB) (hX : va_X z L xs s s.heap) (hbl : z < s.heap.size) (hL : L ≤ 1536) (hend : ∀ (H : Heap) (locs : List Loc) (ls : Array Slot), va_S (fun q => s.heap.size ≤ q) s.heap H locs → W p l e room_1 s m args below meth c H locs 600000 7302250 Q (F0 m 397 ls [])) {k : Nat} {σ τ : Mem} (hk : k ≤ L + 3) (h : Sm σ τ) (next : k + 3 ≤ L → ∀ (σ τ : Mem) (H : Heap) (locs : List Loc) (ls : Array Slot), Sm σ τ → lS D a cA b cB s σ τ H locs → lv_has ls 4 [(3, .int (nI (k + 3))), (2, .ref (b 0)), (1, .ref (a 0)), (0, .ref z)] → W p l e room_1 s m args below meth c H locs 600000 7302250 Q (F0 m 18 ls [])) (H : Heap) (locs : List Loc) (ls : Array Slot) (hs : lS D a cA b cB s σ τ H locs) (hl : lv_has ls 4 [(3, .int (nI k)), (2, .ref (b 0)), (1, .ref (a 0)), (0, .ref z)]) : W p l e room_1 s m args below meth c H locs 600000 7302250 Q (F0 m 18 ls []) := by
  have hx := hF.1.1
  have hb := hF.1.2.1
  have hzA : ¬ s.heap.size ≤ z := Nat.not_le.mpr hbl
  refine lv_iload_n hx hb d_L_law_18 rfl (lv_at hl 0 rfl) ?_
  refine lv_aload_n hx hb d_L_law_19 rfl (lv_at hl 3 rfl) ?_
  refine va_slen hx hb hX hbl hzA hs.2.2 d_L_law_20 ?_
  refine lv_iconst (v := 3) hx hb d_L_law_21 (by decide) ?_
  refine lv_isub hx hb d_L_law_22 ?_
  refine lv_icmp_gt (tgt := 397) hx hb d_L_law_23 (by decide) (fun _ => hend _ _ _ hs.2.2) (fun hgo => ?_)
  rw [ix_go hk hL] at hgo
  have hgo : k + 3 ≤ L := Decidable.not_not.mp hgo
  have fin : ∀ (σ τ : Mem) (H : Heap) (locs : List Loc) (ls : Array Slot), Sm σ τ → lS D a cA b cB s σ τ H locs → lv_has ls 4 [(3, .int (nI k)), (2, .ref (b 0)), (1, .ref (a 0)), (0, .ref z)] → W p l e room_1 s m args below meth c H locs 600000 7302250 Q (F0 m 391 ls []) := by
    intro σ τ H locs ls h hs hl
    refine lv_iinc (k := 0) (v := nI (k + 3)) (lv' := [(3, _), (2, _), (1, _), (0, _)]) hx hb d_L_law_391 hl rfl (nI_add k 3) (by decide) rfl (fun ls hl => ?_)
    refine lv_goto (tgt := 18) hx hb d_L_law_394 (by decide) ?_
    exact next hgo _ _ _ _ _ h hs hl
  refine lv_aload_n hx hb d_L_law_26 rfl (lv_at hl 3 rfl) ?_
  refine lv_iload_n hx hb d_L_law_27 rfl (lv_at hl 0 rfl) ?_
  refine va_sld hx hb hX hbl hzA hs.2.2 (vp_in_nI (by omega) (by omega)) d_L_law_28 ?_
  refine lv_bipush (v := 15) hx hb d_L_law_29 (by decide) ?_
  refine lv_iand hx hb d_L_law_31 ?_
  refine lv_topi (fun x ex => ?_)
  by_cases c0 : x = (0 : Int32)
  · refine lv_tableIn (tgt := 100) (off := 68) hx hb d_L_law_32 (by rw [c0]; decide) (by rw [c0]; decide) (by rw [c0]; rfl) (by decide) ?_
    refine lv_aload_n hx hb d_L_law_100 rfl (lv_at hl 2 rfl) ?_
    refine lv_aload_n hx hb d_L_law_101 rfl (lv_at hl 3 rfl) ?_
    refine lv_iload_n hx hb d_L_law_102 rfl (lv_at hl 0 rfl) ?_
    refine lv_iconst (v := 1) hx hb d_L_law_103 (by decide) ?_
    refine lv_iadd hx hb d_L_law_104 ?_
    refine va_sld hx hb hX hbl hzA hs.2.2 (ix_s1 hgo hL) d_L_law_105 ?_
    refine lv_aload_n hx hb d_L_law_106 rfl (lv_at hl 3 rfl) ?_
    refine lv_iload_n hx hb d_L_law_107 rfl (lv_at hl 0 rfl) ?_
    refine lv_iconst (v := 2) hx hb d_L_law_108 (by decide) ?_
    refine lv_iadd hx hb d_L_law_109 ?_
    refine va_sld hx hb hX hbl hzA hs.2.2 (ix_s2 hgo hL) d_L_law_110 ?_
    refine lx_Vi hF hs v_X_poke k_ml_L_13 m_X_poke rfl rfl ⟨by decide, by decide⟩ rfl rfl hl.1 (Nat.le_of_ble_eq_true rfl) rfl d_L_law_111 ⟨Nat.le_refl _, Nat.le_refl _⟩ (fun H locs hs => ?_)
    refine lv_aload_n hx hb d_L_law_114 rfl (lv_at hl 1 rfl) ?_
    refine lv_aload_n hx hb d_L_law_115 rfl (lv_at hl 3 rfl) ?_
    refine lv_iload_n hx hb d_L_law_116 rfl (lv_at hl 0 rfl) ?_
    refine lv_iconst (v := 1) hx hb d_L_law_117 (by decide) ?_
    refine lv_iadd hx hb d_L_law_118 ?_
    refine va_sld hx hb hX hbl hzA hs.2.2 (ix_s1 hgo hL) d_L_law_119 ?_
    refine lv_aload_n hx hb d_L_law_120 rfl (lv_at hl 3 rfl) ?_
    refine lv_iload_n hx hb d_L_law_121 rfl (lv_at hl 0 rfl) ?_
    refine lv_iconst (v := 2) hx hb d_L_law_122 (by decide) ?_
    refine lv_iadd hx hb d_L_law_123 ?_
    refine va_sld hx hb hX hbl hzA hs.2.2 (ix_s2 hgo hL) d_L_law_124 ?_
    refine lm_Vi hF hs v_M_poke k_ml_L_17 m_M_poke rfl rfl ⟨by decide, by decide⟩ rfl rfl hl.1 (Nat.le_of_ble_eq_true rfl) rfl d_L_law_125 ⟨Nat.le_refl _, Nat.le_refl _⟩ (fun H locs hs => ?_)
    exact lv_icmp_eq (tgt := 391) hx hb d_L_law_128 (by decide) (fun _ => fin _ _ _ _ _ (poke_sim _ _ h).2 hs hl) (fun hne => absurd (poke_sim _ _ h).1 hne)
  by_cases c1 : x = (1 : Int32)
  · refine lv_tableIn (tgt := 133) (off := 101) hx hb d_L_law_32 (by rw [c1]; decide) (by rw [c1]; decide) (by rw [c1]; rfl) (by decide) ?_
    refine lv_aload_n hx hb d_L_law_133 rfl (lv_at hl 2 rfl) ?_
    refine lv_aload_n hx hb d_L_law_134 rfl (lv_at hl 3 rfl) ?_
    refine lv_iload_n hx hb d_L_law_135 rfl (lv_at hl 0 rfl) ?_
    refine lv_iconst (v := 1) hx hb d_L_law_136 (by decide) ?_
    refine lv_iadd hx hb d_L_law_137 ?_
    refine va_sld hx hb hX hbl hzA hs.2.2 (ix_s1 hgo hL) d_L_law_138 ?_
    refine lx_Vi hF hs v_X_peek k_ml_L_18 m_X_peek rfl rfl ⟨by decide, by decide⟩ rfl rfl hl.1 (Nat.le_of_ble_eq_true rfl) rfl d_L_law_139 ⟨Nat.le_refl _, Nat.le_refl _⟩ (fun H locs hs => ?_)
    refine lv_aload_n hx hb d_L_law_142 rfl (lv_at hl 1 rfl) ?_
    refine lv_aload_n hx hb d_L_law_143 rfl (lv_at hl 3 rfl) ?_
    refine lv_iload_n hx hb d_L_law_144 rfl (lv_at hl 0 rfl) ?_
    refine lv_iconst (v := 1) hx hb d_L_law_145 (by decide) ?_
    refine lv_iadd hx hb d_L_law_146 ?_
    refine va_sld hx hb hX hbl hzA hs.2.2 (ix_s1 hgo hL) d_L_law_147 ?_
    refine lm_Vi hF hs v_M_peek k_ml_L_22 m_M_peek rfl rfl ⟨by decide, by decide⟩ rfl rfl hl.1 (Nat.le_of_ble_eq_true rfl) rfl d_L_law_148 ⟨Nat.le_refl _, Nat.le_refl _⟩ (fun H locs hs => ?_)
    exact lv_icmp_eq (tgt := 391) hx hb d_L_law_151 (by decide) (fun _ => fin _ _ _ _ _ h hs hl) (fun hne => absurd (peek_sim _ h) hne)
  by_cases c2 : x = (2 : Int32)
  · refine lv_tableIn (tgt := 156) (off := 124) hx hb d_L_law_32 (by rw [c2]; decide) (by rw [c2]; decide) (by rw [c2]; rfl) (by decide) ?_
    refine lv_aload_n hx hb d_L_law_156 rfl (lv_at hl 2 rfl) ?_
    refine lv_aload_n hx hb d_L_law_157 rfl (lv_at hl 3 rfl) ?_
    refine lv_iload_n hx hb d_L_law_158 rfl (lv_at hl 0 rfl) ?_
    refine lv_iconst (v := 1) hx hb d_L_law_159 (by decide) ?_
    refine lv_iadd hx hb d_L_law_160 ?_
    refine va_sld hx hb hX hbl hzA hs.2.2 (ix_s1 hgo hL) d_L_law_161 ?_
    refine lx_Vi hF hs v_X_tagged k_ml_L_23 m_X_tagged rfl rfl ⟨by decide, by decide⟩ rfl rfl hl.1 (Nat.le_of_ble_eq_true rfl) rfl d_L_law_162 ⟨Nat.le_refl _, Nat.le_refl _⟩ (fun H locs hs => ?_)
    refine lv_aload_n hx hb d_L_law_165 rfl (lv_at hl 1 rfl) ?_
    refine lv_aload_n hx hb d_L_law_166 rfl (lv_at hl 3 rfl) ?_
    refine lv_iload_n hx hb d_L_law_167 rfl (lv_at hl 0 rfl) ?_
    refine lv_iconst (v := 1) hx hb d_L_law_168 (by decide) ?_
    refine lv_iadd hx hb d_L_law_169 ?_
    refine va_sld hx hb hX hbl hzA hs.2.2 (ix_s1 hgo hL) d_L_law_170 ?_
    refine lm_Vi hF hs v_M_tagged k_ml_L_27 m_M_tagged rfl rfl ⟨by decide, by decide⟩ rfl rfl hl.1 (Nat.le_of_ble_eq_true rfl) rfl d_L_law_171 ⟨Nat.le_refl _, Nat.le_refl _⟩ (fun H locs hs => ?_)
    exact lv_icmp_eq (tgt := 391) hx hb d_L_law_174 (by decide) (fun _ => fin _ _ _ _ _ h hs hl) (fun hne => absurd (tagged_sim _ h) hne)
  by_cases c3 : x = (3 : Int32)
  · refine lv_tableIn (tgt := 179) (off := 147) hx hb d_L_law_32 (by rw [c3]; decide) (by rw [c3]; decide) (by rw [c3]; rfl) (by decide) ?_
    refine lv_aload_n hx hb d_L_law_179 rfl (lv_at hl 2 rfl) ?_
    refine lv_aload_n hx hb d_L_law_180 rfl (lv_at hl 3 rfl) ?_
    refine lv_iload_n hx hb d_L_law_181 rfl (lv_at hl 0 rfl) ?_
    refine lv_iconst (v := 1) hx hb d_L_law_182 (by decide) ?_
    refine lv_iadd hx hb d_L_law_183 ?_
    refine va_sld hx hb hX hbl hzA hs.2.2 (ix_s1 hgo hL) d_L_law_184 ?_
    refine lx_Vi hF hs v_X_run k_ml_L_28 m_X_run rfl rfl ⟨by decide, by decide⟩ rfl rfl hl.1 (Nat.le_of_ble_eq_true rfl) rfl d_L_law_185 ⟨Nat.le_refl _, Nat.le_refl _⟩ (fun H locs hs => ?_)
    refine lv_aload_n hx hb d_L_law_188 rfl (lv_at hl 1 rfl) ?_
    refine lv_aload_n hx hb d_L_law_189 rfl (lv_at hl 3 rfl) ?_
    refine lv_iload_n hx hb d_L_law_190 rfl (lv_at hl 0 rfl) ?_
    refine lv_iconst (v := 1) hx hb d_L_law_191 (by decide) ?_
    refine lv_iadd hx hb d_L_law_192 ?_
    refine va_sld hx hb hX hbl hzA hs.2.2 (ix_s1 hgo hL) d_L_law_193 ?_
    refine lm_Vi hF hs v_M_run k_ml_L_31 m_M_run rfl rfl ⟨by decide, by decide⟩ rfl rfl hl.1 (Nat.le_of_ble_eq_true rfl) rfl d_L_law_194 ⟨Nat.le_refl _, Nat.le_refl _⟩ (fun H locs hs => ?_)
    exact lv_icmp_eq (tgt := 391) hx hb d_L_law_197 (by decide) (fun _ => fin _ _ _ _ _ (run_sim _ h).2 hs hl) (fun hne => absurd (run_sim _ h).1 hne)
  by_cases c4 : x = (4 : Int32)
  · refine lv_tableIn (tgt := 202) (off := 170) hx hb d_L_law_32 (by rw [c4]; decide) (by rw [c4]; decide) (by rw [c4]; rfl) (by decide) ?_
    refine lv_aload_n hx hb d_L_law_202 rfl (lv_at hl 2 rfl) ?_
    refine lx_Vi hF hs v_X_state k_ml_L_32 m_X_state rfl rfl ⟨by decide, by decide⟩ rfl rfl hl.1 (Nat.le_of_ble_eq_true rfl) rfl d_L_law_203 ⟨Nat.le_refl _, Nat.le_refl _⟩ (fun H locs hs => ?_)
    refine lv_aload_n hx hb d_L_law_206 rfl (lv_at hl 1 rfl) ?_
    refine lm_Vi hF hs v_M_state k_ml_L_36 m_M_state rfl rfl ⟨by decide, by decide⟩ rfl rfl hl.1 (Nat.le_of_ble_eq_true rfl) rfl d_L_law_207 ⟨Nat.le_refl _, Nat.le_refl _⟩ (fun H locs hs => ?_)
    exact lv_icmp_eq (tgt := 391) hx hb d_L_law_210 (by decide) (fun _ => fin _ _ _ _ _ h hs hl) (fun hne => absurd (h.s 0) hne)
  by_cases c5 : x = (5 : Int32)
  · refine lv_tableIn (tgt := 215) (off := 183) hx hb d_L_law_32 (by rw [c5]; decide) (by rw [c5]; decide) (by rw [c5]; rfl) (by decide) ?_
    refine lv_aload_n hx hb d_L_law_215 rfl (lv_at hl 2 rfl) ?_
    refine lv_aload_n hx hb d_L_law_216 rfl (lv_at hl 3 rfl) ?_
    refine lv_iload_n hx hb d_L_law_217 rfl (lv_at hl 0 rfl) ?_
    refine lv_iconst (v := 1) hx hb d_L_law_218 (by decide) ?_
    refine lv_iadd hx hb d_L_law_219 ?_
    refine va_sld hx hb hX hbl hzA hs.2.2 (ix_s1 hgo hL) d_L_law_220 ?_
    refine lx_Vi hF hs v_X_wake k_ml_L_37 m_X_wake rfl rfl ⟨by decide, by decide⟩ rfl rfl hl.1 (Nat.le_of_ble_eq_true rfl) rfl d_L_law_221 ⟨Nat.le_refl _, Nat.le_refl _⟩ (fun H locs hs => ?_)
    refine lv_aload_n hx hb d_L_law_224 rfl (lv_at hl 1 rfl) ?_
    refine lv_aload_n hx hb d_L_law_225 rfl (lv_at hl 3 rfl) ?_
    refine lv_iload_n hx hb d_L_law_226 rfl (lv_at hl 0 rfl) ?_
    refine lv_iconst (v := 1) hx hb d_L_law_227 (by decide) ?_
    refine lv_iadd hx hb d_L_law_228 ?_
    refine va_sld hx hb hX hbl hzA hs.2.2 (ix_s1 hgo hL) d_L_law_229 ?_
    refine lm_Vi hF hs v_M_wake k_ml_L_40 m_M_wake rfl rfl ⟨by decide, by decide⟩ rfl rfl hl.1 (Nat.le_of_ble_eq_true rfl) rfl d_L_law_230 ⟨Nat.le_refl _, Nat.le_refl _⟩ (fun H locs hs => ?_)
    exact lv_icmp_eq (tgt := 391) hx hb d_L_law_233 (by decide) (fun _ => fin _ _ _ _ _ (wake_sim _ h).2 hs hl) (fun hne => absurd (wake_sim _ h).1 hne)
  by_cases c6 : x = (6 : Int32)
  · refine lv_tableIn (tgt := 238) (off := 206) hx hb d_L_law_32 (by rw [c6]; decide) (by rw [c6]; decide) (by rw [c6]; rfl) (by decide) ?_
    refine lv_aload_n hx hb d_L_law_238 rfl (lv_at hl 2 rfl) ?_
    refine lx_Vi hF hs v_X_cause k_ml_L_41 m_X_cause rfl rfl ⟨by decide, by decide⟩ rfl rfl hl.1 (Nat.le_of_ble_eq_true rfl) rfl d_L_law_239 ⟨Nat.le_refl _, Nat.le_refl _⟩ (fun H locs hs => ?_)
    refine lv_aload_n hx hb d_L_law_242 rfl (lv_at hl 1 rfl) ?_
    refine lm_Vi hF hs v_M_cause k_ml_L_44 m_M_cause rfl rfl ⟨by decide, by decide⟩ rfl rfl hl.1 (Nat.le_of_ble_eq_true rfl) rfl d_L_law_243 ⟨Nat.le_refl _, Nat.le_refl _⟩ (fun H locs hs => ?_)
    exact lv_icmp_eq (tgt := 391) hx hb d_L_law_246 (by decide) (fun _ => fin _ _ _ _ _ h hs hl) (fun hne => absurd (h.s 1) hne)
  by_cases c7 : x = (7 : Int32)
  · refine lv_tableIn (tgt := 251) (off := 219) hx hb d_L_law_32 (by rw [c7]; decide) (by rw [c7]; decide) (by rw [c7]; rfl) (by decide) ?_
    refine lv_aload_n hx hb d_L_law_251 rfl (lv_at hl 2 rfl) ?_
    refine lx_Vi hF hs v_X_steps k_ml_L_45 m_X_steps rfl rfl ⟨by decide, by decide⟩ rfl rfl hl.1 (Nat.le_of_ble_eq_true rfl) rfl d_L_law_252 ⟨Nat.le_refl _, Nat.le_refl _⟩ (fun H locs hs => ?_)
    refine lv_aload_n hx hb d_L_law_255 rfl (lv_at hl 1 rfl) ?_
    refine lm_Vi hF hs v_M_steps k_ml_L_48 m_M_steps rfl rfl ⟨by decide, by decide⟩ rfl rfl hl.1 (Nat.le_of_ble_eq_true rfl) rfl d_L_law_256 ⟨Nat.le_refl _, Nat.le_refl _⟩ (fun H locs hs => ?_)
    exact lv_icmp_eq (tgt := 391) hx hb d_L_law_259 (by decide) (fun _ => fin _ _ _ _ _ h hs hl) (fun hne => absurd (h.s 2) hne)
  by_cases c8 : x = (8 : Int32)
  · refine lv_tableIn (tgt := 264) (off := 232) hx hb d_L_law_32 (by rw [c8]; decide) (by rw [c8]; decide) (by rw [c8]; rfl) (by decide) ?_
    refine lv_aload_n hx hb d_L_law_264 rfl (lv_at hl 2 rfl) ?_
    refine lx_Vi hF hs v_X_traps k_ml_L_49 m_X_traps rfl rfl ⟨by decide, by decide⟩ rfl rfl hl.1 (Nat.le_of_ble_eq_true rfl) rfl d_L_law_265 ⟨Nat.le_refl _, Nat.le_refl _⟩ (fun H locs hs => ?_)
    refine lv_aload_n hx hb d_L_law_268 rfl (lv_at hl 1 rfl) ?_
    refine lm_Vi hF hs v_M_traps k_ml_L_52 m_M_traps rfl rfl ⟨by decide, by decide⟩ rfl rfl hl.1 (Nat.le_of_ble_eq_true rfl) rfl d_L_law_269 ⟨Nat.le_refl _, Nat.le_refl _⟩ (fun H locs hs => ?_)
    exact lv_icmp_eq (tgt := 391) hx hb d_L_law_272 (by decide) (fun _ => fin _ _ _ _ _ h hs hl) (fun hne => absurd (h.s 3) hne)
  by_cases c9 : x = (9 : Int32)
  · refine lv_tableIn (tgt := 277) (off := 245) hx hb d_L_law_32 (by rw [c9]; decide) (by rw [c9]; decide) (by rw [c9]; rfl) (by decide) ?_
    refine lv_aload_n hx hb d_L_law_277 rfl (lv_at hl 2 rfl) ?_
    refine lv_aload_n hx hb d_L_law_278 rfl (lv_at hl 3 rfl) ?_
    refine lv_iload_n hx hb d_L_law_279 rfl (lv_at hl 0 rfl) ?_
    refine lv_iconst (v := 1) hx hb d_L_law_280 (by decide) ?_
    refine lv_iadd hx hb d_L_law_281 ?_
    refine va_sld hx hb hX hbl hzA hs.2.2 (ix_s1 hgo hL) d_L_law_282 ?_
    refine lv_aload_n hx hb d_L_law_283 rfl (lv_at hl 3 rfl) ?_
    refine lv_iload_n hx hb d_L_law_284 rfl (lv_at hl 0 rfl) ?_
    refine lv_iconst (v := 2) hx hb d_L_law_285 (by decide) ?_
    refine lv_iadd hx hb d_L_law_286 ?_
    refine va_sld hx hb hX hbl hzA hs.2.2 (ix_s2 hgo hL) d_L_law_287 ?_
    refine lx_Vi hF hs v_X_register k_ml_L_53 m_X_register rfl rfl ⟨by decide, by decide⟩ rfl rfl hl.1 (Nat.le_of_ble_eq_true rfl) rfl d_L_law_288 ⟨Nat.le_refl _, Nat.le_refl _⟩ (fun H locs hs => ?_)
    refine lv_aload_n hx hb d_L_law_291 rfl (lv_at hl 1 rfl) ?_
    refine lv_aload_n hx hb d_L_law_292 rfl (lv_at hl 3 rfl) ?_
    refine lv_iload_n hx hb d_L_law_293 rfl (lv_at hl 0 rfl) ?_
    refine lv_iconst (v := 1) hx hb d_L_law_294 (by decide) ?_
    refine lv_iadd hx hb d_L_law_295 ?_
    refine va_sld hx hb hX hbl hzA hs.2.2 (ix_s1 hgo hL) d_L_law_296 ?_
    refine lv_aload_n hx hb d_L_law_297 rfl (lv_at hl 3 rfl) ?_
    refine lv_iload_n hx hb d_L_law_298 rfl (lv_at hl 0 rfl) ?_
    refine lv_iconst (v := 2) hx hb d_L_law_299 (by decide) ?_
    refine lv_iadd hx hb d_L_law_300 ?_
    refine va_sld hx hb hX hbl hzA hs.2.2 (ix_s2 hgo hL) d_L_law_301 ?_
    refine lm_Vi hF hs v_M_register k_ml_L_57 m_M_register rfl rfl ⟨by decide, by decide⟩ rfl rfl hl.1 (Nat.le_of_ble_eq_true rfl) rfl d_L_law_302 ⟨Nat.le_refl _, Nat.le_refl _⟩ (fun H locs hs => ?_)
    exact lv_icmp_eq (tgt := 391) hx hb d_L_law_305 (by decide) (fun _ => fin _ _ _ _ _ h hs hl) (fun hne => absurd (register_sim _ _ h) hne)
  by_cases c10 : x = (10 : Int32)
  · refine lv_tableIn (tgt := 310) (off := 278) hx hb d_L_law_32 (by rw [c10]; decide) (by rw [c10]; decide) (by rw [c10]; rfl) (by decide) ?_
    refine lv_aload_n hx hb d_L_law_310 rfl (lv_at hl 2 rfl) ?_
    refine lv_aload_n hx hb d_L_law_311 rfl (lv_at hl 3 rfl) ?_
    refine lv_iload_n hx hb d_L_law_312 rfl (lv_at hl 0 rfl) ?_
    refine lv_iconst (v := 1) hx hb d_L_law_313 (by decide) ?_
    refine lv_iadd hx hb d_L_law_314 ?_
    refine va_sld hx hb hX hbl hzA hs.2.2 (ix_s1 hgo hL) d_L_law_315 ?_
    refine lx_Vl hF hs v_X_base k_ml_L_58 m_X_base rfl rfl ⟨by decide, by decide⟩ rfl rfl hl.1 (Nat.le_of_ble_eq_true rfl) rfl d_L_law_316 ⟨Nat.le_refl _, Nat.le_refl _⟩ (fun H locs hs => ?_)
    refine lv_aload_n hx hb d_L_law_319 rfl (lv_at hl 1 rfl) ?_
    refine lv_aload_n hx hb d_L_law_320 rfl (lv_at hl 3 rfl) ?_
    refine lv_iload_n hx hb d_L_law_321 rfl (lv_at hl 0 rfl) ?_
    refine lv_iconst (v := 1) hx hb d_L_law_322 (by decide) ?_
    refine lv_iadd hx hb d_L_law_323 ?_
    refine va_sld hx hb hX hbl hzA hs.2.2 (ix_s1 hgo hL) d_L_law_324 ?_
    refine lm_Vl hF hs v_M_base k_ml_L_62 m_M_base rfl rfl ⟨by decide, by decide⟩ rfl rfl hl.1 (Nat.le_of_ble_eq_true rfl) rfl d_L_law_325 ⟨Nat.le_refl _, Nat.le_refl _⟩ (fun H locs hs => ?_)
    refine W.lcmp hx hb d_L_law_328 ?_
    exact lv_if_eq (tgt := 391) hx hb d_L_law_329 (by decide) (fun _ => fin _ _ _ _ _ h hs hl) (fun hne => absurd ((lg_cmp_eq _ _).mpr (base_sim _ h)) hne)
  by_cases c11 : x = (11 : Int32)
  · refine lv_tableIn (tgt := 334) (off := 302) hx hb d_L_law_32 (by rw [c11]; decide) (by rw [c11]; decide) (by rw [c11]; rfl) (by decide) ?_
    refine lv_aload_n hx hb d_L_law_334 rfl (lv_at hl 2 rfl) ?_
    refine lv_aload_n hx hb d_L_law_335 rfl (lv_at hl 3 rfl) ?_
    refine lv_iload_n hx hb d_L_law_336 rfl (lv_at hl 0 rfl) ?_
    refine lv_iconst (v := 1) hx hb d_L_law_337 (by decide) ?_
    refine lv_iadd hx hb d_L_law_338 ?_
    refine va_sld hx hb hX hbl hzA hs.2.2 (ix_s1 hgo hL) d_L_law_339 ?_
    refine lx_Vl hF hs v_X_top k_ml_L_63 m_X_top rfl rfl ⟨by decide, by decide⟩ rfl rfl hl.1 (Nat.le_of_ble_eq_true rfl) rfl d_L_law_340 ⟨Nat.le_refl _, Nat.le_refl _⟩ (fun H locs hs => ?_)
    refine lv_aload_n hx hb d_L_law_343 rfl (lv_at hl 1 rfl) ?_
    refine lv_aload_n hx hb d_L_law_344 rfl (lv_at hl 3 rfl) ?_
    refine lv_iload_n hx hb d_L_law_345 rfl (lv_at hl 0 rfl) ?_
    refine lv_iconst (v := 1) hx hb d_L_law_346 (by decide) ?_
    refine lv_iadd hx hb d_L_law_347 ?_
    refine va_sld hx hb hX hbl hzA hs.2.2 (ix_s1 hgo hL) d_L_law_348 ?_
    refine lm_Vl hF hs v_M_top k_ml_L_66 m_M_top rfl rfl ⟨by decide, by decide⟩ rfl rfl hl.1 (Nat.le_of_ble_eq_true rfl) rfl d_L_law_349 ⟨Nat.le_refl _, Nat.le_refl _⟩ (fun H locs hs => ?_)
    refine W.lcmp hx hb d_L_law_352 ?_
    exact lv_if_eq (tgt := 391) hx hb d_L_law_353 (by decide) (fun _ => fin _ _ _ _ _ h hs hl) (fun hne => absurd ((lg_cmp_eq _ _).mpr (top_sim _ h)) hne)
  by_cases c12 : x = (12 : Int32)
  · refine lv_tableIn (tgt := 358) (off := 326) hx hb d_L_law_32 (by rw [c12]; decide) (by rw [c12]; decide) (by rw [c12]; rfl) (by decide) ?_
    refine lv_aload_n hx hb d_L_law_358 rfl (lv_at hl 2 rfl) ?_
    refine lv_aload_n hx hb d_L_law_359 rfl (lv_at hl 3 rfl) ?_
    refine lv_iload_n hx hb d_L_law_360 rfl (lv_at hl 0 rfl) ?_
    refine lv_iconst (v := 1) hx hb d_L_law_361 (by decide) ?_
    refine lv_iadd hx hb d_L_law_362 ?_
    refine va_sld hx hb hX hbl hzA hs.2.2 (ix_s1 hgo hL) d_L_law_363 ?_
    refine lv_aload_n hx hb d_L_law_364 rfl (lv_at hl 3 rfl) ?_
    refine lv_iload_n hx hb d_L_law_365 rfl (lv_at hl 0 rfl) ?_
    refine lv_iconst (v := 2) hx hb d_L_law_366 (by decide) ?_
    refine lv_iadd hx hb d_L_law_367 ?_
    refine va_sld hx hb hX hbl hzA hs.2.2 (ix_s2 hgo hL) d_L_law_368 ?_
    refine lx_Vi hF hs v_X_give k_ml_L_67 m_X_give rfl rfl ⟨by decide, by decide⟩ rfl rfl hl.1 (Nat.le_of_ble_eq_true rfl) rfl d_L_law_369 ⟨Nat.le_refl _, Nat.le_refl _⟩ (fun H locs hs => ?_)
    refine lv_aload_n hx hb d_L_law_372 rfl (lv_at hl 1 rfl) ?_
    refine lv_aload_n hx hb d_L_law_373 rfl (lv_at hl 3 rfl) ?_
    refine lv_iload_n hx hb d_L_law_374 rfl (lv_at hl 0 rfl) ?_
    refine lv_iconst (v := 1) hx hb d_L_law_375 (by decide) ?_
    refine lv_iadd hx hb d_L_law_376 ?_
    refine va_sld hx hb hX hbl hzA hs.2.2 (ix_s1 hgo hL) d_L_law_377 ?_
    refine lv_aload_n hx hb d_L_law_378 rfl (lv_at hl 3 rfl) ?_
    refine lv_iload_n hx hb d_L_law_379 rfl (lv_at hl 0 rfl) ?_
    refine lv_iconst (v := 2) hx hb d_L_law_380 (by decide) ?_
    refine lv_iadd hx hb d_L_law_381 ?_
    refine va_sld hx hb hX hbl hzA hs.2.2 (ix_s2 hgo hL) d_L_law_382 ?_
    refine lm_Vi hF hs v_M_give k_ml_L_70 m_M_give rfl rfl ⟨by decide, by decide⟩ rfl rfl hl.1 (Nat.le_of_ble_eq_true rfl) rfl d_L_law_383 ⟨Nat.le_refl _, Nat.le_refl _⟩ (fun H locs hs => ?_)
    exact lv_icmp_eq (tgt := 391) hx hb d_L_law_386 (by decide) (fun _ => fin _ _ _ _ _ (give_sim _ _ h).2 hs hl) (fun hne => absurd (give_sim _ _ h).1 hne)
  refine x_tabD (tgt := 391) hx hb [0, 1, 2, 3, 4, 5, 6, 7, 8, 9, 10, 11, 12] d_L_law_32 (List.forall_mem_cons.mpr ⟨lv_neT c0 (by decide), List.forall_mem_cons.mpr ⟨lv_neT c1 (by decide), List.forall_mem_cons.mpr ⟨lv_neT c2 (by decide), List.forall_mem_cons.mpr ⟨lv_neT c3 (by decide), List.forall_mem_cons.mpr ⟨lv_neT c4 (by decide), List.forall_mem_cons.mpr ⟨lv_neT c5 (by decide), List.forall_mem_cons.mpr ⟨lv_neT c6 (by decide), List.forall_mem_cons.mpr ⟨lv_neT c7 (by decide), List.forall_mem_cons.mpr ⟨lv_neT c8 (by decide), List.forall_mem_cons.mpr ⟨lv_neT c9 (by decide), List.forall_mem_cons.mpr ⟨lv_neT c10 (by decide), List.forall_mem_cons.mpr ⟨lv_neT c11 (by decide), List.forall_mem_cons.mpr ⟨lv_neT c12 (by decide), fun _ z => absurd z List.not_mem_nil⟩⟩⟩⟩⟩⟩⟩⟩⟩⟩⟩⟩⟩) (by decide) (by decide) (by decide) ?_
  exact fin _ _ _ _ _ h hs hl
theorem law_loop {p : Program} {l : Launch} {e : Env} {s : State} {m : MethodId} {args : Array Value} {below : List Frame} {meth : Method} {c : Code} {Q : State → Prop} {D : va_G} {a : Nat → Nat} {cA : Nat → ClassId} {b : Nat → Nat} {cB : Nat → ClassId} {z L : Nat} {xs : Nat → Int32} (hF : lF p m c s args D a cA b cB) (hX : va_X z L xs s s.heap) (hbl : z < s.heap.size) (hL : L ≤ 1536) (hend : ∀ (H : Heap) (locs : List Loc) (ls : Array Slot), va_S (fun q => s.heap.size ≤ q) s.heap H locs → W p l e room_1 s m args below meth c H locs 600000 7302250 Q (F0 m 397 ls [])) : ∀ (n k : Nat) (σ τ : Mem), L < k + 3 * n → k ≤ L + 3 → Sm σ τ → ∀ (H : Heap) (locs : List Loc) (ls : Array Slot), lS D a cA b cB s σ τ H locs → lv_has ls 4 [(3, .int (nI k)), (2, .ref (b 0)), (1, .ref (a 0)), (0, .ref z)] → W p l e room_1 s m args below meth c H locs 600000 7302250 Q (F0 m 18 ls []) := by
  intro n
  induction n with
  | zero =>
    intro k σ τ hn hk h H locs ls hs hl
    exact law_step hF hX hbl hL hend hk h (fun z => by exfalso; omega) H locs ls hs hl
  | succ n ih =>
    intro k σ τ hn hk h H locs ls hs hl
    exact law_step hF hX hbl hL hend hk h (fun z σ τ H locs ls h hs hl => ih (k + 3) σ τ (by omega) (by omega) h H locs ls hs hl) H locs ls hs hl
theorem sm_0 : Sm sX sM := by
  have h0 : Sm zm zm := ⟨rfl, fun _ _ => rfl⟩
  exact root_sim _ (root_sim _ h0 (by decide) rfl) (by decide) (by decide)
