theorem hd_L_areMoves : yL_areMoves.cls ≠ "java/lang/invoke/MethodHandle" ∧ yL_areMoves.cls ≠ "java/lang/invoke/VarHandle" ∧ (parseMethodDescriptor yL_areMoves.desc).map (fun d => d.parameters.length) = some 3 := by decide +kernel
theorem hd_L_areOrders : yL_areOrders.cls ≠ "java/lang/invoke/MethodHandle" ∧ yL_areOrders.cls ≠ "java/lang/invoke/VarHandle" ∧ (parseMethodDescriptor yL_areOrders.desc).map (fun d => d.parameters.length) = some 3 := by decide +kernel
theorem hd_L_draw : yL_draw.cls ≠ "java/lang/invoke/MethodHandle" ∧ yL_draw.cls ≠ "java/lang/invoke/VarHandle" ∧ (parseMethodDescriptor yL_draw.desc).map (fun d => d.parameters.length) = some 2 := by decide +kernel
theorem hd_L_isSet : yL_isSet.cls ≠ "java/lang/invoke/MethodHandle" ∧ yL_isSet.cls ≠ "java/lang/invoke/VarHandle" ∧ (parseMethodDescriptor yL_isSet.desc).map (fun d => d.parameters.length) = some 3 := by decide +kernel
theorem hd_L_step : yL_step.cls ≠ "java/lang/invoke/MethodHandle" ∧ yL_step.cls ≠ "java/lang/invoke/VarHandle" ∧ (parseMethodDescriptor yL_step.desc).map (fun d => d.parameters.length) = some 5 := by decide +kernel
set_option maxHeartbeats 4000000 in
set_option maxRecDepth 100000 in
theorem law_loop {p : Program} {l : Launch} {e : Env} {s : State} {m : MethodId} {below : List Frame} {meth : Method} {c : Code} {D : va_G} {ky : kT} {sc L : Nat} {xs : Nat → Int32} (hL : L ≤ 260) (C0 : lw_At p s m meth c sc L xs) (hK : ap_K D ky s) {x o9 sp : Nat} (hsp : sp ≤ 40) :
    ∀ (fu kk : Nat) (ws : va_W) (H : Heap) (locs : List Loc) (cells slots : Nat) (ls : Array Slot), sp < kk + fu → kk ≤ sp → cells ≤ 100 → slots ≤ 10000 → LI ky ws x o9 0 → va_P D CL ws H → va_D (fun q : Nat => s.heap.size ≤ q) ws → va_S (fun q : Nat => s.heap.size ≤ q) s.heap H locs → lv_has ls 9 [(0, .ref sc), (1, .ref x), (2, .ref o9), (3, .int (nI 1)), (4, .int (nI sp)), (5, .int (nI kk))] → W p l e room_1 s m #[Value.ref sc] below meth c H locs cells slots (lw_Z below #[Value.ref sc] s) (F0 m 64 ls []) := by
  obtain ⟨hx, hb, hr, hml, hown, hts0, hX, hbl, hlocks, hgv⟩ := C0
  have hown : s.vm.findClass RL = some m.cls := hown
  have hts : ∀ w ∈ wsL_law, w.before #[Value.ref sc] s = true := fun w h => hts0 w (wsL_law_in w h)
  have hbA : ¬ (fun q : Nat => s.heap.size ≤ q) sc := Nat.not_le.mpr hbl
  have hRc : room_1.cells = 600104 := rfl
  have hRs : room_1.slots = 7301314 := rfl
  have hRf : room_1.frames = 2048 := rfl
  have hRl : room_1.locals = 84000 := rfl
  intro fu
  induction fu with
  | zero => intro kk ws H locs cells slots ls h1 h2; exact absurd h1 (by omega)
  | succ fu ih =>
    intro kk ws H locs cells slots ls hfu hkk hce hsl hLI hP hD hS hl
    obtain ⟨n, T, C, Hd, b, q, J, bg, pi, bu, tm, tl, K, f, hap, f19, hTI, hLR, -⟩ := hLI
    refine lv_iload hx hb dL_law_64 (lv_at hl 5 rfl) ?_
    refine lv_iload hx hb dL_law_66 (lv_at hl 4 rfl) ?_
    refine sn_icmp_ge (tgt := 199) hx hb dL_law_68 (by decide) (by omega) (by omega) (fun c1 => ?_) (fun c1 => ?_)
    · refine lv_iload_n hx hb dL_law_199 rfl (lv_at hl 3 rfl) ?_
      refine va_forget (fun q hq => hS.2.2 q hq) ?_
      refine W.widen (k := 600104) (n := 7301314) (by omega) (by omega) ?_
      refine sv_top (y := 1) rfl ?_
      exact lw_ret hx hb hr hlocks dL_law_200
    · refine lv_iload_n hx hb dL_law_71 rfl (lv_at hl 3 rfl) ?_
      refine sn_if_eq (tgt := 199) hx hb dL_law_72 (by decide) (by decide) (fun q => absurd q (by decide)) (fun _ => ?_)
      refine lv_aload_n hx hb dL_law_75 rfl (lv_at hl 0 rfl) ?_
      refine lv_iconst (v := nI 3) hx hb dL_law_76 ci_3 ?_
      refine lv_iload hx hb dL_law_77 (lv_at hl 5 rfl) ?_
      refine lv_imul hx hb dL_law_79 ?_
      refine sv_top (y := nI (3 * kk)) (mul_n _ _) ?_
      refine lv_iconst (v := nI 1) hx hb dL_law_80 ci_1 ?_
      refine lv_iadd hx hb dL_law_81 ?_
      refine sv_top (y := nI (3 * kk + 1)) (nI_add _ _) ?_
      refine xcS (c_L_draw (k := 3 * kk + 1) (by omega) hL) ⟨hx, hb, hml, hown, hts⟩ (hX.kept (hS.2.1 sc hbl hbA)) gL_law_L_draw rfl hd_L_draw ⟨by omega, by omega⟩ rfl hl.1 rfl (Nat.le_of_ble_eq_true rfl) dL_law_82 ⟨by omega, by omega⟩ hS (fun locs hS => ?_)
      obtain ⟨ga, hgaz⟩ : ∃ z : Nat, z = drw xs L (3 * kk + 1) := ⟨_, rfl⟩
      have hga : ga < 2 ^ 31 := by rw [hgaz]; exact drw_lt _ _ _
      refine sv_top (y := nI ga) (by rw [hgaz]) ?_
      refine lv_istore (lv' := [(6, .int (nI ga)), (0, .ref sc), (1, .ref x), (2, .ref o9), (3, .int (nI 1)), (4, .int (nI sp)), (5, .int (nI kk))]) hx hb dL_law_85 hl (by decide) rfl (fun ls hl => ?_)
      refine lv_aload_n hx hb dL_law_87 rfl (lv_at hl 1 rfl) ?_
      refine lv_iconst (v := nI 3) hx hb dL_law_88 ci_3 ?_
      refine lv_iload hx hb dL_law_89 (lv_at hl 6 rfl) ?_
      refine lv_imul hx hb dL_law_91 ?_
      refine sv_top (y := nI (3 * kk)) (mul_n _ _) ?_
      refine lv_iconst (v := nI 2) hx hb dL_law_92 ci_2 ?_
      refine lv_iadd hx hb dL_law_93 ?_
      refine sv_top (y := nI (3 * kk + 2)) (nI_add _ _) ?_
      refine xcS (c_L_draw (k := 3 * kk + 2) (by omega) hL) ⟨hx, hb, hml, hown, hts⟩ (hX.kept (hS.2.1 sc hbl hbA)) gL_law_L_draw rfl hd_L_draw ⟨by omega, by omega⟩ rfl hl.1 rfl (Nat.le_of_ble_eq_true rfl) dL_law_94 ⟨by omega, by omega⟩ hS (fun locs hS => ?_)
      obtain ⟨gb, hgbz⟩ : ∃ z : Nat, z = drw xs L (3 * kk + 2) := ⟨_, rfl⟩
      have hgb : gb < 2 ^ 31 := by rw [hgbz]; exact drw_lt _ _ _
      refine sv_top (y := nI gb) (by rw [hgbz]) ?_
      refine lv_istore (lv' := [(7, .int (nI gb)), (6, .int (nI ga)), (0, .ref sc), (1, .ref x), (2, .ref o9), (3, .int (nI 1)), (4, .int (nI sp)), (5, .int (nI kk))]) hx hb dL_law_97 hl (by decide) rfl (fun ls hl => ?_)
      refine lv_aload_n hx hb dL_law_99 rfl (lv_at hl 3 rfl) ?_
      refine lv_aload_n hx hb dL_law_100 rfl (lv_at hl 4 rfl) ?_
      refine lv_aload_n hx hb dL_law_101 rfl (lv_at hl 2 rfl) ?_
      refine lv_iconst (v := nI 3) hx hb dL_law_102 ci_3 ?_
      refine lv_iload hx hb dL_law_103 (lv_at hl 7 rfl) ?_
      refine lv_imul hx hb dL_law_105 ?_
      refine sv_top (y := nI (3 * kk)) (mul_n _ _) ?_
      refine xcS (c_L_draw (k := 3 * kk) (by omega) hL) ⟨hx, hb, hml, hown, hts⟩ (hX.kept (hS.2.1 sc hbl hbA)) gL_law_L_draw rfl hd_L_draw ⟨by omega, by omega⟩ rfl hl.1 rfl (Nat.le_of_ble_eq_true rfl) dL_law_106 ⟨by omega, by omega⟩ hS (fun locs hS => ?_)
      refine lv_iload hx hb dL_law_109 (lv_at hl 1 rfl) ?_
      refine lv_iload hx hb dL_law_111 (lv_at hl 0 rfl) ?_
      refine mcS (c_L_step hP hD hap f19 hTI hLR (drw_lt _ _ _) hga hgb) ⟨hx, hb, hml, hown, hts⟩ hK gL_law_L_step rfl hd_L_step ⟨by omega, by omega⟩ rfl hl.1 rfl (Nat.le_of_ble_eq_true rfl) dL_law_113 ⟨by omega, by omega⟩ hS (fun rv ws3 H locs hq5 hP hD hS => ?_)
      obtain ⟨hr6, hLI, fr4⟩ := hq5
      obtain ⟨n, T, C, Hd, b, q, J, bg, pi, bu, tm, tl, K, f, hap, f19, hTI, hLR, hn1⟩ := hLI
      have hn6 : n ≤ 6 := hLR.2.1
      have hp64 := p2_64 hn6
      have hp2n : 2 ^ 1 ≤ 2 ^ n := Nat.pow_le_pow_right (by decide) hn1
      refine sv_top (y := nI 1) hr6 ?_
      refine lv_istore_n (lv' := [(3, .int (nI 1)), (7, .int (nI gb)), (6, .int (nI ga)), (0, .ref sc), (1, .ref x), (2, .ref o9), (4, .int (nI sp)), (5, .int (nI kk))]) hx hb dL_law_116 rfl hl (by decide) rfl (fun ls hl => ?_)
      refine lv_iconst (v := nI 1) hx hb dL_law_117 ci_1 ?_
      refine lv_aload_n hx hb dL_law_118 rfl (lv_at hl 5 rfl) ?_
      refine lv_bipush (v := nI 56) hx hb dL_law_119 bi_56 ?_
      refine sv_iald hx hb hK hP 19 f19 (j := 56) (by omega) (by decide) dL_law_121 ?_
      refine W.eq (g2 := F0 m 122 ls (.int (nI (f 56)) :: [.int (nI 1)])) rfl ?_
      refine sv_top (y := nI n) (by rw [hTI.2.2.1]) ?_
      refine lv_ishl hx hb dL_law_122 ?_
      refine sv_top (y := nI (2 ^ n)) (sh_l1 (by omega)) ?_
      refine lv_iconst (v := nI 1) hx hb dL_law_123 ci_1 ?_
      refine lv_isub hx hb dL_law_124 ?_
      refine sv_top (y := nI ((2 ^ n) - 1)) (pk_sub Nat.one_le_two_pow) ?_
      refine lv_istore (lv' := [(8, .int (nI ((2 ^ n) - 1))), (3, .int (nI 1)), (7, .int (nI gb)), (6, .int (nI ga)), (0, .ref sc), (1, .ref x), (2, .ref o9), (4, .int (nI sp)), (5, .int (nI kk))]) hx hb dL_law_125 hl (by decide) rfl (fun ls hl => ?_)
      refine lv_iload_n hx hb dL_law_127 rfl (lv_at hl 1 rfl) ?_
      refine sn_if_eq (tgt := 191) hx hb dL_law_128 (by decide) (by decide) (fun q => absurd q (by decide)) (fun _ => ?_)
      refine lv_aload_n hx hb dL_law_131 rfl (lv_at hl 5 rfl) ?_
      refine lv_aload_n hx hb dL_law_132 rfl (lv_at hl 6 rfl) ?_
      refine lv_iload hx hb dL_law_133 (lv_at hl 0 rfl) ?_
      refine mcS (c_L_isSet hP hD hap f19 hTI hLR (by omega) (by omega)) ⟨hx, hb, hml, hown, hts⟩ hK gL_law_L_isSet rfl hd_L_isSet ⟨by omega, by omega⟩ rfl hl.1 rfl (Nat.le_of_ble_eq_true rfl) dL_law_135 ⟨by omega, by omega⟩ hS (fun rv ws8 H locs hq10 hP hD hS => ?_)
      obtain ⟨hr11, hap, fr9⟩ := hq10
      replace f19 := (fr9 19 (by decide)).trans f19
      refine sv_top (y := nI 1) hr11 ?_
      refine sn_if_eq (tgt := 191) hx hb dL_law_138 (by decide) (by decide) (fun q => absurd q (by decide)) (fun _ => ?_)
      refine lv_aload_n hx hb dL_law_141 rfl (lv_at hl 5 rfl) ?_
      refine lv_aload_n hx hb dL_law_142 rfl (lv_at hl 6 rfl) ?_
      refine lv_iconst (v := nI 1) hx hb dL_law_143 ci_1 ?_
      refine lv_iload hx hb dL_law_144 (lv_at hl 2 rfl) ?_
      refine lv_iload hx hb dL_law_146 (lv_at hl 0 rfl) ?_
      refine sn_irem hx hb hgb (by omega) (by omega) dL_law_148 ?_
      refine lv_iadd hx hb dL_law_149 ?_
      refine sv_top (y := nI (1 + (gb % ((2 ^ n) - 1)))) (nI_add _ _) ?_
      refine mcS (c_L_isSet hP hD hap f19 hTI hLR (by omega) (by have := Nat.mod_lt gb (show 2 ^ n - 1 > 0 by omega); omega)) ⟨hx, hb, hml, hown, hts⟩ hK gL_law_L_isSet rfl hd_L_isSet ⟨by omega, by omega⟩ rfl hl.1 rfl (Nat.le_of_ble_eq_true rfl) dL_law_150 ⟨by omega, by omega⟩ hS (fun rv ws13 H locs hq15 hP hD hS => ?_)
      obtain ⟨hr16, hap, fr14⟩ := hq15
      replace f19 := (fr14 19 (by decide)).trans f19
      refine sv_top (y := nI 1) hr16 ?_
      refine sn_if_eq (tgt := 191) hx hb dL_law_153 (by decide) (by decide) (fun q => absurd q (by decide)) (fun _ => ?_)
      refine lv_iload hx hb dL_law_156 (lv_at hl 8 rfl) ?_
      refine lv_iconst (v := nI 4) hx hb dL_law_158 ci_4 ?_
      refine sn_irem hx hb (by omega) (by decide) (by decide) dL_law_159 ?_
      refine lv_iconst (v := nI 3) hx hb dL_law_160 ci_3 ?_
      refine sn_icmp_lt (tgt := 187) hx hb dL_law_161 (by decide) (Nat.lt_trans (Nat.mod_lt _ (by decide : 4 > 0)) (by decide)) (by decide) (fun c18 => ?_) (fun c18 => ?_)
      · refine lv_iconst (v := nI 1) hx hb dL_law_187 ci_1 ?_
        refine lv_goto (tgt := 192) hx hb dL_law_188 (by decide) ?_
        refine lv_istore_n (lv' := [(3, .int (nI 1)), (8, .int (nI ((2 ^ n) - 1))), (7, .int (nI gb)), (6, .int (nI ga)), (0, .ref sc), (1, .ref x), (2, .ref o9), (4, .int (nI sp)), (5, .int (nI kk))]) hx hb dL_law_192 rfl hl (by decide) rfl (fun ls hl => ?_)
        refine lv_iinc (v := nI (kk + 1)) (lv' := [(5, .int (nI (kk + 1))), (3, .int (nI 1)), (8, .int (nI ((2 ^ n) - 1))), (7, .int (nI gb)), (6, .int (nI ga)), (0, .ref sc), (1, .ref x), (2, .ref o9), (4, .int (nI sp))]) hx hb dL_law_193 hl (k := 8) rfl (nI_1 _) (by decide) rfl (fun ls hl => ?_)
        refine lv_goto (tgt := 64) hx hb dL_law_196 (by decide) ?_
        exact ih (kk + 1) _ H locs _ _ ls (by omega) (by omega) (by omega) (by omega) ⟨_, _, _, _, _, _, _, _, _, _, _, _, _, _, hap, f19, hTI, hLR, Nat.zero_le _⟩ hP hD hS (lv_sub hl [5, 6, 7, 1, 8, 0] rfl)
      · refine lv_aload_n hx hb dL_law_164 rfl (lv_at hl 5 rfl) ?_
        refine lv_aload_n hx hb dL_law_165 rfl (lv_at hl 6 rfl) ?_
        refine lv_iload hx hb dL_law_166 (lv_at hl 3 rfl) ?_
        refine lv_bipush (v := nI 6) hx hb dL_law_168 bi_6 ?_
        refine sn_irem hx hb hga (by decide) (by decide) dL_law_170 ?_
        refine mcS (c_L_areMoves hP hD hap f19 hTI hLR (Nat.mod_lt _ (by decide))) ⟨hx, hb, hml, hown, hts⟩ hK gL_law_L_areMoves rfl hd_L_areMoves ⟨by omega, by omega⟩ rfl hl.1 rfl (Nat.le_of_ble_eq_true rfl) dL_law_171 ⟨by omega, by omega⟩ hS (fun rv ws19 H locs hq21 hP hD hS => ?_)
        obtain ⟨hr22, hap, fr20⟩ := hq21
        replace f19 := (fr20 19 (by decide)).trans f19
        refine sv_top (y := nI 1) hr22 ?_
        refine sn_if_eq (tgt := 191) hx hb dL_law_174 (by decide) (by decide) (fun q => absurd q (by decide)) (fun _ => ?_)
        refine lv_aload_n hx hb dL_law_177 rfl (lv_at hl 5 rfl) ?_
        refine lv_aload_n hx hb dL_law_178 rfl (lv_at hl 6 rfl) ?_
        refine lv_iload hx hb dL_law_179 (lv_at hl 2 rfl) ?_
        refine mcS (c_L_areOrders hP hD hap f19 hTI hLR hgb hn1) ⟨hx, hb, hml, hown, hts⟩ hK gL_law_L_areOrders rfl hd_L_areOrders ⟨by omega, by omega⟩ rfl hl.1 rfl (Nat.le_of_ble_eq_true rfl) dL_law_181 ⟨by omega, by omega⟩ hS (fun rv ws24 H locs hq26 hP hD hS => ?_)
        obtain ⟨hr27, ⟨J1, bg1, pi1, bu1, tm1, tl1, K1, hap, hJ1, hK1⟩, fr25⟩ := hq26
        replace f19 := (fr25 19 (by decide)).trans f19
        refine sv_top (y := nI 1) hr27 ?_
        refine sn_if_eq (tgt := 191) hx hb dL_law_184 (by decide) (by decide) (fun q => absurd q (by decide)) (fun _ => ?_)
        refine lv_iconst (v := nI 1) hx hb dL_law_187 ci_1 ?_
        refine lv_goto (tgt := 192) hx hb dL_law_188 (by decide) ?_
        refine lv_istore_n (lv' := [(3, .int (nI 1)), (8, .int (nI ((2 ^ n) - 1))), (7, .int (nI gb)), (6, .int (nI ga)), (0, .ref sc), (1, .ref x), (2, .ref o9), (4, .int (nI sp)), (5, .int (nI kk))]) hx hb dL_law_192 rfl hl (by decide) rfl (fun ls hl => ?_)
        refine lv_iinc (v := nI (kk + 1)) (lv' := [(5, .int (nI (kk + 1))), (3, .int (nI 1)), (8, .int (nI ((2 ^ n) - 1))), (7, .int (nI gb)), (6, .int (nI ga)), (0, .ref sc), (1, .ref x), (2, .ref o9), (4, .int (nI sp))]) hx hb dL_law_193 hl (k := 8) rfl (nI_1 _) (by decide) rfl (fun ls hl => ?_)
        refine lv_goto (tgt := 64) hx hb dL_law_196 (by decide) ?_
        exact ih (kk + 1) _ H locs _ _ ls (by omega) (by omega) (by omega) (by omega) ⟨_, _, _, _, _, _, _, _, _, _, _, _, _, _, hap, f19, hTI, ⟨hLR.1, hLR.2.1, hLR.2.2.1, hJ1, hK1⟩, Nat.zero_le _⟩ hP hD hS (lv_sub hl [5, 6, 7, 1, 8, 0] rfl)
