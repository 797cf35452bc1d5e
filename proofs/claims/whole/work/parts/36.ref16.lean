/-! THE REFERENCE: image, undo -/
def w_im (I : Nat → Nat → Int32) : Nat → Nat → Int32 := (v_to (v_to (v_to (v_to (v_to (v_to (v_to (v_to (v_to (v_u (v_u (v_u (v_u (v_u (v_u I 55 40 (nI 1)) 55 41 (I 55 9)) 55 42 (I 55 0)) 55 43 (I 55 1)) 55 44 (I 55 34)) 55 45 (I 55 35)) 77 (fun k => I 56 k) 7) 78 (fun k => I 57 k) 7) 79 (fun k => I 58 k) 7) 81 (fun k => I 60 k) 7) 80 (fun k => I 59 k) 28) 82 (fun k => I 73 k) 6) 85 (fun k => vp_nar .boolean (I 76 k)) 6) 83 (fun k => I 74 k) 12) 84 (fun k => I 75 k) 12)
def w_un (I : Nat → Nat → Int32) : Nat → Nat → Int32 := (v_to (v_to (v_to (v_to (v_to (v_to (v_to (v_to (v_to (v_u (v_u (v_u (v_u (v_u I 55 9 (I 55 41)) 55 0 (I 55 42)) 55 1 (I 55 43)) 55 34 (I 55 44)) 55 35 (I 55 45)) 56 (fun k => I 77 k) 7) 57 (fun k => I 78 k) 7) 58 (fun k => I 79 k) 7) 60 (fun k => I 81 k) 7) 59 (fun k => I 80 k) 28) 73 (fun k => I 82 k) 6) 76 (fun k => vp_nar .boolean (I 85 k)) 6) 74 (fun k => I 83 k) 12) 75 (fun k => I 84 k) 12)
abbrev rm_X12_image : Room := { frames := 0, cells := 0, slots := 0, locals := 0 }
set_option maxRecDepth 20000 in
theorem c_X12_image (G : v_G) (l : Launch) {K : Nat × v_TY} {I : Nat → Nat → Int32} {J : Nat → Nat → Int64} {R : Nat → Nat → Option Nat} (hL : Lay K R) : v_M G l yX12_image cX12_image 2 (some .int) rm_X12_image [.ref 55] (K, I, J, R) (v_Qi G (fun (x : Int32) (M' : v_MM) => x = I 55 0 ∧ M' = (K, w_im I, J, R))) := by
  refine v_of [some (.ref 55), none] (by decide) (Nat.le_of_ble_eq_true rfl) (Nat.le_of_ble_eq_true rfl) rfl ?_
  have lp3 : ∀ i, i ≤ 12 → v_V G l yX12_image cX12_image 2 (some .int) rm_X12_image (v_Qi G (fun (x : Int32) (M' : v_MM) => x = I 55 0 ∧ M' = (K, w_im I, J, R))) 0 0 173 [some (.ref 55), some (.int (nI i))] [] (K, (v_to (v_to (v_to (v_to (v_to (v_to (v_to (v_to (v_to (v_u (v_u (v_u (v_u (v_u (v_u I 55 40 (nI 1)) 55 41 (I 55 9)) 55 42 (I 55 0)) 55 43 (I 55 1)) 55 44 (I 55 34)) 55 45 (I 55 35)) 77 (fun k => I 56 k) 7) 78 (fun k => I 57 k) 7) 79 (fun k => I 58 k) 7) 81 (fun k => I 60 k) 7) 80 (fun k => I 59 k) 28) 82 (fun k => I 73 k) 6) 85 (fun k => vp_nar .boolean (I 76 k)) 6) 83 (fun k => I 74 k) i) 84 (fun k => I 75 k) i), J, R) := by
    refine v_down 12 (fun i hi ih => ?_)
    refine v_iload_n (pc := 173) dX12_image_173 rfl rfl ?_
    refine v_bipush (pc := 174) (v := nI 12) dX12_image_174 (by decide) ?_
    refine v_icmp_geN (pc := 176) (tgt := 209) ⟨by omega, by omega⟩ dX12_image_176 (by decide) (fun c176 => ?_) (fun c176 => ?_)
    · refine v_aload_n (pc := 209) dX12_image_209 rfl rfl ?_
      refine v_getI (pc := 210) fg_X12_7_12 dX12_image_210 (li_55 hL) ?_
      exact v_iret (pc := 213) dX12_image_213 rfl rfl (Nat.le_of_ble_eq_true rfl) (Nat.le_of_ble_eq_true rfl) ⟨by simp [v_u, v_to], by rw [show i = 12 by omega]; rfl⟩
    · refine v_aload_n (pc := 179) dX12_image_179 rfl rfl ?_
      refine v_getH (pc := 180) fg_X12_169_12 dX12_image_180 (li_55 hL) (lr_55_52 hL) ?_
      refine v_iload_n (pc := 183) dX12_image_183 rfl rfl ?_
      refine v_aload_n (pc := 184) dX12_image_184 rfl rfl ?_
      refine v_getH (pc := 185) fg_X12_123_12 dX12_image_185 (li_55 hL) (lr_55_37 hL) ?_
      refine v_iload_n (pc := 188) dX12_image_188 rfl rfl ?_
      refine v_ialoadN (pc := 189) dX12_image_189 (li_74 hL) ⟨by omega, by omega⟩ (show (_ : Int32) = I 74 i by simp [v_u, v_to]) ?_
      refine v_iastoreN (pc := 190) dX12_image_190 (li_83 hL) ⟨by omega, by omega⟩ ?_
      refine v_aload_n (pc := 191) dX12_image_191 rfl rfl ?_
      refine v_getH (pc := 192) fg_X12_172_12 dX12_image_192 (li_55 hL) (lr_55_53 hL) ?_
      refine v_iload_n (pc := 195) dX12_image_195 rfl rfl ?_
      refine v_aload_n (pc := 196) dX12_image_196 rfl rfl ?_
      refine v_getH (pc := 197) fg_X12_126_12 dX12_image_197 (li_55 hL) (lr_55_38 hL) ?_
      refine v_iload_n (pc := 200) dX12_image_200 rfl rfl ?_
      refine v_ialoadN (pc := 201) dX12_image_201 (li_75 hL) ⟨by omega, by omega⟩ (show (_ : Int32) = I 75 i by simp [v_u, v_to]) ?_
      refine v_iastoreN (pc := 202) dX12_image_202 (li_84 hL) ⟨by omega, by omega⟩ ?_
      refine v_iincN (pc := 203) (b := 1) dX12_image_203 rfl (by decide) (by decide) rfl ?_
      refine v_goto (pc := 206) (tgt := 173) dX12_image_206 (by decide) ?_
      refine v_mem ?_ (ih (i + 1) (by omega) (by omega))
      congr 2
      funext a z
      simp only [v_u, v_to]
      by_cases hz : z = i
      · subst hz; simp
      · have h3 : (z < i + 1) = (z < i) := propext ⟨fun q => by omega, fun q => by omega⟩
        simp [hz, h3]
  have lp2 : ∀ i, i ≤ 6 → v_V G l yX12_image cX12_image 2 (some .int) rm_X12_image (v_Qi G (fun (x : Int32) (M' : v_MM) => x = I 55 0 ∧ M' = (K, w_im I, J, R))) 0 0 135 [some (.ref 55), some (.int (nI i))] [] (K, (v_to (v_to (v_to (v_to (v_to (v_to (v_to (v_u (v_u (v_u (v_u (v_u (v_u I 55 40 (nI 1)) 55 41 (I 55 9)) 55 42 (I 55 0)) 55 43 (I 55 1)) 55 44 (I 55 34)) 55 45 (I 55 35)) 77 (fun k => I 56 k) 7) 78 (fun k => I 57 k) 7) 79 (fun k => I 58 k) 7) 81 (fun k => I 60 k) 7) 80 (fun k => I 59 k) 28) 82 (fun k => I 73 k) i) 85 (fun k => vp_nar .boolean (I 76 k)) i), J, R) := by
    refine v_down 6 (fun i hi ih => ?_)
    refine v_iload_n (pc := 135) dX12_image_135 rfl rfl ?_
    refine v_bipush (pc := 136) (v := nI 6) dX12_image_136 (by decide) ?_
    refine v_icmp_geN (pc := 138) (tgt := 171) ⟨by omega, by omega⟩ dX12_image_138 (by decide) (fun c138 => ?_) (fun c138 => ?_)
    · refine v_iconst (pc := 171) (v := nI 0) dX12_image_171 (by decide) ?_
      refine v_istore_n (pc := 172) dX12_image_172 rfl (by decide) rfl ?_
      have e : i = 6 := by omega
      subst e
      refine v_mem ?_ (lp3 0 (by omega))
      congr 2
      funext a z
      simp [v_to]
    · refine v_aload_n (pc := 141) dX12_image_141 rfl rfl ?_
      refine v_getH (pc := 142) fg_X12_166_12 dX12_image_142 (li_55 hL) (lr_55_51 hL) ?_
      refine v_iload_n (pc := 145) dX12_image_145 rfl rfl ?_
      refine v_aload_n (pc := 146) dX12_image_146 rfl rfl ?_
      refine v_getH (pc := 147) fg_X12_120_12 dX12_image_147 (li_55 hL) (lr_55_36 hL) ?_
      refine v_iload_n (pc := 150) dX12_image_150 rfl rfl ?_
      refine v_ialoadN (pc := 151) dX12_image_151 (li_73 hL) ⟨by omega, by omega⟩ (show (_ : Int32) = I 73 i by simp [v_u, v_to]) ?_
      refine v_iastoreN (pc := 152) dX12_image_152 (li_82 hL) ⟨by omega, by omega⟩ ?_
      refine v_aload_n (pc := 153) dX12_image_153 rfl rfl ?_
      refine v_getH (pc := 154) fg_X12_175_12 dX12_image_154 (li_55 hL) (lr_55_54 hL) ?_
      refine v_iload_n (pc := 157) dX12_image_157 rfl rfl ?_
      refine v_aload_n (pc := 158) dX12_image_158 rfl rfl ?_
      refine v_getH (pc := 159) fg_X12_129_12 dX12_image_159 (li_55 hL) (lr_55_39 hL) ?_
      refine v_iload_n (pc := 162) dX12_image_162 rfl rfl ?_
      refine v_zaloadN (pc := 163) dX12_image_163 (li_76 hL) ⟨by omega, by omega⟩ (show (_ : Int32) = I 76 i by simp [v_u, v_to]) ?_
      refine v_zastoreN (pc := 164) dX12_image_164 (li_85 hL) ⟨by omega, by omega⟩ rfl ?_
      refine v_iincN (pc := 165) (b := 1) dX12_image_165 rfl (by decide) (by decide) rfl ?_
      refine v_goto (pc := 168) (tgt := 135) dX12_image_168 (by decide) ?_
      refine v_mem ?_ (ih (i + 1) (by omega) (by omega))
      congr 2
      funext a z
      simp only [v_u, v_to]
      by_cases hz : z = i
      · subst hz; simp
      · have h3 : (z < i + 1) = (z < i) := propext ⟨fun q => by omega, fun q => by omega⟩
        simp [hz, h3]
  have lp1 : ∀ i, i ≤ 28 → v_V G l yX12_image cX12_image 2 (some .int) rm_X12_image (v_Qi G (fun (x : Int32) (M' : v_MM) => x = I 55 0 ∧ M' = (K, w_im I, J, R))) 0 0 109 [some (.ref 55), some (.int (nI i))] [] (K, (v_to (v_to (v_to (v_to (v_to (v_u (v_u (v_u (v_u (v_u (v_u I 55 40 (nI 1)) 55 41 (I 55 9)) 55 42 (I 55 0)) 55 43 (I 55 1)) 55 44 (I 55 34)) 55 45 (I 55 35)) 77 (fun k => I 56 k) 7) 78 (fun k => I 57 k) 7) 79 (fun k => I 58 k) 7) 81 (fun k => I 60 k) 7) 80 (fun k => I 59 k) i), J, R) := by
    refine v_down 28 (fun i hi ih => ?_)
    refine v_iload_n (pc := 109) dX12_image_109 rfl rfl ?_
    refine v_bipush (pc := 110) (v := nI 28) dX12_image_110 (by decide) ?_
    refine v_icmp_geN (pc := 112) (tgt := 133) ⟨by omega, by omega⟩ dX12_image_112 (by decide) (fun c112 => ?_) (fun c112 => ?_)
    · refine v_iconst (pc := 133) (v := nI 0) dX12_image_133 (by decide) ?_
      refine v_istore_n (pc := 134) dX12_image_134 rfl (by decide) rfl ?_
      have e : i = 28 := by omega
      subst e
      refine v_mem ?_ (lp2 0 (by omega))
      congr 2
      funext a z
      simp [v_to]
    · refine v_aload_n (pc := 115) dX12_image_115 rfl rfl ?_
      refine v_getH (pc := 116) fg_X12_160_12 dX12_image_116 (li_55 hL) (lr_55_49 hL) ?_
      refine v_iload_n (pc := 119) dX12_image_119 rfl rfl ?_
      refine v_aload_n (pc := 120) dX12_image_120 rfl rfl ?_
      refine v_getH (pc := 121) fg_X12_29_12 dX12_image_121 (li_55 hL) (lr_55_6 hL) ?_
      refine v_iload_n (pc := 124) dX12_image_124 rfl rfl ?_
      refine v_ialoadN (pc := 125) dX12_image_125 (li_59 hL) ⟨by omega, by omega⟩ (show (_ : Int32) = I 59 i by simp [v_u, v_to]) ?_
      refine v_iastoreN (pc := 126) dX12_image_126 (li_80 hL) ⟨by omega, by omega⟩ ?_
      refine v_iincN (pc := 127) (b := 1) dX12_image_127 rfl (by decide) (by decide) rfl ?_
      refine v_goto (pc := 130) (tgt := 109) dX12_image_130 (by decide) ?_
      refine v_mem ?_ (ih (i + 1) (by omega) (by omega))
      congr 2
      funext a z
      simp only [v_u, v_to]
      by_cases hz : z = i
      · subst hz; simp
      · have h3 : (z < i + 1) = (z < i) := propext ⟨fun q => by omega, fun q => by omega⟩
        simp [hz, h3]
  have lp0 : ∀ i, i ≤ 7 → v_V G l yX12_image cX12_image 2 (some .int) rm_X12_image (v_Qi G (fun (x : Int32) (M' : v_MM) => x = I 55 0 ∧ M' = (K, w_im I, J, R))) 0 0 47 [some (.ref 55), some (.int (nI i))] [] (K, (v_to (v_to (v_to (v_to (v_u (v_u (v_u (v_u (v_u (v_u I 55 40 (nI 1)) 55 41 (I 55 9)) 55 42 (I 55 0)) 55 43 (I 55 1)) 55 44 (I 55 34)) 55 45 (I 55 35)) 77 (fun k => I 56 k) i) 78 (fun k => I 57 k) i) 79 (fun k => I 58 k) i) 81 (fun k => I 60 k) i), J, R) := by
    refine v_down 7 (fun i hi ih => ?_)
    refine v_iload_n (pc := 47) dX12_image_47 rfl rfl ?_
    refine v_bipush (pc := 48) (v := nI 7) dX12_image_48 (by decide) ?_
    refine v_icmp_geN (pc := 50) (tgt := 107) ⟨by omega, by omega⟩ dX12_image_50 (by decide) (fun c50 => ?_) (fun c50 => ?_)
    · refine v_iconst (pc := 107) (v := nI 0) dX12_image_107 (by decide) ?_
      refine v_istore_n (pc := 108) dX12_image_108 rfl (by decide) rfl ?_
      have e : i = 7 := by omega
      subst e
      refine v_mem ?_ (lp1 0 (by omega))
      congr 2
      funext a z
      simp [v_to]
    · refine v_aload_n (pc := 53) dX12_image_53 rfl rfl ?_
      refine v_getH (pc := 54) fg_X12_151_12 dX12_image_54 (li_55 hL) (lr_55_46 hL) ?_
      refine v_iload_n (pc := 57) dX12_image_57 rfl rfl ?_
      refine v_aload_n (pc := 58) dX12_image_58 rfl rfl ?_
      refine v_getH (pc := 59) fg_X12_19_12 dX12_image_59 (li_55 hL) (lr_55_3 hL) ?_
      refine v_iload_n (pc := 62) dX12_image_62 rfl rfl ?_
      refine v_ialoadN (pc := 63) dX12_image_63 (li_56 hL) ⟨by omega, by omega⟩ (show (_ : Int32) = I 56 i by simp [v_u, v_to]) ?_
      refine v_iastoreN (pc := 64) dX12_image_64 (li_77 hL) ⟨by omega, by omega⟩ ?_
      refine v_aload_n (pc := 65) dX12_image_65 rfl rfl ?_
      refine v_getH (pc := 66) fg_X12_154_12 dX12_image_66 (li_55 hL) (lr_55_47 hL) ?_
      refine v_iload_n (pc := 69) dX12_image_69 rfl rfl ?_
      refine v_aload_n (pc := 70) dX12_image_70 rfl rfl ?_
      refine v_getH (pc := 71) fg_X12_23_12 dX12_image_71 (li_55 hL) (lr_55_4 hL) ?_
      refine v_iload_n (pc := 74) dX12_image_74 rfl rfl ?_
      refine v_ialoadN (pc := 75) dX12_image_75 (li_57 hL) ⟨by omega, by omega⟩ (show (_ : Int32) = I 57 i by simp [v_u, v_to]) ?_
      refine v_iastoreN (pc := 76) dX12_image_76 (li_78 hL) ⟨by omega, by omega⟩ ?_
      refine v_aload_n (pc := 77) dX12_image_77 rfl rfl ?_
      refine v_getH (pc := 78) fg_X12_157_12 dX12_image_78 (li_55 hL) (lr_55_48 hL) ?_
      refine v_iload_n (pc := 81) dX12_image_81 rfl rfl ?_
      refine v_aload_n (pc := 82) dX12_image_82 rfl rfl ?_
      refine v_getH (pc := 83) fg_X12_26_12 dX12_image_83 (li_55 hL) (lr_55_5 hL) ?_
      refine v_iload_n (pc := 86) dX12_image_86 rfl rfl ?_
      refine v_ialoadN (pc := 87) dX12_image_87 (li_58 hL) ⟨by omega, by omega⟩ (show (_ : Int32) = I 58 i by simp [v_u, v_to]) ?_
      refine v_iastoreN (pc := 88) dX12_image_88 (li_79 hL) ⟨by omega, by omega⟩ ?_
      refine v_aload_n (pc := 89) dX12_image_89 rfl rfl ?_
      refine v_getH (pc := 90) fg_X12_163_12 dX12_image_90 (li_55 hL) (lr_55_50 hL) ?_
      refine v_iload_n (pc := 93) dX12_image_93 rfl rfl ?_
      refine v_aload_n (pc := 94) dX12_image_94 rfl rfl ?_
      refine v_getH (pc := 95) fg_X12_32_12 dX12_image_95 (li_55 hL) (lr_55_7 hL) ?_
      refine v_iload_n (pc := 98) dX12_image_98 rfl rfl ?_
      refine v_ialoadN (pc := 99) dX12_image_99 (li_60 hL) ⟨by omega, by omega⟩ (show (_ : Int32) = I 60 i by simp [v_u, v_to]) ?_
      refine v_iastoreN (pc := 100) dX12_image_100 (li_81 hL) ⟨by omega, by omega⟩ ?_
      refine v_iincN (pc := 101) (b := 1) dX12_image_101 rfl (by decide) (by decide) rfl ?_
      refine v_goto (pc := 104) (tgt := 47) dX12_image_104 (by decide) ?_
      refine v_mem ?_ (ih (i + 1) (by omega) (by omega))
      congr 2
      funext a z
      simp only [v_u, v_to]
      by_cases hz : z = i
      · subst hz; simp
      · have h3 : (z < i + 1) = (z < i) := propext ⟨fun q => by omega, fun q => by omega⟩
        simp [hz, h3]
  refine v_aload_n (pc := 0) dX12_image_0 rfl rfl ?_
  refine v_iconst (pc := 1) (v := nI 1) dX12_image_1 (by decide) ?_
  refine v_putI (pc := 2) pg_X12_132_12 (fun h => by cases h) dX12_image_2 (li_55 hL) rfl rfl ?_
  refine v_aload_n (pc := 5) dX12_image_5 rfl rfl ?_
  refine v_aload_n (pc := 6) dX12_image_6 rfl rfl ?_
  refine v_getI (pc := 7) fg_X12_38_12 dX12_image_7 (li_55 hL) ?_
  refine v_putI (pc := 10) pg_X12_136_12 (fun h => by cases h) dX12_image_10 (li_55 hL) rfl rfl ?_
  refine v_aload_n (pc := 13) dX12_image_13 rfl rfl ?_
  refine v_aload_n (pc := 14) dX12_image_14 rfl rfl ?_
  refine v_getI (pc := 15) fg_X12_7_12 dX12_image_15 (li_55 hL) ?_
  refine v_putI (pc := 18) pg_X12_139_12 (fun h => by cases h) dX12_image_18 (li_55 hL) rfl rfl ?_
  refine v_aload_n (pc := 21) dX12_image_21 rfl rfl ?_
  refine v_aload_n (pc := 22) dX12_image_22 rfl rfl ?_
  refine v_getI (pc := 23) fg_X12_13_12 dX12_image_23 (li_55 hL) ?_
  refine v_putI (pc := 26) pg_X12_142_12 (fun h => by cases h) dX12_image_26 (li_55 hL) rfl rfl ?_
  refine v_aload_n (pc := 29) dX12_image_29 rfl rfl ?_
  refine v_aload_n (pc := 30) dX12_image_30 rfl rfl ?_
  refine v_getI (pc := 31) fg_X12_114_12 dX12_image_31 (li_55 hL) ?_
  refine v_putI (pc := 34) pg_X12_145_12 (fun h => by cases h) dX12_image_34 (li_55 hL) rfl rfl ?_
  refine v_aload_n (pc := 37) dX12_image_37 rfl rfl ?_
  refine v_aload_n (pc := 38) dX12_image_38 rfl rfl ?_
  refine v_getI (pc := 39) fg_X12_117_12 dX12_image_39 (li_55 hL) ?_
  refine v_putI (pc := 42) pg_X12_148_12 (fun h => by cases h) dX12_image_42 (li_55 hL) rfl rfl ?_
  refine v_iconst (pc := 45) (v := nI 0) dX12_image_45 (by decide) ?_
  refine v_istore_n (pc := 46) dX12_image_46 rfl (by decide) rfl ?_
  refine v_mem ?_ (lp0 0 (by omega))
  congr 2
  funext a z
  simp [v_to, v_u]
abbrev rm_X12_undo : Room := { frames := 0, cells := 0, slots := 0, locals := 0 }
set_option maxRecDepth 20000 in
theorem c_X12_undo (G : v_G) (l : Launch) {K : Nat × v_TY} {I : Nat → Nat → Int32} {J : Nat → Nat → Int64} {R : Nat → Nat → Option Nat} (hL : Lay K R) : v_M G l yX12_undo cX12_undo 2 (some .int) rm_X12_undo [.ref 55] (K, I, J, R) (v_Qi G (fun (x : Int32) (M' : v_MM) => (I 55 40 = 0 ∧ x = -3 ∧ M' = (K, I, J, R)) ∨ (I 55 40 ≠ 0 ∧ x = I 55 42 ∧ M' = (K, w_un I, J, R)))) := by
  refine v_of [some (.ref 55), none] (by decide) (Nat.le_of_ble_eq_true rfl) (Nat.le_of_ble_eq_true rfl) rfl ?_
  have lp3 : ¬ I 55 40 = 0 → ∀ i, i ≤ 12 → v_V G l yX12_undo cX12_undo 2 (some .int) rm_X12_undo (v_Qi G (fun (x : Int32) (M' : v_MM) => (I 55 40 = 0 ∧ x = -3 ∧ M' = (K, I, J, R)) ∨ (I 55 40 ≠ 0 ∧ x = I 55 42 ∧ M' = (K, w_un I, J, R)))) 0 0 178 [some (.ref 55), some (.int (nI i))] [] (K, (v_to (v_to (v_to (v_to (v_to (v_to (v_to (v_to (v_to (v_u (v_u (v_u (v_u (v_u I 55 9 (I 55 41)) 55 0 (I 55 42)) 55 1 (I 55 43)) 55 34 (I 55 44)) 55 35 (I 55 45)) 56 (fun k => I 77 k) 7) 57 (fun k => I 78 k) 7) 58 (fun k => I 79 k) 7) 60 (fun k => I 81 k) 7) 59 (fun k => I 80 k) 28) 73 (fun k => I 82 k) 6) 76 (fun k => vp_nar .boolean (I 85 k)) 6) 74 (fun k => I 83 k) i) 75 (fun k => I 84 k) i), J, R) := by
    intro c4
    refine v_down 12 (fun i hi ih => ?_)
    refine v_iload_n (pc := 178) dX12_undo_178 rfl rfl ?_
    refine v_bipush (pc := 179) (v := nI 12) dX12_undo_179 (by decide) ?_
    refine v_icmp_geN (pc := 181) (tgt := 214) ⟨by omega, by omega⟩ dX12_undo_181 (by decide) (fun c181 => ?_) (fun c181 => ?_)
    · refine v_aload_n (pc := 214) dX12_undo_214 rfl rfl ?_
      refine v_getI (pc := 215) fg_X12_7_12 dX12_undo_215 (li_55 hL) ?_
      exact v_iret (pc := 218) dX12_undo_218 rfl rfl (Nat.le_of_ble_eq_true rfl) (Nat.le_of_ble_eq_true rfl) (Or.inr ⟨c4, by simp [v_u, v_to], by rw [show i = 12 by omega]; rfl⟩)
    · refine v_aload_n (pc := 184) dX12_undo_184 rfl rfl ?_
      refine v_getH (pc := 185) fg_X12_123_12 dX12_undo_185 (li_55 hL) (lr_55_37 hL) ?_
      refine v_iload_n (pc := 188) dX12_undo_188 rfl rfl ?_
      refine v_aload_n (pc := 189) dX12_undo_189 rfl rfl ?_
      refine v_getH (pc := 190) fg_X12_169_12 dX12_undo_190 (li_55 hL) (lr_55_52 hL) ?_
      refine v_iload_n (pc := 193) dX12_undo_193 rfl rfl ?_
      refine v_ialoadN (pc := 194) dX12_undo_194 (li_83 hL) ⟨by omega, by omega⟩ (show (_ : Int32) = I 83 i by simp [v_u, v_to]) ?_
      refine v_iastoreN (pc := 195) dX12_undo_195 (li_74 hL) ⟨by omega, by omega⟩ ?_
      refine v_aload_n (pc := 196) dX12_undo_196 rfl rfl ?_
      refine v_getH (pc := 197) fg_X12_126_12 dX12_undo_197 (li_55 hL) (lr_55_38 hL) ?_
      refine v_iload_n (pc := 200) dX12_undo_200 rfl rfl ?_
      refine v_aload_n (pc := 201) dX12_undo_201 rfl rfl ?_
      refine v_getH (pc := 202) fg_X12_172_12 dX12_undo_202 (li_55 hL) (lr_55_53 hL) ?_
      refine v_iload_n (pc := 205) dX12_undo_205 rfl rfl ?_
      refine v_ialoadN (pc := 206) dX12_undo_206 (li_84 hL) ⟨by omega, by omega⟩ (show (_ : Int32) = I 84 i by simp [v_u, v_to]) ?_
      refine v_iastoreN (pc := 207) dX12_undo_207 (li_75 hL) ⟨by omega, by omega⟩ ?_
      refine v_iincN (pc := 208) (b := 1) dX12_undo_208 rfl (by decide) (by decide) rfl ?_
      refine v_goto (pc := 211) (tgt := 178) dX12_undo_211 (by decide) ?_
      refine v_mem ?_ (ih (i + 1) (by omega) (by omega))
      congr 2
      funext a z
      simp only [v_u, v_to]
      by_cases hz : z = i
      · subst hz; simp
      · have h3 : (z < i + 1) = (z < i) := propext ⟨fun q => by omega, fun q => by omega⟩
        simp [hz, h3]
  have lp2 : ¬ I 55 40 = 0 → ∀ i, i ≤ 6 → v_V G l yX12_undo cX12_undo 2 (some .int) rm_X12_undo (v_Qi G (fun (x : Int32) (M' : v_MM) => (I 55 40 = 0 ∧ x = -3 ∧ M' = (K, I, J, R)) ∨ (I 55 40 ≠ 0 ∧ x = I 55 42 ∧ M' = (K, w_un I, J, R)))) 0 0 140 [some (.ref 55), some (.int (nI i))] [] (K, (v_to (v_to (v_to (v_to (v_to (v_to (v_to (v_u (v_u (v_u (v_u (v_u I 55 9 (I 55 41)) 55 0 (I 55 42)) 55 1 (I 55 43)) 55 34 (I 55 44)) 55 35 (I 55 45)) 56 (fun k => I 77 k) 7) 57 (fun k => I 78 k) 7) 58 (fun k => I 79 k) 7) 60 (fun k => I 81 k) 7) 59 (fun k => I 80 k) 28) 73 (fun k => I 82 k) i) 76 (fun k => vp_nar .boolean (I 85 k)) i), J, R) := by
    intro c4
    refine v_down 6 (fun i hi ih => ?_)
    refine v_iload_n (pc := 140) dX12_undo_140 rfl rfl ?_
    refine v_bipush (pc := 141) (v := nI 6) dX12_undo_141 (by decide) ?_
    refine v_icmp_geN (pc := 143) (tgt := 176) ⟨by omega, by omega⟩ dX12_undo_143 (by decide) (fun c143 => ?_) (fun c143 => ?_)
    · refine v_iconst (pc := 176) (v := nI 0) dX12_undo_176 (by decide) ?_
      refine v_istore_n (pc := 177) dX12_undo_177 rfl (by decide) rfl ?_
      have e : i = 6 := by omega
      subst e
      refine v_mem ?_ (lp3 c4 0 (by omega))
      congr 2
      funext a z
      simp [v_to]
    · refine v_aload_n (pc := 146) dX12_undo_146 rfl rfl ?_
      refine v_getH (pc := 147) fg_X12_120_12 dX12_undo_147 (li_55 hL) (lr_55_36 hL) ?_
      refine v_iload_n (pc := 150) dX12_undo_150 rfl rfl ?_
      refine v_aload_n (pc := 151) dX12_undo_151 rfl rfl ?_
      refine v_getH (pc := 152) fg_X12_166_12 dX12_undo_152 (li_55 hL) (lr_55_51 hL) ?_
      refine v_iload_n (pc := 155) dX12_undo_155 rfl rfl ?_
      refine v_ialoadN (pc := 156) dX12_undo_156 (li_82 hL) ⟨by omega, by omega⟩ (show (_ : Int32) = I 82 i by simp [v_u, v_to]) ?_
      refine v_iastoreN (pc := 157) dX12_undo_157 (li_73 hL) ⟨by omega, by omega⟩ ?_
      refine v_aload_n (pc := 158) dX12_undo_158 rfl rfl ?_
      refine v_getH (pc := 159) fg_X12_129_12 dX12_undo_159 (li_55 hL) (lr_55_39 hL) ?_
      refine v_iload_n (pc := 162) dX12_undo_162 rfl rfl ?_
      refine v_aload_n (pc := 163) dX12_undo_163 rfl rfl ?_
      refine v_getH (pc := 164) fg_X12_175_12 dX12_undo_164 (li_55 hL) (lr_55_54 hL) ?_
      refine v_iload_n (pc := 167) dX12_undo_167 rfl rfl ?_
      refine v_zaloadN (pc := 168) dX12_undo_168 (li_85 hL) ⟨by omega, by omega⟩ (show (_ : Int32) = I 85 i by simp [v_u, v_to]) ?_
      refine v_zastoreN (pc := 169) dX12_undo_169 (li_76 hL) ⟨by omega, by omega⟩ rfl ?_
      refine v_iincN (pc := 170) (b := 1) dX12_undo_170 rfl (by decide) (by decide) rfl ?_
      refine v_goto (pc := 173) (tgt := 140) dX12_undo_173 (by decide) ?_
      refine v_mem ?_ (ih (i + 1) (by omega) (by omega))
      congr 2
      funext a z
      simp only [v_u, v_to]
      by_cases hz : z = i
      · subst hz; simp
      · have h3 : (z < i + 1) = (z < i) := propext ⟨fun q => by omega, fun q => by omega⟩
        simp [hz, h3]
  have lp1 : ¬ I 55 40 = 0 → ∀ i, i ≤ 28 → v_V G l yX12_undo cX12_undo 2 (some .int) rm_X12_undo (v_Qi G (fun (x : Int32) (M' : v_MM) => (I 55 40 = 0 ∧ x = -3 ∧ M' = (K, I, J, R)) ∨ (I 55 40 ≠ 0 ∧ x = I 55 42 ∧ M' = (K, w_un I, J, R)))) 0 0 114 [some (.ref 55), some (.int (nI i))] [] (K, (v_to (v_to (v_to (v_to (v_to (v_u (v_u (v_u (v_u (v_u I 55 9 (I 55 41)) 55 0 (I 55 42)) 55 1 (I 55 43)) 55 34 (I 55 44)) 55 35 (I 55 45)) 56 (fun k => I 77 k) 7) 57 (fun k => I 78 k) 7) 58 (fun k => I 79 k) 7) 60 (fun k => I 81 k) 7) 59 (fun k => I 80 k) i), J, R) := by
    intro c4
    refine v_down 28 (fun i hi ih => ?_)
    refine v_iload_n (pc := 114) dX12_undo_114 rfl rfl ?_
    refine v_bipush (pc := 115) (v := nI 28) dX12_undo_115 (by decide) ?_
    refine v_icmp_geN (pc := 117) (tgt := 138) ⟨by omega, by omega⟩ dX12_undo_117 (by decide) (fun c117 => ?_) (fun c117 => ?_)
    · refine v_iconst (pc := 138) (v := nI 0) dX12_undo_138 (by decide) ?_
      refine v_istore_n (pc := 139) dX12_undo_139 rfl (by decide) rfl ?_
      have e : i = 28 := by omega
      subst e
      refine v_mem ?_ (lp2 c4 0 (by omega))
      congr 2
      funext a z
      simp [v_to]
    · refine v_aload_n (pc := 120) dX12_undo_120 rfl rfl ?_
      refine v_getH (pc := 121) fg_X12_29_12 dX12_undo_121 (li_55 hL) (lr_55_6 hL) ?_
      refine v_iload_n (pc := 124) dX12_undo_124 rfl rfl ?_
      refine v_aload_n (pc := 125) dX12_undo_125 rfl rfl ?_
      refine v_getH (pc := 126) fg_X12_160_12 dX12_undo_126 (li_55 hL) (lr_55_49 hL) ?_
      refine v_iload_n (pc := 129) dX12_undo_129 rfl rfl ?_
      refine v_ialoadN (pc := 130) dX12_undo_130 (li_80 hL) ⟨by omega, by omega⟩ (show (_ : Int32) = I 80 i by simp [v_u, v_to]) ?_
      refine v_iastoreN (pc := 131) dX12_undo_131 (li_59 hL) ⟨by omega, by omega⟩ ?_
      refine v_iincN (pc := 132) (b := 1) dX12_undo_132 rfl (by decide) (by decide) rfl ?_
      refine v_goto (pc := 135) (tgt := 114) dX12_undo_135 (by decide) ?_
      refine v_mem ?_ (ih (i + 1) (by omega) (by omega))
      congr 2
      funext a z
      simp only [v_u, v_to]
      by_cases hz : z = i
      · subst hz; simp
      · have h3 : (z < i + 1) = (z < i) := propext ⟨fun q => by omega, fun q => by omega⟩
        simp [hz, h3]
  have lp0 : ¬ I 55 40 = 0 → ∀ i, i ≤ 7 → v_V G l yX12_undo cX12_undo 2 (some .int) rm_X12_undo (v_Qi G (fun (x : Int32) (M' : v_MM) => (I 55 40 = 0 ∧ x = -3 ∧ M' = (K, I, J, R)) ∨ (I 55 40 ≠ 0 ∧ x = I 55 42 ∧ M' = (K, w_un I, J, R)))) 0 0 52 [some (.ref 55), some (.int (nI i))] [] (K, (v_to (v_to (v_to (v_to (v_u (v_u (v_u (v_u (v_u I 55 9 (I 55 41)) 55 0 (I 55 42)) 55 1 (I 55 43)) 55 34 (I 55 44)) 55 35 (I 55 45)) 56 (fun k => I 77 k) i) 57 (fun k => I 78 k) i) 58 (fun k => I 79 k) i) 60 (fun k => I 81 k) i), J, R) := by
    intro c4
    refine v_down 7 (fun i hi ih => ?_)
    refine v_iload_n (pc := 52) dX12_undo_52 rfl rfl ?_
    refine v_bipush (pc := 53) (v := nI 7) dX12_undo_53 (by decide) ?_
    refine v_icmp_geN (pc := 55) (tgt := 112) ⟨by omega, by omega⟩ dX12_undo_55 (by decide) (fun c55 => ?_) (fun c55 => ?_)
    · refine v_iconst (pc := 112) (v := nI 0) dX12_undo_112 (by decide) ?_
      refine v_istore_n (pc := 113) dX12_undo_113 rfl (by decide) rfl ?_
      have e : i = 7 := by omega
      subst e
      refine v_mem ?_ (lp1 c4 0 (by omega))
      congr 2
      funext a z
      simp [v_to]
    · refine v_aload_n (pc := 58) dX12_undo_58 rfl rfl ?_
      refine v_getH (pc := 59) fg_X12_19_12 dX12_undo_59 (li_55 hL) (lr_55_3 hL) ?_
      refine v_iload_n (pc := 62) dX12_undo_62 rfl rfl ?_
      refine v_aload_n (pc := 63) dX12_undo_63 rfl rfl ?_
      refine v_getH (pc := 64) fg_X12_151_12 dX12_undo_64 (li_55 hL) (lr_55_46 hL) ?_
      refine v_iload_n (pc := 67) dX12_undo_67 rfl rfl ?_
      refine v_ialoadN (pc := 68) dX12_undo_68 (li_77 hL) ⟨by omega, by omega⟩ (show (_ : Int32) = I 77 i by simp [v_u, v_to]) ?_
      refine v_iastoreN (pc := 69) dX12_undo_69 (li_56 hL) ⟨by omega, by omega⟩ ?_
      refine v_aload_n (pc := 70) dX12_undo_70 rfl rfl ?_
      refine v_getH (pc := 71) fg_X12_23_12 dX12_undo_71 (li_55 hL) (lr_55_4 hL) ?_
      refine v_iload_n (pc := 74) dX12_undo_74 rfl rfl ?_
      refine v_aload_n (pc := 75) dX12_undo_75 rfl rfl ?_
      refine v_getH (pc := 76) fg_X12_154_12 dX12_undo_76 (li_55 hL) (lr_55_47 hL) ?_
      refine v_iload_n (pc := 79) dX12_undo_79 rfl rfl ?_
      refine v_ialoadN (pc := 80) dX12_undo_80 (li_78 hL) ⟨by omega, by omega⟩ (show (_ : Int32) = I 78 i by simp [v_u, v_to]) ?_
      refine v_iastoreN (pc := 81) dX12_undo_81 (li_57 hL) ⟨by omega, by omega⟩ ?_
      refine v_aload_n (pc := 82) dX12_undo_82 rfl rfl ?_
      refine v_getH (pc := 83) fg_X12_26_12 dX12_undo_83 (li_55 hL) (lr_55_5 hL) ?_
      refine v_iload_n (pc := 86) dX12_undo_86 rfl rfl ?_
      refine v_aload_n (pc := 87) dX12_undo_87 rfl rfl ?_
      refine v_getH (pc := 88) fg_X12_157_12 dX12_undo_88 (li_55 hL) (lr_55_48 hL) ?_
      refine v_iload_n (pc := 91) dX12_undo_91 rfl rfl ?_
      refine v_ialoadN (pc := 92) dX12_undo_92 (li_79 hL) ⟨by omega, by omega⟩ (show (_ : Int32) = I 79 i by simp [v_u, v_to]) ?_
      refine v_iastoreN (pc := 93) dX12_undo_93 (li_58 hL) ⟨by omega, by omega⟩ ?_
      refine v_aload_n (pc := 94) dX12_undo_94 rfl rfl ?_
      refine v_getH (pc := 95) fg_X12_32_12 dX12_undo_95 (li_55 hL) (lr_55_7 hL) ?_
      refine v_iload_n (pc := 98) dX12_undo_98 rfl rfl ?_
      refine v_aload_n (pc := 99) dX12_undo_99 rfl rfl ?_
      refine v_getH (pc := 100) fg_X12_163_12 dX12_undo_100 (li_55 hL) (lr_55_50 hL) ?_
      refine v_iload_n (pc := 103) dX12_undo_103 rfl rfl ?_
      refine v_ialoadN (pc := 104) dX12_undo_104 (li_81 hL) ⟨by omega, by omega⟩ (show (_ : Int32) = I 81 i by simp [v_u, v_to]) ?_
      refine v_iastoreN (pc := 105) dX12_undo_105 (li_60 hL) ⟨by omega, by omega⟩ ?_
      refine v_iincN (pc := 106) (b := 1) dX12_undo_106 rfl (by decide) (by decide) rfl ?_
      refine v_goto (pc := 109) (tgt := 52) dX12_undo_109 (by decide) ?_
      refine v_mem ?_ (ih (i + 1) (by omega) (by omega))
      congr 2
      funext a z
      simp only [v_u, v_to]
      by_cases hz : z = i
      · subst hz; simp
      · have h3 : (z < i + 1) = (z < i) := propext ⟨fun q => by omega, fun q => by omega⟩
        simp [hz, h3]
  refine v_aload_n (pc := 0) dX12_undo_0 rfl rfl ?_
  refine v_getI (pc := 1) fg_X12_132_12 dX12_undo_1 (li_55 hL) ?_
  refine v_if_ne (pc := 4) (tgt := 10) dX12_undo_4 (by decide) (fun c4 => ?_) (fun c4 => ?_)
  · refine v_aload_n (pc := 10) dX12_undo_10 rfl rfl ?_
    refine v_aload_n (pc := 11) dX12_undo_11 rfl rfl ?_
    refine v_getI (pc := 12) fg_X12_136_12 dX12_undo_12 (li_55 hL) ?_
    refine v_putI (pc := 15) pg_X12_38_12 (fun h => by cases h) dX12_undo_15 (li_55 hL) rfl rfl ?_
    refine v_aload_n (pc := 18) dX12_undo_18 rfl rfl ?_
    refine v_aload_n (pc := 19) dX12_undo_19 rfl rfl ?_
    refine v_getI (pc := 20) fg_X12_139_12 dX12_undo_20 (li_55 hL) ?_
    refine v_putI (pc := 23) pg_X12_7_12 (fun h => by cases h) dX12_undo_23 (li_55 hL) rfl rfl ?_
    refine v_aload_n (pc := 26) dX12_undo_26 rfl rfl ?_
    refine v_aload_n (pc := 27) dX12_undo_27 rfl rfl ?_
    refine v_getI (pc := 28) fg_X12_142_12 dX12_undo_28 (li_55 hL) ?_
    refine v_putI (pc := 31) pg_X12_13_12 (fun h => by cases h) dX12_undo_31 (li_55 hL) rfl rfl ?_
    refine v_aload_n (pc := 34) dX12_undo_34 rfl rfl ?_
    refine v_aload_n (pc := 35) dX12_undo_35 rfl rfl ?_
    refine v_getI (pc := 36) fg_X12_145_12 dX12_undo_36 (li_55 hL) ?_
    refine v_putI (pc := 39) pg_X12_114_12 (fun h => by cases h) dX12_undo_39 (li_55 hL) rfl rfl ?_
    refine v_aload_n (pc := 42) dX12_undo_42 rfl rfl ?_
    refine v_aload_n (pc := 43) dX12_undo_43 rfl rfl ?_
    refine v_getI (pc := 44) fg_X12_148_12 dX12_undo_44 (li_55 hL) ?_
    refine v_putI (pc := 47) pg_X12_117_12 (fun h => by cases h) dX12_undo_47 (li_55 hL) rfl rfl ?_
    refine v_iconst (pc := 50) (v := nI 0) dX12_undo_50 (by decide) ?_
    refine v_istore_n (pc := 51) dX12_undo_51 rfl (by decide) rfl ?_
    refine v_mem ?_ (lp0 c4 0 (by omega))
    congr 2
    funext a z
    simp [v_to, v_u]
  · refine v_bipush (pc := 7) (v := -3) dX12_undo_7 (by decide) ?_
    exact v_iret (pc := 9) dX12_undo_9 rfl rfl (Nat.le_of_ble_eq_true rfl) (Nat.le_of_ble_eq_true rfl) (Or.inl ⟨c4, rfl, rfl⟩)
