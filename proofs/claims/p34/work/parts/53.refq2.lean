theorem bw_850 : Cond.code yX12_two cX12_two 3 (some .int) ∈ gT := gT_tb 1803 (by decide +kernel) (by decide +kernel)
theorem dX12_two_0 : decode cX12_two 0 = .ok (.iload_n 0, 1) := by decide +kernel
theorem dX12_two_1 : decode cX12_two 1 = .ok (.tableswitch 202 37 62 #[143, 188, 202, 202, 202, 127, 119, 202, 123, 202, 131, 202, 202, 202, 202, 202, 202, 202, 202, 202, 202, 202, 202, 155, 177, 166], 119) := by decide +kernel
theorem dX12_two_120 : decode cX12_two 120 = .ok (.iload_n 1, 1) := by decide +kernel
theorem dX12_two_121 : decode cX12_two 121 = .ok (.iload_n 2, 1) := by decide +kernel
theorem dX12_two_122 : decode cX12_two 122 = .ok (.iadd, 1) := by decide +kernel
theorem dX12_two_123 : decode cX12_two 123 = .ok (.ireturn, 1) := by decide +kernel
theorem dX12_two_124 : decode cX12_two 124 = .ok (.iload_n 1, 1) := by decide +kernel
theorem dX12_two_125 : decode cX12_two 125 = .ok (.iload_n 2, 1) := by decide +kernel
theorem dX12_two_126 : decode cX12_two 126 = .ok (.isub, 1) := by decide +kernel
theorem dX12_two_127 : decode cX12_two 127 = .ok (.ireturn, 1) := by decide +kernel
theorem dX12_two_128 : decode cX12_two 128 = .ok (.iload_n 1, 1) := by decide +kernel
theorem dX12_two_129 : decode cX12_two 129 = .ok (.iload_n 2, 1) := by decide +kernel
theorem dX12_two_130 : decode cX12_two 130 = .ok (.imul, 1) := by decide +kernel
theorem dX12_two_131 : decode cX12_two 131 = .ok (.ireturn, 1) := by decide +kernel
theorem dX12_two_132 : decode cX12_two 132 = .ok (.iload_n 2, 1) := by decide +kernel
theorem dX12_two_133 : decode cX12_two 133 = .ok (.ifCond .ne 7, 3) := by decide +kernel
theorem dX12_two_136 : decode cX12_two 136 = .ok (.iconst 0, 1) := by decide +kernel
theorem dX12_two_137 : decode cX12_two 137 = .ok (.goto 6, 3) := by decide +kernel
theorem dX12_two_140 : decode cX12_two 140 = .ok (.iload_n 1, 1) := by decide +kernel
theorem dX12_two_141 : decode cX12_two 141 = .ok (.iload_n 2, 1) := by decide +kernel
theorem dX12_two_142 : decode cX12_two 142 = .ok (.idiv, 1) := by decide +kernel
theorem dX12_two_143 : decode cX12_two 143 = .ok (.ireturn, 1) := by decide +kernel
theorem dX12_two_144 : decode cX12_two 144 = .ok (.iload_n 2, 1) := by decide +kernel
theorem dX12_two_145 : decode cX12_two 145 = .ok (.ifCond .ne 7, 3) := by decide +kernel
theorem dX12_two_148 : decode cX12_two 148 = .ok (.iconst 0, 1) := by decide +kernel
theorem dX12_two_149 : decode cX12_two 149 = .ok (.goto 6, 3) := by decide +kernel
theorem dX12_two_152 : decode cX12_two 152 = .ok (.iload_n 1, 1) := by decide +kernel
theorem dX12_two_153 : decode cX12_two 153 = .ok (.iload_n 2, 1) := by decide +kernel
theorem dX12_two_154 : decode cX12_two 154 = .ok (.irem, 1) := by decide +kernel
theorem dX12_two_155 : decode cX12_two 155 = .ok (.ireturn, 1) := by decide +kernel
theorem dX12_two_156 : decode cX12_two 156 = .ok (.iload_n 1, 1) := by decide +kernel
theorem dX12_two_157 : decode cX12_two 157 = .ok (.iload_n 2, 1) := by decide +kernel
theorem dX12_two_158 : decode cX12_two 158 = .ok (.if_icmp .ge 7, 3) := by decide +kernel
theorem dX12_two_161 : decode cX12_two 161 = .ok (.iconst 1, 1) := by decide +kernel
theorem dX12_two_162 : decode cX12_two 162 = .ok (.goto 4, 3) := by decide +kernel
theorem dX12_two_165 : decode cX12_two 165 = .ok (.iconst 0, 1) := by decide +kernel
theorem dX12_two_166 : decode cX12_two 166 = .ok (.ireturn, 1) := by decide +kernel
theorem dX12_two_167 : decode cX12_two 167 = .ok (.iload_n 1, 1) := by decide +kernel
theorem dX12_two_168 : decode cX12_two 168 = .ok (.iload_n 2, 1) := by decide +kernel
theorem dX12_two_169 : decode cX12_two 169 = .ok (.if_icmp .le 7, 3) := by decide +kernel
theorem dX12_two_172 : decode cX12_two 172 = .ok (.iconst 1, 1) := by decide +kernel
theorem dX12_two_173 : decode cX12_two 173 = .ok (.goto 4, 3) := by decide +kernel
theorem dX12_two_176 : decode cX12_two 176 = .ok (.iconst 0, 1) := by decide +kernel
theorem dX12_two_177 : decode cX12_two 177 = .ok (.ireturn, 1) := by decide +kernel
theorem dX12_two_178 : decode cX12_two 178 = .ok (.iload_n 1, 1) := by decide +kernel
theorem dX12_two_179 : decode cX12_two 179 = .ok (.iload_n 2, 1) := by decide +kernel
theorem dX12_two_180 : decode cX12_two 180 = .ok (.if_icmp .ne 7, 3) := by decide +kernel
theorem dX12_two_183 : decode cX12_two 183 = .ok (.iconst 1, 1) := by decide +kernel
theorem dX12_two_184 : decode cX12_two 184 = .ok (.goto 4, 3) := by decide +kernel
theorem dX12_two_187 : decode cX12_two 187 = .ok (.iconst 0, 1) := by decide +kernel
theorem dX12_two_188 : decode cX12_two 188 = .ok (.ireturn, 1) := by decide +kernel
theorem dX12_two_189 : decode cX12_two 189 = .ok (.iload_n 1, 1) := by decide +kernel
theorem dX12_two_190 : decode cX12_two 190 = .ok (.ifCond .eq 11, 3) := by decide +kernel
theorem dX12_two_193 : decode cX12_two 193 = .ok (.iload_n 2, 1) := by decide +kernel
theorem dX12_two_194 : decode cX12_two 194 = .ok (.ifCond .eq 7, 3) := by decide +kernel
theorem dX12_two_197 : decode cX12_two 197 = .ok (.iconst 1, 1) := by decide +kernel
theorem dX12_two_198 : decode cX12_two 198 = .ok (.goto 4, 3) := by decide +kernel
theorem dX12_two_201 : decode cX12_two 201 = .ok (.iconst 0, 1) := by decide +kernel
theorem dX12_two_202 : decode cX12_two 202 = .ok (.ireturn, 1) := by decide +kernel
theorem dX12_two_203 : decode cX12_two 203 = .ok (.iload_n 1, 1) := by decide +kernel
theorem dX12_two_204 : decode cX12_two 204 = .ok (.ifCond .ne 7, 3) := by decide +kernel
theorem dX12_two_207 : decode cX12_two 207 = .ok (.iload_n 2, 1) := by decide +kernel
theorem dX12_two_208 : decode cX12_two 208 = .ok (.ifCond .eq 7, 3) := by decide +kernel
theorem dX12_two_211 : decode cX12_two 211 = .ok (.iconst 1, 1) := by decide +kernel
theorem dX12_two_212 : decode cX12_two 212 = .ok (.goto 4, 3) := by decide +kernel
theorem dX12_two_215 : decode cX12_two 215 = .ok (.iconst 0, 1) := by decide +kernel
theorem dX12_two_216 : decode cX12_two 216 = .ok (.ireturn, 1) := by decide +kernel
set_option maxHeartbeats 40000000 in
set_option maxRecDepth 100000 in
theorem s_X12_two (l : Launch) (g : GG) (sz : Nat) (p0 : Int32) (p1 : Int32) (p2 : Int32) : Met l yX12_two (.code yX12_two cX12_two 3 (some .int) :: gT) ({ frames := 0, cells := 0, slots := 0, locals := 0 }) (va_Pc [.int p0, .int p1, .int p2] (Pst g sz [] nX)) (va_Qi (fun (r : Int32) => fun (_ : Unit) => True) (Qst g [] sz (fun _ => [])) (va_A [] sz)) 0 0 (va_A [] sz) := by
  refine Met.ofW (cc := cX12_two) (maxL := 3) (ret := (some .int)) (by decide) rfl ?_
  intro p e s m args below meth c s₁ B hml hv
  obtain ⟨rfl, hsz, hP, hK, hD0, hX⟩ := hv
  have hx := B.exec
  have hb := B.bytes
  have hr := B.returns
  have hT : ∀ w ∈ gT, w.before _ s = true := fun w h => atoms_spec (ws := .code yX12_two cX12_two 3 (some .int) :: gT) B.pre w (List.mem_cons_of_mem _ h)
  have hown : s.vm.findClass RX12 = some m.cls := findClass_of_methodNamed B.named
  have hlocks := B.notSynchronized
  subst hsz
  have hD := hD0
  generalize hAe : va_A [] s.heap.size = A at ⊢
  have hA : ∀ q : Nat, s.heap.size ≤ q → A q := fun q h => by rw [← hAe]; exact Or.inr h
  have hS : va_S A s.heap s.heap [] := va_S.rf
  have hl := lv_entry ([.int p0, .int p1, .int p2]) (n := 3) (Nat.le_of_ble_eq_true rfl)
  rw [lg_entry_eq]
  generalize (lg_sl ([.int p0, .int p1, .int p2]) ++ List.replicate (3 - (lg_sl ([.int p0, .int p1, .int p2])).length) Slot.unset).toArray = ls at hl ⊢
  have hl : lv_has ls 3 [(0, .int p0), (1, .int p1), (2, .int p2)] := hl
  refine p_nH (fun H hH => ?_)
  have hP : va_P g.1 vwCl [] H := by rw [hH]; exact hP
  have hS : va_S A s.heap H [] := by rw [hH]; exact hS
  refine lv_iload_n hx hb dX12_two_0 rfl (lv_at hl 0 rfl) ?_
  rcases tsplitL p0 (37) 26 (by decide) (by decide) with h_1 | ⟨j, hj, eh_1⟩
  · refine lv_tableOut (tgt := 203) hx hb dX12_two_1 (by omega) (by decide) ?_
    refine lv_iload_n hx hb dX12_two_203 rfl (lv_at hl 1 rfl) ?_
    refine lv_if_ne (tgt := 211) hx hb dX12_two_204 (by decide) (fun c_2 => ?_) (fun c_2 => ?_)
    · have f_3 := E_ne (rfl : p1.toInt = _) (by decide : (0 : Int32).toInt = 0) c_2
      refine lv_iconst (v := 1) hx hb dX12_two_211 (by decide) ?_
      refine lv_goto (tgt := 216) hx hb dX12_two_212 (by decide) ?_
      have hP9 : va_P g.1 vwCl [] H := hP.sub [] rfl
      have hD9 : va_D A [] := ⟨fun i j p q h => by simp at h, fun k q h => by simp at h⟩
      exact W.iret (v := 1) hx hb hr (fun t ht hW => ⟨⟨1, (), rfl, trivial, by rw [ht]; exact hP9, by rw [hAe]; exact hD9⟩, hS.F ht⟩) hS.2.2 dX12_two_216
    · have f_4 := E_eq (rfl : p1.toInt = _) (by decide : (0 : Int32).toInt = 0) c_2
      refine lv_iload_n hx hb dX12_two_207 rfl (lv_at hl 2 rfl) ?_
      refine lv_if_eq (tgt := 215) hx hb dX12_two_208 (by decide) (fun c_5 => ?_) (fun c_5 => ?_)
      · have f_6 := E_eq (rfl : p2.toInt = _) (by decide : (0 : Int32).toInt = 0) c_5
        refine lv_iconst (v := 0) hx hb dX12_two_215 (by decide) ?_
        have hP9 : va_P g.1 vwCl [] H := hP.sub [] rfl
        have hD9 : va_D A [] := ⟨fun i j p q h => by simp at h, fun k q h => by simp at h⟩
        exact W.iret (v := 0) hx hb hr (fun t ht hW => ⟨⟨0, (), rfl, trivial, by rw [ht]; exact hP9, by rw [hAe]; exact hD9⟩, hS.F ht⟩) hS.2.2 dX12_two_216
      · have f_7 := E_ne (rfl : p2.toInt = _) (by decide : (0 : Int32).toInt = 0) c_5
        refine lv_iconst (v := 1) hx hb dX12_two_211 (by decide) ?_
        refine lv_goto (tgt := 216) hx hb dX12_two_212 (by decide) ?_
        have hP9 : va_P g.1 vwCl [] H := hP.sub [] rfl
        have hD9 : va_D A [] := ⟨fun i j p q h => by simp at h, fun k q h => by simp at h⟩
        exact W.iret (v := 1) hx hb hr (fun t ht hW => ⟨⟨1, (), rfl, trivial, by rw [ht]; exact hP9, by rw [hAe]; exact hD9⟩, hS.F ht⟩) hS.2.2 dX12_two_216
  · rcases (show j = 0 ∨ j = 1 ∨ j = 2 ∨ j = 3 ∨ j = 4 ∨ j = 5 ∨ j = 6 ∨ j = 7 ∨ j = 8 ∨ j = 9 ∨ j = 10 ∨ j = 11 ∨ j = 12 ∨ j = 13 ∨ j = 14 ∨ j = 15 ∨ j = 16 ∨ j = 17 ∨ j = 18 ∨ j = 19 ∨ j = 20 ∨ j = 21 ∨ j = 22 ∨ j = 23 ∨ j = 24 ∨ j = 25 by omega) with rfl | rfl | rfl | rfl | rfl | rfl | rfl | rfl | rfl | rfl | rfl | rfl | rfl | rfl | rfl | rfl | rfl | rfl | rfl | rfl | rfl | rfl | rfl | rfl | rfl | rfl
    · obtain rfl : p0 = 37 := eh_1.trans (by decide)
      refine lv_tableIn (tgt := 144) hx hb dX12_two_1 (by decide) (by decide) (off := 143) (by decide) (by decide) ?_
      refine lv_iload_n hx hb dX12_two_144 rfl (lv_at hl 2 rfl) ?_
      refine lv_if_ne (tgt := 152) hx hb dX12_two_145 (by decide) (fun c_8 => ?_) (fun c_8 => ?_)
      · have f_9 := E_ne (rfl : p2.toInt = _) (by decide : (0 : Int32).toInt = 0) c_8
        refine lv_iload_n hx hb dX12_two_152 rfl (lv_at hl 1 rfl) ?_
        refine lv_iload_n hx hb dX12_two_153 rfl (lv_at hl 2 rfl) ?_
        refine lv_irem hx hb dX12_two_154 (L_ne rfl (by decide : (0 : Int32).toInt = 0) (by omega)) ?_
        refine lv_topi (fun x_10 ex_10 => ?_)
        have hP9 : va_P g.1 vwCl [] H := hP.sub [] rfl
        have hD9 : va_D A [] := ⟨fun i j p q h => by simp at h, fun k q h => by simp at h⟩
        exact W.iret (v := x_10) hx hb hr (fun t ht hW => ⟨⟨x_10, (), rfl, trivial, by rw [ht]; exact hP9, by rw [hAe]; exact hD9⟩, hS.F ht⟩) hS.2.2 dX12_two_155
      · have f_11 := E_eq (rfl : p2.toInt = _) (by decide : (0 : Int32).toInt = 0) c_8
        refine lv_iconst (v := 0) hx hb dX12_two_148 (by decide) ?_
        refine lv_goto (tgt := 155) hx hb dX12_two_149 (by decide) ?_
        have hP9 : va_P g.1 vwCl [] H := hP.sub [] rfl
        have hD9 : va_D A [] := ⟨fun i j p q h => by simp at h, fun k q h => by simp at h⟩
        exact W.iret (v := 0) hx hb hr (fun t ht hW => ⟨⟨0, (), rfl, trivial, by rw [ht]; exact hP9, by rw [hAe]; exact hD9⟩, hS.F ht⟩) hS.2.2 dX12_two_155
    · obtain rfl : p0 = 38 := eh_1.trans (by decide)
      refine lv_tableIn (tgt := 189) hx hb dX12_two_1 (by decide) (by decide) (off := 188) (by decide) (by decide) ?_
      refine lv_iload_n hx hb dX12_two_189 rfl (lv_at hl 1 rfl) ?_
      refine lv_if_eq (tgt := 201) hx hb dX12_two_190 (by decide) (fun c_12 => ?_) (fun c_12 => ?_)
      · have f_13 := E_eq (rfl : p1.toInt = _) (by decide : (0 : Int32).toInt = 0) c_12
        refine lv_iconst (v := 0) hx hb dX12_two_201 (by decide) ?_
        have hP9 : va_P g.1 vwCl [] H := hP.sub [] rfl
        have hD9 : va_D A [] := ⟨fun i j p q h => by simp at h, fun k q h => by simp at h⟩
        exact W.iret (v := 0) hx hb hr (fun t ht hW => ⟨⟨0, (), rfl, trivial, by rw [ht]; exact hP9, by rw [hAe]; exact hD9⟩, hS.F ht⟩) hS.2.2 dX12_two_202
      · have f_14 := E_ne (rfl : p1.toInt = _) (by decide : (0 : Int32).toInt = 0) c_12
        refine lv_iload_n hx hb dX12_two_193 rfl (lv_at hl 2 rfl) ?_
        refine lv_if_eq (tgt := 201) hx hb dX12_two_194 (by decide) (fun c_15 => ?_) (fun c_15 => ?_)
        · have f_16 := E_eq (rfl : p2.toInt = _) (by decide : (0 : Int32).toInt = 0) c_15
          refine lv_iconst (v := 0) hx hb dX12_two_201 (by decide) ?_
          have hP9 : va_P g.1 vwCl [] H := hP.sub [] rfl
          have hD9 : va_D A [] := ⟨fun i j p q h => by simp at h, fun k q h => by simp at h⟩
          exact W.iret (v := 0) hx hb hr (fun t ht hW => ⟨⟨0, (), rfl, trivial, by rw [ht]; exact hP9, by rw [hAe]; exact hD9⟩, hS.F ht⟩) hS.2.2 dX12_two_202
        · have f_17 := E_ne (rfl : p2.toInt = _) (by decide : (0 : Int32).toInt = 0) c_15
          refine lv_iconst (v := 1) hx hb dX12_two_197 (by decide) ?_
          refine lv_goto (tgt := 202) hx hb dX12_two_198 (by decide) ?_
          have hP9 : va_P g.1 vwCl [] H := hP.sub [] rfl
          have hD9 : va_D A [] := ⟨fun i j p q h => by simp at h, fun k q h => by simp at h⟩
          exact W.iret (v := 1) hx hb hr (fun t ht hW => ⟨⟨1, (), rfl, trivial, by rw [ht]; exact hP9, by rw [hAe]; exact hD9⟩, hS.F ht⟩) hS.2.2 dX12_two_202
    · obtain rfl : p0 = 39 := eh_1.trans (by decide)
      refine lv_tableIn (tgt := 203) hx hb dX12_two_1 (by decide) (by decide) (off := 202) (by decide) (by decide) ?_
      refine lv_iload_n hx hb dX12_two_203 rfl (lv_at hl 1 rfl) ?_
      refine lv_if_ne (tgt := 211) hx hb dX12_two_204 (by decide) (fun c_18 => ?_) (fun c_18 => ?_)
      · have f_19 := E_ne (rfl : p1.toInt = _) (by decide : (0 : Int32).toInt = 0) c_18
        refine lv_iconst (v := 1) hx hb dX12_two_211 (by decide) ?_
        refine lv_goto (tgt := 216) hx hb dX12_two_212 (by decide) ?_
        have hP9 : va_P g.1 vwCl [] H := hP.sub [] rfl
        have hD9 : va_D A [] := ⟨fun i j p q h => by simp at h, fun k q h => by simp at h⟩
        exact W.iret (v := 1) hx hb hr (fun t ht hW => ⟨⟨1, (), rfl, trivial, by rw [ht]; exact hP9, by rw [hAe]; exact hD9⟩, hS.F ht⟩) hS.2.2 dX12_two_216
      · have f_20 := E_eq (rfl : p1.toInt = _) (by decide : (0 : Int32).toInt = 0) c_18
        refine lv_iload_n hx hb dX12_two_207 rfl (lv_at hl 2 rfl) ?_
        refine lv_if_eq (tgt := 215) hx hb dX12_two_208 (by decide) (fun c_21 => ?_) (fun c_21 => ?_)
        · have f_22 := E_eq (rfl : p2.toInt = _) (by decide : (0 : Int32).toInt = 0) c_21
          refine lv_iconst (v := 0) hx hb dX12_two_215 (by decide) ?_
          have hP9 : va_P g.1 vwCl [] H := hP.sub [] rfl
          have hD9 : va_D A [] := ⟨fun i j p q h => by simp at h, fun k q h => by simp at h⟩
          exact W.iret (v := 0) hx hb hr (fun t ht hW => ⟨⟨0, (), rfl, trivial, by rw [ht]; exact hP9, by rw [hAe]; exact hD9⟩, hS.F ht⟩) hS.2.2 dX12_two_216
        · have f_23 := E_ne (rfl : p2.toInt = _) (by decide : (0 : Int32).toInt = 0) c_21
          refine lv_iconst (v := 1) hx hb dX12_two_211 (by decide) ?_
          refine lv_goto (tgt := 216) hx hb dX12_two_212 (by decide) ?_
          have hP9 : va_P g.1 vwCl [] H := hP.sub [] rfl
          have hD9 : va_D A [] := ⟨fun i j p q h => by simp at h, fun k q h => by simp at h⟩
          exact W.iret (v := 1) hx hb hr (fun t ht hW => ⟨⟨1, (), rfl, trivial, by rw [ht]; exact hP9, by rw [hAe]; exact hD9⟩, hS.F ht⟩) hS.2.2 dX12_two_216
    · obtain rfl : p0 = 40 := eh_1.trans (by decide)
      refine lv_tableIn (tgt := 203) hx hb dX12_two_1 (by decide) (by decide) (off := 202) (by decide) (by decide) ?_
      refine lv_iload_n hx hb dX12_two_203 rfl (lv_at hl 1 rfl) ?_
      refine lv_if_ne (tgt := 211) hx hb dX12_two_204 (by decide) (fun c_24 => ?_) (fun c_24 => ?_)
      · have f_25 := E_ne (rfl : p1.toInt = _) (by decide : (0 : Int32).toInt = 0) c_24
        refine lv_iconst (v := 1) hx hb dX12_two_211 (by decide) ?_
        refine lv_goto (tgt := 216) hx hb dX12_two_212 (by decide) ?_
        have hP9 : va_P g.1 vwCl [] H := hP.sub [] rfl
        have hD9 : va_D A [] := ⟨fun i j p q h => by simp at h, fun k q h => by simp at h⟩
        exact W.iret (v := 1) hx hb hr (fun t ht hW => ⟨⟨1, (), rfl, trivial, by rw [ht]; exact hP9, by rw [hAe]; exact hD9⟩, hS.F ht⟩) hS.2.2 dX12_two_216
      · have f_26 := E_eq (rfl : p1.toInt = _) (by decide : (0 : Int32).toInt = 0) c_24
        refine lv_iload_n hx hb dX12_two_207 rfl (lv_at hl 2 rfl) ?_
        refine lv_if_eq (tgt := 215) hx hb dX12_two_208 (by decide) (fun c_27 => ?_) (fun c_27 => ?_)
        · have f_28 := E_eq (rfl : p2.toInt = _) (by decide : (0 : Int32).toInt = 0) c_27
          refine lv_iconst (v := 0) hx hb dX12_two_215 (by decide) ?_
          have hP9 : va_P g.1 vwCl [] H := hP.sub [] rfl
          have hD9 : va_D A [] := ⟨fun i j p q h => by simp at h, fun k q h => by simp at h⟩
          exact W.iret (v := 0) hx hb hr (fun t ht hW => ⟨⟨0, (), rfl, trivial, by rw [ht]; exact hP9, by rw [hAe]; exact hD9⟩, hS.F ht⟩) hS.2.2 dX12_two_216
        · have f_29 := E_ne (rfl : p2.toInt = _) (by decide : (0 : Int32).toInt = 0) c_27
          refine lv_iconst (v := 1) hx hb dX12_two_211 (by decide) ?_
          refine lv_goto (tgt := 216) hx hb dX12_two_212 (by decide) ?_
          have hP9 : va_P g.1 vwCl [] H := hP.sub [] rfl
          have hD9 : va_D A [] := ⟨fun i j p q h => by simp at h, fun k q h => by simp at h⟩
          exact W.iret (v := 1) hx hb hr (fun t ht hW => ⟨⟨1, (), rfl, trivial, by rw [ht]; exact hP9, by rw [hAe]; exact hD9⟩, hS.F ht⟩) hS.2.2 dX12_two_216
    · obtain rfl : p0 = 41 := eh_1.trans (by decide)
      refine lv_tableIn (tgt := 203) hx hb dX12_two_1 (by decide) (by decide) (off := 202) (by decide) (by decide) ?_
      refine lv_iload_n hx hb dX12_two_203 rfl (lv_at hl 1 rfl) ?_
      refine lv_if_ne (tgt := 211) hx hb dX12_two_204 (by decide) (fun c_30 => ?_) (fun c_30 => ?_)
      · have f_31 := E_ne (rfl : p1.toInt = _) (by decide : (0 : Int32).toInt = 0) c_30
        refine lv_iconst (v := 1) hx hb dX12_two_211 (by decide) ?_
        refine lv_goto (tgt := 216) hx hb dX12_two_212 (by decide) ?_
        have hP9 : va_P g.1 vwCl [] H := hP.sub [] rfl
        have hD9 : va_D A [] := ⟨fun i j p q h => by simp at h, fun k q h => by simp at h⟩
        exact W.iret (v := 1) hx hb hr (fun t ht hW => ⟨⟨1, (), rfl, trivial, by rw [ht]; exact hP9, by rw [hAe]; exact hD9⟩, hS.F ht⟩) hS.2.2 dX12_two_216
      · have f_32 := E_eq (rfl : p1.toInt = _) (by decide : (0 : Int32).toInt = 0) c_30
        refine lv_iload_n hx hb dX12_two_207 rfl (lv_at hl 2 rfl) ?_
        refine lv_if_eq (tgt := 215) hx hb dX12_two_208 (by decide) (fun c_33 => ?_) (fun c_33 => ?_)
        · have f_34 := E_eq (rfl : p2.toInt = _) (by decide : (0 : Int32).toInt = 0) c_33
          refine lv_iconst (v := 0) hx hb dX12_two_215 (by decide) ?_
          have hP9 : va_P g.1 vwCl [] H := hP.sub [] rfl
          have hD9 : va_D A [] := ⟨fun i j p q h => by simp at h, fun k q h => by simp at h⟩
          exact W.iret (v := 0) hx hb hr (fun t ht hW => ⟨⟨0, (), rfl, trivial, by rw [ht]; exact hP9, by rw [hAe]; exact hD9⟩, hS.F ht⟩) hS.2.2 dX12_two_216
        · have f_35 := E_ne (rfl : p2.toInt = _) (by decide : (0 : Int32).toInt = 0) c_33
          refine lv_iconst (v := 1) hx hb dX12_two_211 (by decide) ?_
          refine lv_goto (tgt := 216) hx hb dX12_two_212 (by decide) ?_
          have hP9 : va_P g.1 vwCl [] H := hP.sub [] rfl
          have hD9 : va_D A [] := ⟨fun i j p q h => by simp at h, fun k q h => by simp at h⟩
          exact W.iret (v := 1) hx hb hr (fun t ht hW => ⟨⟨1, (), rfl, trivial, by rw [ht]; exact hP9, by rw [hAe]; exact hD9⟩, hS.F ht⟩) hS.2.2 dX12_two_216
    · obtain rfl : p0 = 42 := eh_1.trans (by decide)
      refine lv_tableIn (tgt := 128) hx hb dX12_two_1 (by decide) (by decide) (off := 127) (by decide) (by decide) ?_
      refine lv_iload_n hx hb dX12_two_128 rfl (lv_at hl 1 rfl) ?_
      refine lv_iload_n hx hb dX12_two_129 rfl (lv_at hl 2 rfl) ?_
      refine lv_imul hx hb dX12_two_130 ?_
      refine lv_topi (fun x_36 ex_36 => ?_)
      have hP9 : va_P g.1 vwCl [] H := hP.sub [] rfl
      have hD9 : va_D A [] := ⟨fun i j p q h => by simp at h, fun k q h => by simp at h⟩
      exact W.iret (v := x_36) hx hb hr (fun t ht hW => ⟨⟨x_36, (), rfl, trivial, by rw [ht]; exact hP9, by rw [hAe]; exact hD9⟩, hS.F ht⟩) hS.2.2 dX12_two_131
    · obtain rfl : p0 = 43 := eh_1.trans (by decide)
      refine lv_tableIn (tgt := 120) hx hb dX12_two_1 (by decide) (by decide) (off := 119) (by decide) (by decide) ?_
      refine lv_iload_n hx hb dX12_two_120 rfl (lv_at hl 1 rfl) ?_
      refine lv_iload_n hx hb dX12_two_121 rfl (lv_at hl 2 rfl) ?_
      refine lv_iadd hx hb dX12_two_122 ?_
      refine lv_topi (fun x_37 ex_37 => ?_)
      have hP9 : va_P g.1 vwCl [] H := hP.sub [] rfl
      have hD9 : va_D A [] := ⟨fun i j p q h => by simp at h, fun k q h => by simp at h⟩
      exact W.iret (v := x_37) hx hb hr (fun t ht hW => ⟨⟨x_37, (), rfl, trivial, by rw [ht]; exact hP9, by rw [hAe]; exact hD9⟩, hS.F ht⟩) hS.2.2 dX12_two_123
    · obtain rfl : p0 = 44 := eh_1.trans (by decide)
      refine lv_tableIn (tgt := 203) hx hb dX12_two_1 (by decide) (by decide) (off := 202) (by decide) (by decide) ?_
      refine lv_iload_n hx hb dX12_two_203 rfl (lv_at hl 1 rfl) ?_
      refine lv_if_ne (tgt := 211) hx hb dX12_two_204 (by decide) (fun c_38 => ?_) (fun c_38 => ?_)
      · have f_39 := E_ne (rfl : p1.toInt = _) (by decide : (0 : Int32).toInt = 0) c_38
        refine lv_iconst (v := 1) hx hb dX12_two_211 (by decide) ?_
        refine lv_goto (tgt := 216) hx hb dX12_two_212 (by decide) ?_
        have hP9 : va_P g.1 vwCl [] H := hP.sub [] rfl
        have hD9 : va_D A [] := ⟨fun i j p q h => by simp at h, fun k q h => by simp at h⟩
        exact W.iret (v := 1) hx hb hr (fun t ht hW => ⟨⟨1, (), rfl, trivial, by rw [ht]; exact hP9, by rw [hAe]; exact hD9⟩, hS.F ht⟩) hS.2.2 dX12_two_216
      · have f_40 := E_eq (rfl : p1.toInt = _) (by decide : (0 : Int32).toInt = 0) c_38
        refine lv_iload_n hx hb dX12_two_207 rfl (lv_at hl 2 rfl) ?_
        refine lv_if_eq (tgt := 215) hx hb dX12_two_208 (by decide) (fun c_41 => ?_) (fun c_41 => ?_)
        · have f_42 := E_eq (rfl : p2.toInt = _) (by decide : (0 : Int32).toInt = 0) c_41
          refine lv_iconst (v := 0) hx hb dX12_two_215 (by decide) ?_
          have hP9 : va_P g.1 vwCl [] H := hP.sub [] rfl
          have hD9 : va_D A [] := ⟨fun i j p q h => by simp at h, fun k q h => by simp at h⟩
          exact W.iret (v := 0) hx hb hr (fun t ht hW => ⟨⟨0, (), rfl, trivial, by rw [ht]; exact hP9, by rw [hAe]; exact hD9⟩, hS.F ht⟩) hS.2.2 dX12_two_216
        · have f_43 := E_ne (rfl : p2.toInt = _) (by decide : (0 : Int32).toInt = 0) c_41
          refine lv_iconst (v := 1) hx hb dX12_two_211 (by decide) ?_
          refine lv_goto (tgt := 216) hx hb dX12_two_212 (by decide) ?_
          have hP9 : va_P g.1 vwCl [] H := hP.sub [] rfl
          have hD9 : va_D A [] := ⟨fun i j p q h => by simp at h, fun k q h => by simp at h⟩
          exact W.iret (v := 1) hx hb hr (fun t ht hW => ⟨⟨1, (), rfl, trivial, by rw [ht]; exact hP9, by rw [hAe]; exact hD9⟩, hS.F ht⟩) hS.2.2 dX12_two_216
    · obtain rfl : p0 = 45 := eh_1.trans (by decide)
      refine lv_tableIn (tgt := 124) hx hb dX12_two_1 (by decide) (by decide) (off := 123) (by decide) (by decide) ?_
      refine lv_iload_n hx hb dX12_two_124 rfl (lv_at hl 1 rfl) ?_
      refine lv_iload_n hx hb dX12_two_125 rfl (lv_at hl 2 rfl) ?_
      refine lv_isub hx hb dX12_two_126 ?_
      refine lv_topi (fun x_44 ex_44 => ?_)
      have hP9 : va_P g.1 vwCl [] H := hP.sub [] rfl
      have hD9 : va_D A [] := ⟨fun i j p q h => by simp at h, fun k q h => by simp at h⟩
      exact W.iret (v := x_44) hx hb hr (fun t ht hW => ⟨⟨x_44, (), rfl, trivial, by rw [ht]; exact hP9, by rw [hAe]; exact hD9⟩, hS.F ht⟩) hS.2.2 dX12_two_127
    · obtain rfl : p0 = 46 := eh_1.trans (by decide)
      refine lv_tableIn (tgt := 203) hx hb dX12_two_1 (by decide) (by decide) (off := 202) (by decide) (by decide) ?_
      refine lv_iload_n hx hb dX12_two_203 rfl (lv_at hl 1 rfl) ?_
      refine lv_if_ne (tgt := 211) hx hb dX12_two_204 (by decide) (fun c_45 => ?_) (fun c_45 => ?_)
      · have f_46 := E_ne (rfl : p1.toInt = _) (by decide : (0 : Int32).toInt = 0) c_45
        refine lv_iconst (v := 1) hx hb dX12_two_211 (by decide) ?_
        refine lv_goto (tgt := 216) hx hb dX12_two_212 (by decide) ?_
        have hP9 : va_P g.1 vwCl [] H := hP.sub [] rfl
        have hD9 : va_D A [] := ⟨fun i j p q h => by simp at h, fun k q h => by simp at h⟩
        exact W.iret (v := 1) hx hb hr (fun t ht hW => ⟨⟨1, (), rfl, trivial, by rw [ht]; exact hP9, by rw [hAe]; exact hD9⟩, hS.F ht⟩) hS.2.2 dX12_two_216
      · have f_47 := E_eq (rfl : p1.toInt = _) (by decide : (0 : Int32).toInt = 0) c_45
        refine lv_iload_n hx hb dX12_two_207 rfl (lv_at hl 2 rfl) ?_
        refine lv_if_eq (tgt := 215) hx hb dX12_two_208 (by decide) (fun c_48 => ?_) (fun c_48 => ?_)
        · have f_49 := E_eq (rfl : p2.toInt = _) (by decide : (0 : Int32).toInt = 0) c_48
          refine lv_iconst (v := 0) hx hb dX12_two_215 (by decide) ?_
          have hP9 : va_P g.1 vwCl [] H := hP.sub [] rfl
          have hD9 : va_D A [] := ⟨fun i j p q h => by simp at h, fun k q h => by simp at h⟩
          exact W.iret (v := 0) hx hb hr (fun t ht hW => ⟨⟨0, (), rfl, trivial, by rw [ht]; exact hP9, by rw [hAe]; exact hD9⟩, hS.F ht⟩) hS.2.2 dX12_two_216
        · have f_50 := E_ne (rfl : p2.toInt = _) (by decide : (0 : Int32).toInt = 0) c_48
          refine lv_iconst (v := 1) hx hb dX12_two_211 (by decide) ?_
          refine lv_goto (tgt := 216) hx hb dX12_two_212 (by decide) ?_
          have hP9 : va_P g.1 vwCl [] H := hP.sub [] rfl
          have hD9 : va_D A [] := ⟨fun i j p q h => by simp at h, fun k q h => by simp at h⟩
          exact W.iret (v := 1) hx hb hr (fun t ht hW => ⟨⟨1, (), rfl, trivial, by rw [ht]; exact hP9, by rw [hAe]; exact hD9⟩, hS.F ht⟩) hS.2.2 dX12_two_216
    · obtain rfl : p0 = 47 := eh_1.trans (by decide)
      refine lv_tableIn (tgt := 132) hx hb dX12_two_1 (by decide) (by decide) (off := 131) (by decide) (by decide) ?_
      refine lv_iload_n hx hb dX12_two_132 rfl (lv_at hl 2 rfl) ?_
      refine lv_if_ne (tgt := 140) hx hb dX12_two_133 (by decide) (fun c_51 => ?_) (fun c_51 => ?_)
      · have f_52 := E_ne (rfl : p2.toInt = _) (by decide : (0 : Int32).toInt = 0) c_51
        refine lv_iload_n hx hb dX12_two_140 rfl (lv_at hl 1 rfl) ?_
        refine lv_iload_n hx hb dX12_two_141 rfl (lv_at hl 2 rfl) ?_
        refine lv_idiv hx hb dX12_two_142 (L_ne rfl (by decide : (0 : Int32).toInt = 0) (by omega)) ?_
        refine lv_topi (fun x_53 ex_53 => ?_)
        have hP9 : va_P g.1 vwCl [] H := hP.sub [] rfl
        have hD9 : va_D A [] := ⟨fun i j p q h => by simp at h, fun k q h => by simp at h⟩
        exact W.iret (v := x_53) hx hb hr (fun t ht hW => ⟨⟨x_53, (), rfl, trivial, by rw [ht]; exact hP9, by rw [hAe]; exact hD9⟩, hS.F ht⟩) hS.2.2 dX12_two_143
      · have f_54 := E_eq (rfl : p2.toInt = _) (by decide : (0 : Int32).toInt = 0) c_51
        refine lv_iconst (v := 0) hx hb dX12_two_136 (by decide) ?_
        refine lv_goto (tgt := 143) hx hb dX12_two_137 (by decide) ?_
        have hP9 : va_P g.1 vwCl [] H := hP.sub [] rfl
        have hD9 : va_D A [] := ⟨fun i j p q h => by simp at h, fun k q h => by simp at h⟩
        exact W.iret (v := 0) hx hb hr (fun t ht hW => ⟨⟨0, (), rfl, trivial, by rw [ht]; exact hP9, by rw [hAe]; exact hD9⟩, hS.F ht⟩) hS.2.2 dX12_two_143
    · obtain rfl : p0 = 48 := eh_1.trans (by decide)
      refine lv_tableIn (tgt := 203) hx hb dX12_two_1 (by decide) (by decide) (off := 202) (by decide) (by decide) ?_
      refine lv_iload_n hx hb dX12_two_203 rfl (lv_at hl 1 rfl) ?_
      refine lv_if_ne (tgt := 211) hx hb dX12_two_204 (by decide) (fun c_55 => ?_) (fun c_55 => ?_)
      · have f_56 := E_ne (rfl : p1.toInt = _) (by decide : (0 : Int32).toInt = 0) c_55
        refine lv_iconst (v := 1) hx hb dX12_two_211 (by decide) ?_
        refine lv_goto (tgt := 216) hx hb dX12_two_212 (by decide) ?_
        have hP9 : va_P g.1 vwCl [] H := hP.sub [] rfl
        have hD9 : va_D A [] := ⟨fun i j p q h => by simp at h, fun k q h => by simp at h⟩
        exact W.iret (v := 1) hx hb hr (fun t ht hW => ⟨⟨1, (), rfl, trivial, by rw [ht]; exact hP9, by rw [hAe]; exact hD9⟩, hS.F ht⟩) hS.2.2 dX12_two_216
      · have f_57 := E_eq (rfl : p1.toInt = _) (by decide : (0 : Int32).toInt = 0) c_55
        refine lv_iload_n hx hb dX12_two_207 rfl (lv_at hl 2 rfl) ?_
        refine lv_if_eq (tgt := 215) hx hb dX12_two_208 (by decide) (fun c_58 => ?_) (fun c_58 => ?_)
        · have f_59 := E_eq (rfl : p2.toInt = _) (by decide : (0 : Int32).toInt = 0) c_58
          refine lv_iconst (v := 0) hx hb dX12_two_215 (by decide) ?_
          have hP9 : va_P g.1 vwCl [] H := hP.sub [] rfl
          have hD9 : va_D A [] := ⟨fun i j p q h => by simp at h, fun k q h => by simp at h⟩
          exact W.iret (v := 0) hx hb hr (fun t ht hW => ⟨⟨0, (), rfl, trivial, by rw [ht]; exact hP9, by rw [hAe]; exact hD9⟩, hS.F ht⟩) hS.2.2 dX12_two_216
        · have f_60 := E_ne (rfl : p2.toInt = _) (by decide : (0 : Int32).toInt = 0) c_58
          refine lv_iconst (v := 1) hx hb dX12_two_211 (by decide) ?_
          refine lv_goto (tgt := 216) hx hb dX12_two_212 (by decide) ?_
          have hP9 : va_P g.1 vwCl [] H := hP.sub [] rfl
          have hD9 : va_D A [] := ⟨fun i j p q h => by simp at h, fun k q h => by simp at h⟩
          exact W.iret (v := 1) hx hb hr (fun t ht hW => ⟨⟨1, (), rfl, trivial, by rw [ht]; exact hP9, by rw [hAe]; exact hD9⟩, hS.F ht⟩) hS.2.2 dX12_two_216
    · obtain rfl : p0 = 49 := eh_1.trans (by decide)
      refine lv_tableIn (tgt := 203) hx hb dX12_two_1 (by decide) (by decide) (off := 202) (by decide) (by decide) ?_
      refine lv_iload_n hx hb dX12_two_203 rfl (lv_at hl 1 rfl) ?_
      refine lv_if_ne (tgt := 211) hx hb dX12_two_204 (by decide) (fun c_61 => ?_) (fun c_61 => ?_)
      · have f_62 := E_ne (rfl : p1.toInt = _) (by decide : (0 : Int32).toInt = 0) c_61
        refine lv_iconst (v := 1) hx hb dX12_two_211 (by decide) ?_
        refine lv_goto (tgt := 216) hx hb dX12_two_212 (by decide) ?_
        have hP9 : va_P g.1 vwCl [] H := hP.sub [] rfl
        have hD9 : va_D A [] := ⟨fun i j p q h => by simp at h, fun k q h => by simp at h⟩
        exact W.iret (v := 1) hx hb hr (fun t ht hW => ⟨⟨1, (), rfl, trivial, by rw [ht]; exact hP9, by rw [hAe]; exact hD9⟩, hS.F ht⟩) hS.2.2 dX12_two_216
      · have f_63 := E_eq (rfl : p1.toInt = _) (by decide : (0 : Int32).toInt = 0) c_61
        refine lv_iload_n hx hb dX12_two_207 rfl (lv_at hl 2 rfl) ?_
        refine lv_if_eq (tgt := 215) hx hb dX12_two_208 (by decide) (fun c_64 => ?_) (fun c_64 => ?_)
        · have f_65 := E_eq (rfl : p2.toInt = _) (by decide : (0 : Int32).toInt = 0) c_64
          refine lv_iconst (v := 0) hx hb dX12_two_215 (by decide) ?_
          have hP9 : va_P g.1 vwCl [] H := hP.sub [] rfl
          have hD9 : va_D A [] := ⟨fun i j p q h => by simp at h, fun k q h => by simp at h⟩
          exact W.iret (v := 0) hx hb hr (fun t ht hW => ⟨⟨0, (), rfl, trivial, by rw [ht]; exact hP9, by rw [hAe]; exact hD9⟩, hS.F ht⟩) hS.2.2 dX12_two_216
        · have f_66 := E_ne (rfl : p2.toInt = _) (by decide : (0 : Int32).toInt = 0) c_64
          refine lv_iconst (v := 1) hx hb dX12_two_211 (by decide) ?_
          refine lv_goto (tgt := 216) hx hb dX12_two_212 (by decide) ?_
          have hP9 : va_P g.1 vwCl [] H := hP.sub [] rfl
          have hD9 : va_D A [] := ⟨fun i j p q h => by simp at h, fun k q h => by simp at h⟩
          exact W.iret (v := 1) hx hb hr (fun t ht hW => ⟨⟨1, (), rfl, trivial, by rw [ht]; exact hP9, by rw [hAe]; exact hD9⟩, hS.F ht⟩) hS.2.2 dX12_two_216
    · obtain rfl : p0 = 50 := eh_1.trans (by decide)
      refine lv_tableIn (tgt := 203) hx hb dX12_two_1 (by decide) (by decide) (off := 202) (by decide) (by decide) ?_
      refine lv_iload_n hx hb dX12_two_203 rfl (lv_at hl 1 rfl) ?_
      refine lv_if_ne (tgt := 211) hx hb dX12_two_204 (by decide) (fun c_67 => ?_) (fun c_67 => ?_)
      · have f_68 := E_ne (rfl : p1.toInt = _) (by decide : (0 : Int32).toInt = 0) c_67
        refine lv_iconst (v := 1) hx hb dX12_two_211 (by decide) ?_
        refine lv_goto (tgt := 216) hx hb dX12_two_212 (by decide) ?_
        have hP9 : va_P g.1 vwCl [] H := hP.sub [] rfl
        have hD9 : va_D A [] := ⟨fun i j p q h => by simp at h, fun k q h => by simp at h⟩
        exact W.iret (v := 1) hx hb hr (fun t ht hW => ⟨⟨1, (), rfl, trivial, by rw [ht]; exact hP9, by rw [hAe]; exact hD9⟩, hS.F ht⟩) hS.2.2 dX12_two_216
      · have f_69 := E_eq (rfl : p1.toInt = _) (by decide : (0 : Int32).toInt = 0) c_67
        refine lv_iload_n hx hb dX12_two_207 rfl (lv_at hl 2 rfl) ?_
        refine lv_if_eq (tgt := 215) hx hb dX12_two_208 (by decide) (fun c_70 => ?_) (fun c_70 => ?_)
        · have f_71 := E_eq (rfl : p2.toInt = _) (by decide : (0 : Int32).toInt = 0) c_70
          refine lv_iconst (v := 0) hx hb dX12_two_215 (by decide) ?_
          have hP9 : va_P g.1 vwCl [] H := hP.sub [] rfl
          have hD9 : va_D A [] := ⟨fun i j p q h => by simp at h, fun k q h => by simp at h⟩
          exact W.iret (v := 0) hx hb hr (fun t ht hW => ⟨⟨0, (), rfl, trivial, by rw [ht]; exact hP9, by rw [hAe]; exact hD9⟩, hS.F ht⟩) hS.2.2 dX12_two_216
        · have f_72 := E_ne (rfl : p2.toInt = _) (by decide : (0 : Int32).toInt = 0) c_70
          refine lv_iconst (v := 1) hx hb dX12_two_211 (by decide) ?_
          refine lv_goto (tgt := 216) hx hb dX12_two_212 (by decide) ?_
          have hP9 : va_P g.1 vwCl [] H := hP.sub [] rfl
          have hD9 : va_D A [] := ⟨fun i j p q h => by simp at h, fun k q h => by simp at h⟩
          exact W.iret (v := 1) hx hb hr (fun t ht hW => ⟨⟨1, (), rfl, trivial, by rw [ht]; exact hP9, by rw [hAe]; exact hD9⟩, hS.F ht⟩) hS.2.2 dX12_two_216
    · obtain rfl : p0 = 51 := eh_1.trans (by decide)
      refine lv_tableIn (tgt := 203) hx hb dX12_two_1 (by decide) (by decide) (off := 202) (by decide) (by decide) ?_
      refine lv_iload_n hx hb dX12_two_203 rfl (lv_at hl 1 rfl) ?_
      refine lv_if_ne (tgt := 211) hx hb dX12_two_204 (by decide) (fun c_73 => ?_) (fun c_73 => ?_)
      · have f_74 := E_ne (rfl : p1.toInt = _) (by decide : (0 : Int32).toInt = 0) c_73
        refine lv_iconst (v := 1) hx hb dX12_two_211 (by decide) ?_
        refine lv_goto (tgt := 216) hx hb dX12_two_212 (by decide) ?_
        have hP9 : va_P g.1 vwCl [] H := hP.sub [] rfl
        have hD9 : va_D A [] := ⟨fun i j p q h => by simp at h, fun k q h => by simp at h⟩
        exact W.iret (v := 1) hx hb hr (fun t ht hW => ⟨⟨1, (), rfl, trivial, by rw [ht]; exact hP9, by rw [hAe]; exact hD9⟩, hS.F ht⟩) hS.2.2 dX12_two_216
      · have f_75 := E_eq (rfl : p1.toInt = _) (by decide : (0 : Int32).toInt = 0) c_73
        refine lv_iload_n hx hb dX12_two_207 rfl (lv_at hl 2 rfl) ?_
        refine lv_if_eq (tgt := 215) hx hb dX12_two_208 (by decide) (fun c_76 => ?_) (fun c_76 => ?_)
        · have f_77 := E_eq (rfl : p2.toInt = _) (by decide : (0 : Int32).toInt = 0) c_76
          refine lv_iconst (v := 0) hx hb dX12_two_215 (by decide) ?_
          have hP9 : va_P g.1 vwCl [] H := hP.sub [] rfl
          have hD9 : va_D A [] := ⟨fun i j p q h => by simp at h, fun k q h => by simp at h⟩
          exact W.iret (v := 0) hx hb hr (fun t ht hW => ⟨⟨0, (), rfl, trivial, by rw [ht]; exact hP9, by rw [hAe]; exact hD9⟩, hS.F ht⟩) hS.2.2 dX12_two_216
        · have f_78 := E_ne (rfl : p2.toInt = _) (by decide : (0 : Int32).toInt = 0) c_76
          refine lv_iconst (v := 1) hx hb dX12_two_211 (by decide) ?_
          refine lv_goto (tgt := 216) hx hb dX12_two_212 (by decide) ?_
          have hP9 : va_P g.1 vwCl [] H := hP.sub [] rfl
          have hD9 : va_D A [] := ⟨fun i j p q h => by simp at h, fun k q h => by simp at h⟩
          exact W.iret (v := 1) hx hb hr (fun t ht hW => ⟨⟨1, (), rfl, trivial, by rw [ht]; exact hP9, by rw [hAe]; exact hD9⟩, hS.F ht⟩) hS.2.2 dX12_two_216
    · obtain rfl : p0 = 52 := eh_1.trans (by decide)
      refine lv_tableIn (tgt := 203) hx hb dX12_two_1 (by decide) (by decide) (off := 202) (by decide) (by decide) ?_
      refine lv_iload_n hx hb dX12_two_203 rfl (lv_at hl 1 rfl) ?_
      refine lv_if_ne (tgt := 211) hx hb dX12_two_204 (by decide) (fun c_79 => ?_) (fun c_79 => ?_)
      · have f_80 := E_ne (rfl : p1.toInt = _) (by decide : (0 : Int32).toInt = 0) c_79
        refine lv_iconst (v := 1) hx hb dX12_two_211 (by decide) ?_
        refine lv_goto (tgt := 216) hx hb dX12_two_212 (by decide) ?_
        have hP9 : va_P g.1 vwCl [] H := hP.sub [] rfl
        have hD9 : va_D A [] := ⟨fun i j p q h => by simp at h, fun k q h => by simp at h⟩
        exact W.iret (v := 1) hx hb hr (fun t ht hW => ⟨⟨1, (), rfl, trivial, by rw [ht]; exact hP9, by rw [hAe]; exact hD9⟩, hS.F ht⟩) hS.2.2 dX12_two_216
      · have f_81 := E_eq (rfl : p1.toInt = _) (by decide : (0 : Int32).toInt = 0) c_79
        refine lv_iload_n hx hb dX12_two_207 rfl (lv_at hl 2 rfl) ?_
        refine lv_if_eq (tgt := 215) hx hb dX12_two_208 (by decide) (fun c_82 => ?_) (fun c_82 => ?_)
        · have f_83 := E_eq (rfl : p2.toInt = _) (by decide : (0 : Int32).toInt = 0) c_82
          refine lv_iconst (v := 0) hx hb dX12_two_215 (by decide) ?_
          have hP9 : va_P g.1 vwCl [] H := hP.sub [] rfl
          have hD9 : va_D A [] := ⟨fun i j p q h => by simp at h, fun k q h => by simp at h⟩
          exact W.iret (v := 0) hx hb hr (fun t ht hW => ⟨⟨0, (), rfl, trivial, by rw [ht]; exact hP9, by rw [hAe]; exact hD9⟩, hS.F ht⟩) hS.2.2 dX12_two_216
        · have f_84 := E_ne (rfl : p2.toInt = _) (by decide : (0 : Int32).toInt = 0) c_82
          refine lv_iconst (v := 1) hx hb dX12_two_211 (by decide) ?_
          refine lv_goto (tgt := 216) hx hb dX12_two_212 (by decide) ?_
          have hP9 : va_P g.1 vwCl [] H := hP.sub [] rfl
          have hD9 : va_D A [] := ⟨fun i j p q h => by simp at h, fun k q h => by simp at h⟩
          exact W.iret (v := 1) hx hb hr (fun t ht hW => ⟨⟨1, (), rfl, trivial, by rw [ht]; exact hP9, by rw [hAe]; exact hD9⟩, hS.F ht⟩) hS.2.2 dX12_two_216
    · obtain rfl : p0 = 53 := eh_1.trans (by decide)
      refine lv_tableIn (tgt := 203) hx hb dX12_two_1 (by decide) (by decide) (off := 202) (by decide) (by decide) ?_
      refine lv_iload_n hx hb dX12_two_203 rfl (lv_at hl 1 rfl) ?_
      refine lv_if_ne (tgt := 211) hx hb dX12_two_204 (by decide) (fun c_85 => ?_) (fun c_85 => ?_)
      · have f_86 := E_ne (rfl : p1.toInt = _) (by decide : (0 : Int32).toInt = 0) c_85
        refine lv_iconst (v := 1) hx hb dX12_two_211 (by decide) ?_
        refine lv_goto (tgt := 216) hx hb dX12_two_212 (by decide) ?_
        have hP9 : va_P g.1 vwCl [] H := hP.sub [] rfl
        have hD9 : va_D A [] := ⟨fun i j p q h => by simp at h, fun k q h => by simp at h⟩
        exact W.iret (v := 1) hx hb hr (fun t ht hW => ⟨⟨1, (), rfl, trivial, by rw [ht]; exact hP9, by rw [hAe]; exact hD9⟩, hS.F ht⟩) hS.2.2 dX12_two_216
      · have f_87 := E_eq (rfl : p1.toInt = _) (by decide : (0 : Int32).toInt = 0) c_85
        refine lv_iload_n hx hb dX12_two_207 rfl (lv_at hl 2 rfl) ?_
        refine lv_if_eq (tgt := 215) hx hb dX12_two_208 (by decide) (fun c_88 => ?_) (fun c_88 => ?_)
        · have f_89 := E_eq (rfl : p2.toInt = _) (by decide : (0 : Int32).toInt = 0) c_88
          refine lv_iconst (v := 0) hx hb dX12_two_215 (by decide) ?_
          have hP9 : va_P g.1 vwCl [] H := hP.sub [] rfl
          have hD9 : va_D A [] := ⟨fun i j p q h => by simp at h, fun k q h => by simp at h⟩
          exact W.iret (v := 0) hx hb hr (fun t ht hW => ⟨⟨0, (), rfl, trivial, by rw [ht]; exact hP9, by rw [hAe]; exact hD9⟩, hS.F ht⟩) hS.2.2 dX12_two_216
        · have f_90 := E_ne (rfl : p2.toInt = _) (by decide : (0 : Int32).toInt = 0) c_88
          refine lv_iconst (v := 1) hx hb dX12_two_211 (by decide) ?_
          refine lv_goto (tgt := 216) hx hb dX12_two_212 (by decide) ?_
          have hP9 : va_P g.1 vwCl [] H := hP.sub [] rfl
          have hD9 : va_D A [] := ⟨fun i j p q h => by simp at h, fun k q h => by simp at h⟩
          exact W.iret (v := 1) hx hb hr (fun t ht hW => ⟨⟨1, (), rfl, trivial, by rw [ht]; exact hP9, by rw [hAe]; exact hD9⟩, hS.F ht⟩) hS.2.2 dX12_two_216
    · obtain rfl : p0 = 54 := eh_1.trans (by decide)
      refine lv_tableIn (tgt := 203) hx hb dX12_two_1 (by decide) (by decide) (off := 202) (by decide) (by decide) ?_
      refine lv_iload_n hx hb dX12_two_203 rfl (lv_at hl 1 rfl) ?_
      refine lv_if_ne (tgt := 211) hx hb dX12_two_204 (by decide) (fun c_91 => ?_) (fun c_91 => ?_)
      · have f_92 := E_ne (rfl : p1.toInt = _) (by decide : (0 : Int32).toInt = 0) c_91
        refine lv_iconst (v := 1) hx hb dX12_two_211 (by decide) ?_
        refine lv_goto (tgt := 216) hx hb dX12_two_212 (by decide) ?_
        have hP9 : va_P g.1 vwCl [] H := hP.sub [] rfl
        have hD9 : va_D A [] := ⟨fun i j p q h => by simp at h, fun k q h => by simp at h⟩
        exact W.iret (v := 1) hx hb hr (fun t ht hW => ⟨⟨1, (), rfl, trivial, by rw [ht]; exact hP9, by rw [hAe]; exact hD9⟩, hS.F ht⟩) hS.2.2 dX12_two_216
      · have f_93 := E_eq (rfl : p1.toInt = _) (by decide : (0 : Int32).toInt = 0) c_91
        refine lv_iload_n hx hb dX12_two_207 rfl (lv_at hl 2 rfl) ?_
        refine lv_if_eq (tgt := 215) hx hb dX12_two_208 (by decide) (fun c_94 => ?_) (fun c_94 => ?_)
        · have f_95 := E_eq (rfl : p2.toInt = _) (by decide : (0 : Int32).toInt = 0) c_94
          refine lv_iconst (v := 0) hx hb dX12_two_215 (by decide) ?_
          have hP9 : va_P g.1 vwCl [] H := hP.sub [] rfl
          have hD9 : va_D A [] := ⟨fun i j p q h => by simp at h, fun k q h => by simp at h⟩
          exact W.iret (v := 0) hx hb hr (fun t ht hW => ⟨⟨0, (), rfl, trivial, by rw [ht]; exact hP9, by rw [hAe]; exact hD9⟩, hS.F ht⟩) hS.2.2 dX12_two_216
        · have f_96 := E_ne (rfl : p2.toInt = _) (by decide : (0 : Int32).toInt = 0) c_94
          refine lv_iconst (v := 1) hx hb dX12_two_211 (by decide) ?_
          refine lv_goto (tgt := 216) hx hb dX12_two_212 (by decide) ?_
          have hP9 : va_P g.1 vwCl [] H := hP.sub [] rfl
          have hD9 : va_D A [] := ⟨fun i j p q h => by simp at h, fun k q h => by simp at h⟩
          exact W.iret (v := 1) hx hb hr (fun t ht hW => ⟨⟨1, (), rfl, trivial, by rw [ht]; exact hP9, by rw [hAe]; exact hD9⟩, hS.F ht⟩) hS.2.2 dX12_two_216
    · obtain rfl : p0 = 55 := eh_1.trans (by decide)
      refine lv_tableIn (tgt := 203) hx hb dX12_two_1 (by decide) (by decide) (off := 202) (by decide) (by decide) ?_
      refine lv_iload_n hx hb dX12_two_203 rfl (lv_at hl 1 rfl) ?_
      refine lv_if_ne (tgt := 211) hx hb dX12_two_204 (by decide) (fun c_97 => ?_) (fun c_97 => ?_)
      · have f_98 := E_ne (rfl : p1.toInt = _) (by decide : (0 : Int32).toInt = 0) c_97
        refine lv_iconst (v := 1) hx hb dX12_two_211 (by decide) ?_
        refine lv_goto (tgt := 216) hx hb dX12_two_212 (by decide) ?_
        have hP9 : va_P g.1 vwCl [] H := hP.sub [] rfl
        have hD9 : va_D A [] := ⟨fun i j p q h => by simp at h, fun k q h => by simp at h⟩
        exact W.iret (v := 1) hx hb hr (fun t ht hW => ⟨⟨1, (), rfl, trivial, by rw [ht]; exact hP9, by rw [hAe]; exact hD9⟩, hS.F ht⟩) hS.2.2 dX12_two_216
      · have f_99 := E_eq (rfl : p1.toInt = _) (by decide : (0 : Int32).toInt = 0) c_97
        refine lv_iload_n hx hb dX12_two_207 rfl (lv_at hl 2 rfl) ?_
        refine lv_if_eq (tgt := 215) hx hb dX12_two_208 (by decide) (fun c_100 => ?_) (fun c_100 => ?_)
        · have f_101 := E_eq (rfl : p2.toInt = _) (by decide : (0 : Int32).toInt = 0) c_100
          refine lv_iconst (v := 0) hx hb dX12_two_215 (by decide) ?_
          have hP9 : va_P g.1 vwCl [] H := hP.sub [] rfl
          have hD9 : va_D A [] := ⟨fun i j p q h => by simp at h, fun k q h => by simp at h⟩
          exact W.iret (v := 0) hx hb hr (fun t ht hW => ⟨⟨0, (), rfl, trivial, by rw [ht]; exact hP9, by rw [hAe]; exact hD9⟩, hS.F ht⟩) hS.2.2 dX12_two_216
        · have f_102 := E_ne (rfl : p2.toInt = _) (by decide : (0 : Int32).toInt = 0) c_100
          refine lv_iconst (v := 1) hx hb dX12_two_211 (by decide) ?_
          refine lv_goto (tgt := 216) hx hb dX12_two_212 (by decide) ?_
          have hP9 : va_P g.1 vwCl [] H := hP.sub [] rfl
          have hD9 : va_D A [] := ⟨fun i j p q h => by simp at h, fun k q h => by simp at h⟩
          exact W.iret (v := 1) hx hb hr (fun t ht hW => ⟨⟨1, (), rfl, trivial, by rw [ht]; exact hP9, by rw [hAe]; exact hD9⟩, hS.F ht⟩) hS.2.2 dX12_two_216
    · obtain rfl : p0 = 56 := eh_1.trans (by decide)
      refine lv_tableIn (tgt := 203) hx hb dX12_two_1 (by decide) (by decide) (off := 202) (by decide) (by decide) ?_
      refine lv_iload_n hx hb dX12_two_203 rfl (lv_at hl 1 rfl) ?_
      refine lv_if_ne (tgt := 211) hx hb dX12_two_204 (by decide) (fun c_103 => ?_) (fun c_103 => ?_)
      · have f_104 := E_ne (rfl : p1.toInt = _) (by decide : (0 : Int32).toInt = 0) c_103
        refine lv_iconst (v := 1) hx hb dX12_two_211 (by decide) ?_
        refine lv_goto (tgt := 216) hx hb dX12_two_212 (by decide) ?_
        have hP9 : va_P g.1 vwCl [] H := hP.sub [] rfl
        have hD9 : va_D A [] := ⟨fun i j p q h => by simp at h, fun k q h => by simp at h⟩
        exact W.iret (v := 1) hx hb hr (fun t ht hW => ⟨⟨1, (), rfl, trivial, by rw [ht]; exact hP9, by rw [hAe]; exact hD9⟩, hS.F ht⟩) hS.2.2 dX12_two_216
      · have f_105 := E_eq (rfl : p1.toInt = _) (by decide : (0 : Int32).toInt = 0) c_103
        refine lv_iload_n hx hb dX12_two_207 rfl (lv_at hl 2 rfl) ?_
        refine lv_if_eq (tgt := 215) hx hb dX12_two_208 (by decide) (fun c_106 => ?_) (fun c_106 => ?_)
        · have f_107 := E_eq (rfl : p2.toInt = _) (by decide : (0 : Int32).toInt = 0) c_106
          refine lv_iconst (v := 0) hx hb dX12_two_215 (by decide) ?_
          have hP9 : va_P g.1 vwCl [] H := hP.sub [] rfl
          have hD9 : va_D A [] := ⟨fun i j p q h => by simp at h, fun k q h => by simp at h⟩
          exact W.iret (v := 0) hx hb hr (fun t ht hW => ⟨⟨0, (), rfl, trivial, by rw [ht]; exact hP9, by rw [hAe]; exact hD9⟩, hS.F ht⟩) hS.2.2 dX12_two_216
        · have f_108 := E_ne (rfl : p2.toInt = _) (by decide : (0 : Int32).toInt = 0) c_106
          refine lv_iconst (v := 1) hx hb dX12_two_211 (by decide) ?_
          refine lv_goto (tgt := 216) hx hb dX12_two_212 (by decide) ?_
          have hP9 : va_P g.1 vwCl [] H := hP.sub [] rfl
          have hD9 : va_D A [] := ⟨fun i j p q h => by simp at h, fun k q h => by simp at h⟩
          exact W.iret (v := 1) hx hb hr (fun t ht hW => ⟨⟨1, (), rfl, trivial, by rw [ht]; exact hP9, by rw [hAe]; exact hD9⟩, hS.F ht⟩) hS.2.2 dX12_two_216
    · obtain rfl : p0 = 57 := eh_1.trans (by decide)
      refine lv_tableIn (tgt := 203) hx hb dX12_two_1 (by decide) (by decide) (off := 202) (by decide) (by decide) ?_
      refine lv_iload_n hx hb dX12_two_203 rfl (lv_at hl 1 rfl) ?_
      refine lv_if_ne (tgt := 211) hx hb dX12_two_204 (by decide) (fun c_109 => ?_) (fun c_109 => ?_)
      · have f_110 := E_ne (rfl : p1.toInt = _) (by decide : (0 : Int32).toInt = 0) c_109
        refine lv_iconst (v := 1) hx hb dX12_two_211 (by decide) ?_
        refine lv_goto (tgt := 216) hx hb dX12_two_212 (by decide) ?_
        have hP9 : va_P g.1 vwCl [] H := hP.sub [] rfl
        have hD9 : va_D A [] := ⟨fun i j p q h => by simp at h, fun k q h => by simp at h⟩
        exact W.iret (v := 1) hx hb hr (fun t ht hW => ⟨⟨1, (), rfl, trivial, by rw [ht]; exact hP9, by rw [hAe]; exact hD9⟩, hS.F ht⟩) hS.2.2 dX12_two_216
      · have f_111 := E_eq (rfl : p1.toInt = _) (by decide : (0 : Int32).toInt = 0) c_109
        refine lv_iload_n hx hb dX12_two_207 rfl (lv_at hl 2 rfl) ?_
        refine lv_if_eq (tgt := 215) hx hb dX12_two_208 (by decide) (fun c_112 => ?_) (fun c_112 => ?_)
        · have f_113 := E_eq (rfl : p2.toInt = _) (by decide : (0 : Int32).toInt = 0) c_112
          refine lv_iconst (v := 0) hx hb dX12_two_215 (by decide) ?_
          have hP9 : va_P g.1 vwCl [] H := hP.sub [] rfl
          have hD9 : va_D A [] := ⟨fun i j p q h => by simp at h, fun k q h => by simp at h⟩
          exact W.iret (v := 0) hx hb hr (fun t ht hW => ⟨⟨0, (), rfl, trivial, by rw [ht]; exact hP9, by rw [hAe]; exact hD9⟩, hS.F ht⟩) hS.2.2 dX12_two_216
        · have f_114 := E_ne (rfl : p2.toInt = _) (by decide : (0 : Int32).toInt = 0) c_112
          refine lv_iconst (v := 1) hx hb dX12_two_211 (by decide) ?_
          refine lv_goto (tgt := 216) hx hb dX12_two_212 (by decide) ?_
          have hP9 : va_P g.1 vwCl [] H := hP.sub [] rfl
          have hD9 : va_D A [] := ⟨fun i j p q h => by simp at h, fun k q h => by simp at h⟩
          exact W.iret (v := 1) hx hb hr (fun t ht hW => ⟨⟨1, (), rfl, trivial, by rw [ht]; exact hP9, by rw [hAe]; exact hD9⟩, hS.F ht⟩) hS.2.2 dX12_two_216
    · obtain rfl : p0 = 58 := eh_1.trans (by decide)
      refine lv_tableIn (tgt := 203) hx hb dX12_two_1 (by decide) (by decide) (off := 202) (by decide) (by decide) ?_
      refine lv_iload_n hx hb dX12_two_203 rfl (lv_at hl 1 rfl) ?_
      refine lv_if_ne (tgt := 211) hx hb dX12_two_204 (by decide) (fun c_115 => ?_) (fun c_115 => ?_)
      · have f_116 := E_ne (rfl : p1.toInt = _) (by decide : (0 : Int32).toInt = 0) c_115
        refine lv_iconst (v := 1) hx hb dX12_two_211 (by decide) ?_
        refine lv_goto (tgt := 216) hx hb dX12_two_212 (by decide) ?_
        have hP9 : va_P g.1 vwCl [] H := hP.sub [] rfl
        have hD9 : va_D A [] := ⟨fun i j p q h => by simp at h, fun k q h => by simp at h⟩
        exact W.iret (v := 1) hx hb hr (fun t ht hW => ⟨⟨1, (), rfl, trivial, by rw [ht]; exact hP9, by rw [hAe]; exact hD9⟩, hS.F ht⟩) hS.2.2 dX12_two_216
      · have f_117 := E_eq (rfl : p1.toInt = _) (by decide : (0 : Int32).toInt = 0) c_115
        refine lv_iload_n hx hb dX12_two_207 rfl (lv_at hl 2 rfl) ?_
        refine lv_if_eq (tgt := 215) hx hb dX12_two_208 (by decide) (fun c_118 => ?_) (fun c_118 => ?_)
        · have f_119 := E_eq (rfl : p2.toInt = _) (by decide : (0 : Int32).toInt = 0) c_118
          refine lv_iconst (v := 0) hx hb dX12_two_215 (by decide) ?_
          have hP9 : va_P g.1 vwCl [] H := hP.sub [] rfl
          have hD9 : va_D A [] := ⟨fun i j p q h => by simp at h, fun k q h => by simp at h⟩
          exact W.iret (v := 0) hx hb hr (fun t ht hW => ⟨⟨0, (), rfl, trivial, by rw [ht]; exact hP9, by rw [hAe]; exact hD9⟩, hS.F ht⟩) hS.2.2 dX12_two_216
        · have f_120 := E_ne (rfl : p2.toInt = _) (by decide : (0 : Int32).toInt = 0) c_118
          refine lv_iconst (v := 1) hx hb dX12_two_211 (by decide) ?_
          refine lv_goto (tgt := 216) hx hb dX12_two_212 (by decide) ?_
          have hP9 : va_P g.1 vwCl [] H := hP.sub [] rfl
          have hD9 : va_D A [] := ⟨fun i j p q h => by simp at h, fun k q h => by simp at h⟩
          exact W.iret (v := 1) hx hb hr (fun t ht hW => ⟨⟨1, (), rfl, trivial, by rw [ht]; exact hP9, by rw [hAe]; exact hD9⟩, hS.F ht⟩) hS.2.2 dX12_two_216
    · obtain rfl : p0 = 59 := eh_1.trans (by decide)
      refine lv_tableIn (tgt := 203) hx hb dX12_two_1 (by decide) (by decide) (off := 202) (by decide) (by decide) ?_
      refine lv_iload_n hx hb dX12_two_203 rfl (lv_at hl 1 rfl) ?_
      refine lv_if_ne (tgt := 211) hx hb dX12_two_204 (by decide) (fun c_121 => ?_) (fun c_121 => ?_)
      · have f_122 := E_ne (rfl : p1.toInt = _) (by decide : (0 : Int32).toInt = 0) c_121
        refine lv_iconst (v := 1) hx hb dX12_two_211 (by decide) ?_
        refine lv_goto (tgt := 216) hx hb dX12_two_212 (by decide) ?_
        have hP9 : va_P g.1 vwCl [] H := hP.sub [] rfl
        have hD9 : va_D A [] := ⟨fun i j p q h => by simp at h, fun k q h => by simp at h⟩
        exact W.iret (v := 1) hx hb hr (fun t ht hW => ⟨⟨1, (), rfl, trivial, by rw [ht]; exact hP9, by rw [hAe]; exact hD9⟩, hS.F ht⟩) hS.2.2 dX12_two_216
      · have f_123 := E_eq (rfl : p1.toInt = _) (by decide : (0 : Int32).toInt = 0) c_121
        refine lv_iload_n hx hb dX12_two_207 rfl (lv_at hl 2 rfl) ?_
        refine lv_if_eq (tgt := 215) hx hb dX12_two_208 (by decide) (fun c_124 => ?_) (fun c_124 => ?_)
        · have f_125 := E_eq (rfl : p2.toInt = _) (by decide : (0 : Int32).toInt = 0) c_124
          refine lv_iconst (v := 0) hx hb dX12_two_215 (by decide) ?_
          have hP9 : va_P g.1 vwCl [] H := hP.sub [] rfl
          have hD9 : va_D A [] := ⟨fun i j p q h => by simp at h, fun k q h => by simp at h⟩
          exact W.iret (v := 0) hx hb hr (fun t ht hW => ⟨⟨0, (), rfl, trivial, by rw [ht]; exact hP9, by rw [hAe]; exact hD9⟩, hS.F ht⟩) hS.2.2 dX12_two_216
        · have f_126 := E_ne (rfl : p2.toInt = _) (by decide : (0 : Int32).toInt = 0) c_124
          refine lv_iconst (v := 1) hx hb dX12_two_211 (by decide) ?_
          refine lv_goto (tgt := 216) hx hb dX12_two_212 (by decide) ?_
          have hP9 : va_P g.1 vwCl [] H := hP.sub [] rfl
          have hD9 : va_D A [] := ⟨fun i j p q h => by simp at h, fun k q h => by simp at h⟩
          exact W.iret (v := 1) hx hb hr (fun t ht hW => ⟨⟨1, (), rfl, trivial, by rw [ht]; exact hP9, by rw [hAe]; exact hD9⟩, hS.F ht⟩) hS.2.2 dX12_two_216
    · obtain rfl : p0 = 60 := eh_1.trans (by decide)
      refine lv_tableIn (tgt := 156) hx hb dX12_two_1 (by decide) (by decide) (off := 155) (by decide) (by decide) ?_
      refine lv_iload_n hx hb dX12_two_156 rfl (lv_at hl 1 rfl) ?_
      refine lv_iload_n hx hb dX12_two_157 rfl (lv_at hl 2 rfl) ?_
      refine lv_icmp_ge (tgt := 165) hx hb dX12_two_158 (by decide) (fun c_127 => ?_) (fun c_127 => ?_)
      · have f_128 := E_le (rfl : p2.toInt = _) (rfl : p1.toInt = _) c_127
        refine lv_iconst (v := 0) hx hb dX12_two_165 (by decide) ?_
        have hP9 : va_P g.1 vwCl [] H := hP.sub [] rfl
        have hD9 : va_D A [] := ⟨fun i j p q h => by simp at h, fun k q h => by simp at h⟩
        exact W.iret (v := 0) hx hb hr (fun t ht hW => ⟨⟨0, (), rfl, trivial, by rw [ht]; exact hP9, by rw [hAe]; exact hD9⟩, hS.F ht⟩) hS.2.2 dX12_two_166
      · have f_129 := E_nle (rfl : p2.toInt = _) (rfl : p1.toInt = _) c_127
        refine lv_iconst (v := 1) hx hb dX12_two_161 (by decide) ?_
        refine lv_goto (tgt := 166) hx hb dX12_two_162 (by decide) ?_
        have hP9 : va_P g.1 vwCl [] H := hP.sub [] rfl
        have hD9 : va_D A [] := ⟨fun i j p q h => by simp at h, fun k q h => by simp at h⟩
        exact W.iret (v := 1) hx hb hr (fun t ht hW => ⟨⟨1, (), rfl, trivial, by rw [ht]; exact hP9, by rw [hAe]; exact hD9⟩, hS.F ht⟩) hS.2.2 dX12_two_166
    · obtain rfl : p0 = 61 := eh_1.trans (by decide)
      refine lv_tableIn (tgt := 178) hx hb dX12_two_1 (by decide) (by decide) (off := 177) (by decide) (by decide) ?_
      refine lv_iload_n hx hb dX12_two_178 rfl (lv_at hl 1 rfl) ?_
      refine lv_iload_n hx hb dX12_two_179 rfl (lv_at hl 2 rfl) ?_
      refine lv_icmp_ne (tgt := 187) hx hb dX12_two_180 (by decide) (fun c_130 => ?_) (fun c_130 => ?_)
      · have f_131 := E_ne (rfl : p1.toInt = _) (rfl : p2.toInt = _) c_130
        refine lv_iconst (v := 0) hx hb dX12_two_187 (by decide) ?_
        have hP9 : va_P g.1 vwCl [] H := hP.sub [] rfl
        have hD9 : va_D A [] := ⟨fun i j p q h => by simp at h, fun k q h => by simp at h⟩
        exact W.iret (v := 0) hx hb hr (fun t ht hW => ⟨⟨0, (), rfl, trivial, by rw [ht]; exact hP9, by rw [hAe]; exact hD9⟩, hS.F ht⟩) hS.2.2 dX12_two_188
      · have f_132 := E_eq (rfl : p1.toInt = _) (rfl : p2.toInt = _) c_130
        refine lv_iconst (v := 1) hx hb dX12_two_183 (by decide) ?_
        refine lv_goto (tgt := 188) hx hb dX12_two_184 (by decide) ?_
        have hP9 : va_P g.1 vwCl [] H := hP.sub [] rfl
        have hD9 : va_D A [] := ⟨fun i j p q h => by simp at h, fun k q h => by simp at h⟩
        exact W.iret (v := 1) hx hb hr (fun t ht hW => ⟨⟨1, (), rfl, trivial, by rw [ht]; exact hP9, by rw [hAe]; exact hD9⟩, hS.F ht⟩) hS.2.2 dX12_two_188
    · obtain rfl : p0 = 62 := eh_1.trans (by decide)
      refine lv_tableIn (tgt := 167) hx hb dX12_two_1 (by decide) (by decide) (off := 166) (by decide) (by decide) ?_
      refine lv_iload_n hx hb dX12_two_167 rfl (lv_at hl 1 rfl) ?_
      refine lv_iload_n hx hb dX12_two_168 rfl (lv_at hl 2 rfl) ?_
      refine lv_icmp_le (tgt := 176) hx hb dX12_two_169 (by decide) (fun c_133 => ?_) (fun c_133 => ?_)
      · have f_134 := E_le (rfl : p1.toInt = _) (rfl : p2.toInt = _) c_133
        refine lv_iconst (v := 0) hx hb dX12_two_176 (by decide) ?_
        have hP9 : va_P g.1 vwCl [] H := hP.sub [] rfl
        have hD9 : va_D A [] := ⟨fun i j p q h => by simp at h, fun k q h => by simp at h⟩
        exact W.iret (v := 0) hx hb hr (fun t ht hW => ⟨⟨0, (), rfl, trivial, by rw [ht]; exact hP9, by rw [hAe]; exact hD9⟩, hS.F ht⟩) hS.2.2 dX12_two_177
      · have f_135 := E_nle (rfl : p1.toInt = _) (rfl : p2.toInt = _) c_133
        refine lv_iconst (v := 1) hx hb dX12_two_172 (by decide) ?_
        refine lv_goto (tgt := 177) hx hb dX12_two_173 (by decide) ?_
        have hP9 : va_P g.1 vwCl [] H := hP.sub [] rfl
        have hD9 : va_D A [] := ⟨fun i j p q h => by simp at h, fun k q h => by simp at h⟩
        exact W.iret (v := 1) hx hb hr (fun t ht hW => ⟨⟨1, (), rfl, trivial, by rw [ht]; exact hP9, by rw [hAe]; exact hD9⟩, hS.F ht⟩) hS.2.2 dX12_two_177

theorem bw_851 : Cond.fieldLink RX12 401 "DuelDelaysModel" "askSpent" "I" ∈ gT := gT_tb 1356 (by decide +kernel) (by decide +kernel)
theorem bw_852 : Cond.fieldLink RX12 398 "DuelDelaysModel" "askUses" "I" ∈ gT := gT_tb 1355 (by decide +kernel) (by decide +kernel)
theorem bw_853 : Cond.fieldLink RX12 395 "DuelDelaysModel" "askDay" "I" ∈ gT := gT_tb 1354 (by decide +kernel) (by decide +kernel)
theorem bw_854 : Cond.code yX12_asked cX12_asked 3 (some .int) ∈ gT := gT_tb 1800 (by decide +kernel) (by decide +kernel)
theorem dX12_asked_0 : decode cX12_asked 0 = .ok (.iload_n 1, 1) := by decide +kernel
theorem dX12_asked_1 : decode cX12_asked 1 = .ok (.bipush 100, 2) := by decide +kernel
theorem dX12_asked_3 : decode cX12_asked 3 = .ok (.if_icmp .ne 10, 3) := by decide +kernel
theorem dX12_asked_6 : decode cX12_asked 6 = .ok (.aload_n 0, 1) := by decide +kernel
theorem dX12_asked_7 : decode cX12_asked 7 = .ok (.getfield 395, 3) := by decide +kernel
theorem dX12_asked_10 : decode cX12_asked 10 = .ok (.goto 30, 3) := by decide +kernel
theorem dX12_asked_13 : decode cX12_asked 13 = .ok (.iload_n 1, 1) := by decide +kernel
theorem dX12_asked_14 : decode cX12_asked 14 = .ok (.bipush 117, 2) := by decide +kernel
theorem dX12_asked_16 : decode cX12_asked 16 = .ok (.if_icmp .ne 10, 3) := by decide +kernel
theorem dX12_asked_19 : decode cX12_asked 19 = .ok (.aload_n 0, 1) := by decide +kernel
theorem dX12_asked_20 : decode cX12_asked 20 = .ok (.getfield 398, 3) := by decide +kernel
theorem dX12_asked_23 : decode cX12_asked 23 = .ok (.goto 17, 3) := by decide +kernel
theorem dX12_asked_26 : decode cX12_asked 26 = .ok (.iload_n 1, 1) := by decide +kernel
theorem dX12_asked_27 : decode cX12_asked 27 = .ok (.bipush 115, 2) := by decide +kernel
theorem dX12_asked_29 : decode cX12_asked 29 = .ok (.if_icmp .ne 10, 3) := by decide +kernel
theorem dX12_asked_32 : decode cX12_asked 32 = .ok (.aload_n 0, 1) := by decide +kernel
theorem dX12_asked_33 : decode cX12_asked 33 = .ok (.getfield 401, 3) := by decide +kernel
theorem dX12_asked_36 : decode cX12_asked 36 = .ok (.goto 4, 3) := by decide +kernel
theorem dX12_asked_39 : decode cX12_asked 39 = .ok (.iload_n 2, 1) := by decide +kernel
theorem dX12_asked_40 : decode cX12_asked 40 = .ok (.ireturn, 1) := by decide +kernel
set_option maxHeartbeats 40000000 in
set_option maxRecDepth 100000 in
theorem s_X12_asked (l : Launch) (g : GG) (sz : Nat) (h : Nat) (mtape : Nat) (mtext : Nat) (mtaped : Int32) (msize : Int32) (mfaultKind : Int32) (mfaultPlace : Int32) (mat : Int32) (mend : Int32) (mtoken : Int32) (mnumber : Int32) (mname : Int64) (mmen : Nat) (mkinds : Nat) (mreasons : Nat) (mtold : Nat) (munits : Nat) (mhonour : Nat) (mdraw : Nat) (mdies : Nat) (mcoin : Nat) (msonOf : Nat) (mkindOf : Nat) (mowner : Nat) (mfirst : Nat) (mlast : Nat) (mrent : Nat) (msort : Nat) (mduelOne : Nat) (mduelOther : Nat) (mduelOn : Nat) (mruleFrom : Nat) (mruleTo : Nat) (mhasHonour : Nat) (mhasDraw : Nat) (mmName : Nat) (mkName : Nat) (mrName : Nat) (mdName : Nat) (mcode : Nat) (mcodeNumber : Nat) (meWhat : Nat) (meSign : Nat) (mpile : Nat) (mbank : Int32) (mrb : Int32) (mcodes : Int32) (mwithin : Int32) (mpiled : Int32) (munitsInRule : Int32) (maskDay : Int32) (maskUses : Int32) (maskSpent : Int32) (mall : Nat) (mwas : Nat) (macts : Int32) (mundone : Int32) (musedBy0 : Nat) (musedBy1 : Nat) (mmornings : Nat) (mcameFrom : Nat) (mcameBy : Nat) (mlevelAt : Nat) (mwins : Nat) (mslots : Nat) (mlevelOf : Nat) (mworthOf : Nat) (mstates : Int32) (mlevels : Int32) (mside0 : Int32) (mside1 : Int32) (mdeathDay : Int32) (maway : Int32) (mhires : Int32) (mhirer : Int32) (mslotFound : Int32) (misSpent : Int32) (mfound : Int32) (mlaid : Int32) (mlaidRow : Nat) (mgReason : Nat) (mgDay : Nat) (mgTold : Nat) (mgUntold : Nat) (msights : Int32) (mtime : Int32) (mboxAll : Nat) (misBoxed : Nat) (p0 : Int32) (p1 : Int32) (hh0 : 0 ≤ mtaped.toInt ∧ mtaped.toInt ≤ 1600) (hh1 : 0 ≤ msize.toInt ∧ msize.toInt ≤ 1600) (hh2 : 0 ≤ mat.toInt ∧ mat.toInt ≤ 1600) (hh3 : 0 ≤ mend.toInt ∧ mend.toInt ≤ 1600) (hh4 : 0 ≤ mtoken.toInt ∧ mtoken.toInt ≤ 5) (hh18 : 0 ≤ mbank.toInt ∧ mbank.toInt ≤ 1) (hh19 : 0 ≤ mrb.toInt ∧ mrb.toInt ≤ 1) (hh20 : 0 ≤ mcodes.toInt ∧ mcodes.toInt ≤ 1120) (hh21 : 0 ≤ mpiled.toInt ∧ mpiled.toInt ≤ 90) (hh22 : 0 ≤ munitsInRule.toInt ∧ munitsInRule.toInt ≤ 30) (hh25 : 0 ≤ macts.toInt ∧ macts.toInt ≤ 40) (hh26 : 0 ≤ mundone.toInt ∧ mundone.toInt ≤ 40) (hh34 : 0 ≤ mstates.toInt ∧ mstates.toInt ≤ 3000) (hh35 : 0 ≤ mlevels.toInt ∧ mlevels.toInt ≤ 18) (hh36 : 0 ≤ mside0.toInt ∧ mside0.toInt ≤ 5) (hh37 : 0 ≤ mside1.toInt ∧ mside1.toInt ≤ 5) (hh38 : 0 ≤ mslotFound.toInt ∧ mslotFound.toInt ≤ 8191) (hh39 : 0 ≤ misSpent.toInt ∧ misSpent.toInt ≤ 1) (hh40 : 0 ≤ mlaid.toInt ∧ mlaid.toInt ≤ 16) (hh41 : 0 ≤ msights.toInt ∧ msights.toInt ≤ 30) (hh42 : 0 ≤ mtime.toInt ∧ mtime.toInt ≤ 100000) : Met l yX12_asked (.code yX12_asked cX12_asked 3 (some .int) :: gT) ({ frames := 0, cells := 0, slots := 0, locals := 0 }) (va_Pc [.ref h, .int p0, .int p1] (Pst g sz [(h, .inr (12, [.ref mtape, .ref mtext, .int mtaped, .int msize, .int mfaultKind, .int mfaultPlace, .int mat, .int mend, .int mtoken, .int mnumber, .long mname, .ref mmen, .ref mkinds, .ref mreasons, .ref mtold, .ref munits, .ref mhonour, .ref mdraw, .ref mdies, .ref mcoin, .ref msonOf, .ref mkindOf, .ref mowner, .ref mfirst, .ref mlast, .ref mrent, .ref msort, .ref mduelOne, .ref mduelOther, .ref mduelOn, .ref mruleFrom, .ref mruleTo, .ref mhasHonour, .ref mhasDraw, .ref mmName, .ref mkName, .ref mrName, .ref mdName, .ref mcode, .ref mcodeNumber, .ref meWhat, .ref meSign, .ref mpile, .int mbank, .int mrb, .int mcodes, .int mwithin, .int mpiled, .int munitsInRule, .int maskDay, .int maskUses, .int maskSpent, .ref mall, .ref mwas, .int macts, .int mundone, .ref musedBy0, .ref musedBy1, .ref mmornings, .ref mcameFrom, .ref mcameBy, .ref mlevelAt, .ref mwins, .ref mslots, .ref mlevelOf, .ref mworthOf, .int mstates, .int mlevels, .int mside0, .int mside1, .int mdeathDay, .int maway, .int mhires, .int mhirer, .int mslotFound, .int misSpent, .int mfound, .int mlaid, .ref mlaidRow, .ref mgReason, .ref mgDay, .ref mgTold, .ref mgUntold, .int msights, .int mtime, .ref mboxAll, .ref misBoxed]))] nX)) (va_Qi (fun (r : Int32) => fun (_ : Unit) => True) (Qst g [] sz (fun _ => [])) (va_A [] sz)) 0 0 (va_A [] sz) := by
  refine Met.ofW (cc := cX12_asked) (maxL := 3) (ret := (some .int)) (by decide) rfl ?_
  intro p e s m args below meth c s₁ B hml hv
  obtain ⟨rfl, hsz, hP, hK, hD0, hX⟩ := hv
  have hx := B.exec
  have hb := B.bytes
  have hr := B.returns
  have hT : ∀ w ∈ gT, w.before _ s = true := fun w h => atoms_spec (ws := .code yX12_asked cX12_asked 3 (some .int) :: gT) B.pre w (List.mem_cons_of_mem _ h)
  have hown : s.vm.findClass RX12 = some m.cls := findClass_of_methodNamed B.named
  have hlocks := B.notSynchronized
  subst hsz
  have hD := hD0
  generalize hAe : va_A [] s.heap.size = A at ⊢
  have hA : ∀ q : Nat, s.heap.size ≤ q → A q := fun q h => by rw [← hAe]; exact Or.inr h
  have hS : va_S A s.heap s.heap [] := va_S.rf
  have hl := lv_entry ([.ref h, .int p0, .int p1]) (n := 3) (Nat.le_of_ble_eq_true rfl)
  rw [lg_entry_eq]
  generalize (lg_sl ([.ref h, .int p0, .int p1]) ++ List.replicate (3 - (lg_sl ([.ref h, .int p0, .int p1])).length) Slot.unset).toArray = ls at hl ⊢
  have hl : lv_has ls 3 [(0, .ref h), (1, .int p0), (2, .int p1)] := hl
  refine p_nH (fun H hH => ?_)
  have hP : va_P g.1 vwCl [(h, .inr (12, [.ref mtape, .ref mtext, .int mtaped, .int msize, .int mfaultKind, .int mfaultPlace, .int mat, .int mend, .int mtoken, .int mnumber, .long mname, .ref mmen, .ref mkinds, .ref mreasons, .ref mtold, .ref munits, .ref mhonour, .ref mdraw, .ref mdies, .ref mcoin, .ref msonOf, .ref mkindOf, .ref mowner, .ref mfirst, .ref mlast, .ref mrent, .ref msort, .ref mduelOne, .ref mduelOther, .ref mduelOn, .ref mruleFrom, .ref mruleTo, .ref mhasHonour, .ref mhasDraw, .ref mmName, .ref mkName, .ref mrName, .ref mdName, .ref mcode, .ref mcodeNumber, .ref meWhat, .ref meSign, .ref mpile, .int mbank, .int mrb, .int mcodes, .int mwithin, .int mpiled, .int munitsInRule, .int maskDay, .int maskUses, .int maskSpent, .ref mall, .ref mwas, .int macts, .int mundone, .ref musedBy0, .ref musedBy1, .ref mmornings, .ref mcameFrom, .ref mcameBy, .ref mlevelAt, .ref mwins, .ref mslots, .ref mlevelOf, .ref mworthOf, .int mstates, .int mlevels, .int mside0, .int mside1, .int mdeathDay, .int maway, .int mhires, .int mhirer, .int mslotFound, .int misSpent, .int mfound, .int mlaid, .ref mlaidRow, .ref mgReason, .ref mgDay, .ref mgTold, .ref mgUntold, .int msights, .int mtime, .ref mboxAll, .ref misBoxed]))] H := by rw [hH]; exact hP
  have hS : va_S A s.heap H [] := by rw [hH]; exact hS
  refine lv_iload_n hx hb dX12_asked_0 rfl (lv_at hl 1 rfl) ?_
  refine lv_bipush (v := 100) hx hb dX12_asked_1 (by decide) ?_
  refine lv_icmp_ne (tgt := 13) hx hb dX12_asked_3 (by decide) (fun c_1 => ?_) (fun c_1 => ?_)
  · have f_2 := E_ne (rfl : p0.toInt = _) (by decide : (100 : Int32).toInt = 100) c_1
    refine lv_iload_n hx hb dX12_asked_13 rfl (lv_at hl 1 rfl) ?_
    refine lv_bipush (v := 117) hx hb dX12_asked_14 (by decide) ?_
    refine lv_icmp_ne (tgt := 26) hx hb dX12_asked_16 (by decide) (fun c_3 => ?_) (fun c_3 => ?_)
    · have f_4 := E_ne (rfl : p0.toInt = _) (by decide : (117 : Int32).toInt = 117) c_3
      refine lv_iload_n hx hb dX12_asked_26 rfl (lv_at hl 1 rfl) ?_
      refine lv_bipush (v := 115) hx hb dX12_asked_27 (by decide) ?_
      refine lv_icmp_ne (tgt := 39) hx hb dX12_asked_29 (by decide) (fun c_5 => ?_) (fun c_5 => ?_)
      · have f_6 := E_ne (rfl : p0.toInt = _) (by decide : (115 : Int32).toInt = 115) c_5
        refine lv_iload_n hx hb dX12_asked_39 rfl (lv_at hl 2 rfl) ?_
        have hP9 : va_P g.1 vwCl [] H := hP.sub [] rfl
        have hD9 : va_D A [] := ⟨fun i j p q h => by simp at h, fun k q h => by simp at h⟩
        exact W.iret (v := p1) hx hb hr (fun t ht hW => ⟨⟨p1, (), rfl, trivial, by rw [ht]; exact hP9, by rw [hAe]; exact hD9⟩, hS.F ht⟩) hS.2.2 dX12_asked_40
      · have f_7 := E_eq (rfl : p0.toInt = _) (by decide : (115 : Int32).toInt = 115) c_5
        refine lv_aload_n hx hb dX12_asked_32 rfl (lv_at hl 0 rfl) ?_
        refine va_get (D := g.1) (ci := 12) (v := .int maskSpent) (C := RX12) (T := TX12) (N := 87) hx hb hT inF_X12 hown hK.1 hP 0 rfl rfl 51 (by decide) (hT _ bw_851) (fun _ h9 => h9) rfl dX12_asked_33 ?_
        refine lv_goto (tgt := 40) hx hb dX12_asked_36 (by decide) ?_
        have hP9 : va_P g.1 vwCl [] H := hP.sub [] rfl
        have hD9 : va_D A [] := ⟨fun i j p q h => by simp at h, fun k q h => by simp at h⟩
        exact W.iret (v := maskSpent) hx hb hr (fun t ht hW => ⟨⟨maskSpent, (), rfl, trivial, by rw [ht]; exact hP9, by rw [hAe]; exact hD9⟩, hS.F ht⟩) hS.2.2 dX12_asked_40
    · have f_8 := E_eq (rfl : p0.toInt = _) (by decide : (117 : Int32).toInt = 117) c_3
      refine lv_aload_n hx hb dX12_asked_19 rfl (lv_at hl 0 rfl) ?_
      refine va_get (D := g.1) (ci := 12) (v := .int maskUses) (C := RX12) (T := TX12) (N := 87) hx hb hT inF_X12 hown hK.1 hP 0 rfl rfl 50 (by decide) (hT _ bw_852) (fun _ h9 => h9) rfl dX12_asked_20 ?_
      refine lv_goto (tgt := 40) hx hb dX12_asked_23 (by decide) ?_
      have hP9 : va_P g.1 vwCl [] H := hP.sub [] rfl
      have hD9 : va_D A [] := ⟨fun i j p q h => by simp at h, fun k q h => by simp at h⟩
      exact W.iret (v := maskUses) hx hb hr (fun t ht hW => ⟨⟨maskUses, (), rfl, trivial, by rw [ht]; exact hP9, by rw [hAe]; exact hD9⟩, hS.F ht⟩) hS.2.2 dX12_asked_40
  · have f_9 := E_eq (rfl : p0.toInt = _) (by decide : (100 : Int32).toInt = 100) c_1
    refine lv_aload_n hx hb dX12_asked_6 rfl (lv_at hl 0 rfl) ?_
    refine va_get (D := g.1) (ci := 12) (v := .int maskDay) (C := RX12) (T := TX12) (N := 87) hx hb hT inF_X12 hown hK.1 hP 0 rfl rfl 49 (by decide) (hT _ bw_853) (fun _ h9 => h9) rfl dX12_asked_7 ?_
    refine lv_goto (tgt := 40) hx hb dX12_asked_10 (by decide) ?_
    have hP9 : va_P g.1 vwCl [] H := hP.sub [] rfl
    have hD9 : va_D A [] := ⟨fun i j p q h => by simp at h, fun k q h => by simp at h⟩
    exact W.iret (v := maskDay) hx hb hr (fun t ht hW => ⟨⟨maskDay, (), rfl, trivial, by rw [ht]; exact hP9, by rw [hAe]; exact hD9⟩, hS.F ht⟩) hS.2.2 dX12_asked_40

theorem bw_855 : Cond.fieldLink RX12 78 "DuelDelaysModel" "ruleFrom" "[I" ∈ gT := gT_tb 1335 (by decide +kernel) (by decide +kernel)
theorem bw_856 : Cond.fieldLink RX12 81 "DuelDelaysModel" "ruleTo" "[I" ∈ gT := gT_tb 1336 (by decide +kernel) (by decide +kernel)
theorem bw_857 : Cond.fieldLink RX12 116 "DuelDelaysModel" "pile" "[I" ∈ gT := gT_tb 1347 (by decide +kernel) (by decide +kernel)
theorem bw_858 : Cond.fieldLink RX12 104 "DuelDelaysModel" "code" "[I" ∈ gT := gT_tb 1343 (by decide +kernel) (by decide +kernel)
theorem bw_859 : Cond.methodLink RX12 249 yX12_isLetter ∈ gT := gT_tb 1579 (by decide +kernel) (by decide +kernel)
theorem bw_860 : Cond.static yX12_isLetter ∈ gT := gT_tb 1580 (by decide +kernel) (by decide +kernel)
theorem bw_861 : Cond.initialized yX12_isLetter.cls ∈ gT := gT_tb 19 (by decide +kernel) (by decide +kernel)
theorem bw_862 : Cond.fieldLink RX12 107 "DuelDelaysModel" "codeNumber" "[I" ∈ gT := gT_tb 1344 (by decide +kernel) (by decide +kernel)
theorem bw_863 : Cond.methodLink RX12 404 yX12_asked ∈ gT := gT_tb 1797 (by decide +kernel) (by decide +kernel)
theorem bw_864 : Cond.instanceMethod yX12_asked ∈ gT := gT_tb 1799 (by decide +kernel) (by decide +kernel)
theorem bw_865 : Cond.selects RX12 yX12_asked yX12_asked ∈ gT := gT_sl 94 (by decide +kernel) (by decide +kernel)
theorem bw_866 : Cond.methodLink RX12 407 yX12_two ∈ gT := gT_tb 1801 (by decide +kernel) (by decide +kernel)
theorem bw_867 : Cond.static yX12_two ∈ gT := gT_tb 1802 (by decide +kernel) (by decide +kernel)
theorem bw_868 : Cond.initialized yX12_two.cls ∈ gT := gT_tb 19 (by decide +kernel) (by decide +kernel)
theorem bw_869 : Cond.code yX12_comesTo cX12_comesTo 5 (some .int) ∈ gT := gT_tb 1796 (by decide +kernel) (by decide +kernel)
theorem dX12_comesTo_0 : decode cX12_comesTo 0 = .ok (.iconst 0, 1) := by decide +kernel
theorem dX12_comesTo_1 : decode cX12_comesTo 1 = .ok (.istore_n 2, 1) := by decide +kernel
theorem dX12_comesTo_2 : decode cX12_comesTo 2 = .ok (.aload_n 0, 1) := by decide +kernel
theorem dX12_comesTo_3 : decode cX12_comesTo 3 = .ok (.getfield 78, 3) := by decide +kernel
theorem dX12_comesTo_6 : decode cX12_comesTo 6 = .ok (.iconst 4, 1) := by decide +kernel
theorem dX12_comesTo_7 : decode cX12_comesTo 7 = .ok (.aload_n 0, 1) := by decide +kernel
theorem dX12_comesTo_8 : decode cX12_comesTo 8 = .ok (.getfield 308, 3) := by decide +kernel
theorem dX12_comesTo_11 : decode cX12_comesTo 11 = .ok (.imul, 1) := by decide +kernel
theorem dX12_comesTo_12 : decode cX12_comesTo 12 = .ok (.iload_n 1, 1) := by decide +kernel
theorem dX12_comesTo_13 : decode cX12_comesTo 13 = .ok (.iadd, 1) := by decide +kernel
theorem dX12_comesTo_14 : decode cX12_comesTo 14 = .ok (.iaload, 1) := by decide +kernel
theorem dX12_comesTo_15 : decode cX12_comesTo 15 = .ok (.istore_n 3, 1) := by decide +kernel
theorem dX12_comesTo_16 : decode cX12_comesTo 16 = .ok (.iload_n 3, 1) := by decide +kernel
theorem dX12_comesTo_17 : decode cX12_comesTo 17 = .ok (.aload_n 0, 1) := by decide +kernel
theorem dX12_comesTo_18 : decode cX12_comesTo 18 = .ok (.getfield 81, 3) := by decide +kernel
theorem dX12_comesTo_21 : decode cX12_comesTo 21 = .ok (.iconst 4, 1) := by decide +kernel
theorem dX12_comesTo_22 : decode cX12_comesTo 22 = .ok (.aload_n 0, 1) := by decide +kernel
theorem dX12_comesTo_23 : decode cX12_comesTo 23 = .ok (.getfield 308, 3) := by decide +kernel
theorem dX12_comesTo_26 : decode cX12_comesTo 26 = .ok (.imul, 1) := by decide +kernel
theorem dX12_comesTo_27 : decode cX12_comesTo 27 = .ok (.iload_n 1, 1) := by decide +kernel
theorem dX12_comesTo_28 : decode cX12_comesTo 28 = .ok (.iadd, 1) := by decide +kernel
theorem dX12_comesTo_29 : decode cX12_comesTo 29 = .ok (.iaload, 1) := by decide +kernel
theorem dX12_comesTo_30 : decode cX12_comesTo 30 = .ok (.if_icmp .ge 113, 3) := by decide +kernel
theorem dX12_comesTo_33 : decode cX12_comesTo 33 = .ok (.aload_n 0, 1) := by decide +kernel
theorem dX12_comesTo_34 : decode cX12_comesTo 34 = .ok (.getfield 104, 3) := by decide +kernel
theorem dX12_comesTo_37 : decode cX12_comesTo 37 = .ok (.iload_n 3, 1) := by decide +kernel
theorem dX12_comesTo_38 : decode cX12_comesTo 38 = .ok (.iaload, 1) := by decide +kernel
theorem dX12_comesTo_39 : decode cX12_comesTo 39 = .ok (.istore 4, 2) := by decide +kernel
theorem dX12_comesTo_41 : decode cX12_comesTo 41 = .ok (.iload 4, 2) := by decide +kernel
theorem dX12_comesTo_43 : decode cX12_comesTo 43 = .ok (.bipush 126, 2) := by decide +kernel
theorem dX12_comesTo_45 : decode cX12_comesTo 45 = .ok (.if_icmp .ne 30, 3) := by decide +kernel
theorem dX12_comesTo_48 : decode cX12_comesTo 48 = .ok (.aload_n 0, 1) := by decide +kernel
theorem dX12_comesTo_49 : decode cX12_comesTo 49 = .ok (.getfield 116, 3) := by decide +kernel
theorem dX12_comesTo_52 : decode cX12_comesTo 52 = .ok (.iload_n 2, 1) := by decide +kernel
theorem dX12_comesTo_53 : decode cX12_comesTo 53 = .ok (.iconst 1, 1) := by decide +kernel
theorem dX12_comesTo_54 : decode cX12_comesTo 54 = .ok (.isub, 1) := by decide +kernel
theorem dX12_comesTo_55 : decode cX12_comesTo 55 = .ok (.aload_n 0, 1) := by decide +kernel
theorem dX12_comesTo_56 : decode cX12_comesTo 56 = .ok (.getfield 116, 3) := by decide +kernel
theorem dX12_comesTo_59 : decode cX12_comesTo 59 = .ok (.iload_n 2, 1) := by decide +kernel
theorem dX12_comesTo_60 : decode cX12_comesTo 60 = .ok (.iconst 1, 1) := by decide +kernel
theorem dX12_comesTo_61 : decode cX12_comesTo 61 = .ok (.isub, 1) := by decide +kernel
theorem dX12_comesTo_62 : decode cX12_comesTo 62 = .ok (.iaload, 1) := by decide +kernel
theorem dX12_comesTo_63 : decode cX12_comesTo 63 = .ok (.ifCond .ne 7, 3) := by decide +kernel
theorem dX12_comesTo_66 : decode cX12_comesTo 66 = .ok (.iconst 1, 1) := by decide +kernel
theorem dX12_comesTo_67 : decode cX12_comesTo 67 = .ok (.goto 4, 3) := by decide +kernel
theorem dX12_comesTo_70 : decode cX12_comesTo 70 = .ok (.iconst 0, 1) := by decide +kernel
theorem dX12_comesTo_71 : decode cX12_comesTo 71 = .ok (.iastore, 1) := by decide +kernel
theorem dX12_comesTo_72 : decode cX12_comesTo 72 = .ok (.goto 65, 3) := by decide +kernel
theorem dX12_comesTo_75 : decode cX12_comesTo 75 = .ok (.iload 4, 2) := by decide +kernel
theorem dX12_comesTo_77 : decode cX12_comesTo 77 = .ok (.invokestatic 249, 3) := by decide +kernel
theorem dX12_comesTo_80 : decode cX12_comesTo 80 = .ok (.ifCond .eq 27, 3) := by decide +kernel
theorem dX12_comesTo_83 : decode cX12_comesTo 83 = .ok (.aload_n 0, 1) := by decide +kernel
theorem dX12_comesTo_84 : decode cX12_comesTo 84 = .ok (.getfield 116, 3) := by decide +kernel
theorem dX12_comesTo_87 : decode cX12_comesTo 87 = .ok (.iload_n 2, 1) := by decide +kernel
theorem dX12_comesTo_88 : decode cX12_comesTo 88 = .ok (.aload_n 0, 1) := by decide +kernel
theorem dX12_comesTo_89 : decode cX12_comesTo 89 = .ok (.iload 4, 2) := by decide +kernel
theorem dX12_comesTo_91 : decode cX12_comesTo 91 = .ok (.aload_n 0, 1) := by decide +kernel
theorem dX12_comesTo_92 : decode cX12_comesTo 92 = .ok (.getfield 107, 3) := by decide +kernel
theorem dX12_comesTo_95 : decode cX12_comesTo 95 = .ok (.iload_n 3, 1) := by decide +kernel
theorem dX12_comesTo_96 : decode cX12_comesTo 96 = .ok (.iaload, 1) := by decide +kernel
theorem dX12_comesTo_97 : decode cX12_comesTo 97 = .ok (.invokevirtual 404, 3) := by decide +kernel
theorem dX12_comesTo_100 : decode cX12_comesTo 100 = .ok (.iastore, 1) := by decide +kernel
theorem dX12_comesTo_101 : decode cX12_comesTo 101 = .ok (.iinc 2 1, 3) := by decide +kernel
theorem dX12_comesTo_104 : decode cX12_comesTo 104 = .ok (.goto 33, 3) := by decide +kernel
theorem dX12_comesTo_107 : decode cX12_comesTo 107 = .ok (.iinc 2 (-1), 3) := by decide +kernel
theorem dX12_comesTo_110 : decode cX12_comesTo 110 = .ok (.aload_n 0, 1) := by decide +kernel
theorem dX12_comesTo_111 : decode cX12_comesTo 111 = .ok (.getfield 116, 3) := by decide +kernel
theorem dX12_comesTo_114 : decode cX12_comesTo 114 = .ok (.iload_n 2, 1) := by decide +kernel
theorem dX12_comesTo_115 : decode cX12_comesTo 115 = .ok (.iconst 1, 1) := by decide +kernel
theorem dX12_comesTo_116 : decode cX12_comesTo 116 = .ok (.isub, 1) := by decide +kernel
theorem dX12_comesTo_117 : decode cX12_comesTo 117 = .ok (.iload 4, 2) := by decide +kernel
theorem dX12_comesTo_119 : decode cX12_comesTo 119 = .ok (.aload_n 0, 1) := by decide +kernel
theorem dX12_comesTo_120 : decode cX12_comesTo 120 = .ok (.getfield 116, 3) := by decide +kernel
theorem dX12_comesTo_123 : decode cX12_comesTo 123 = .ok (.iload_n 2, 1) := by decide +kernel
theorem dX12_comesTo_124 : decode cX12_comesTo 124 = .ok (.iconst 1, 1) := by decide +kernel
theorem dX12_comesTo_125 : decode cX12_comesTo 125 = .ok (.isub, 1) := by decide +kernel
theorem dX12_comesTo_126 : decode cX12_comesTo 126 = .ok (.iaload, 1) := by decide +kernel
theorem dX12_comesTo_127 : decode cX12_comesTo 127 = .ok (.aload_n 0, 1) := by decide +kernel
theorem dX12_comesTo_128 : decode cX12_comesTo 128 = .ok (.getfield 116, 3) := by decide +kernel
theorem dX12_comesTo_131 : decode cX12_comesTo 131 = .ok (.iload_n 2, 1) := by decide +kernel
theorem dX12_comesTo_132 : decode cX12_comesTo 132 = .ok (.iaload, 1) := by decide +kernel
theorem dX12_comesTo_133 : decode cX12_comesTo 133 = .ok (.invokestatic 407, 3) := by decide +kernel
theorem dX12_comesTo_136 : decode cX12_comesTo 136 = .ok (.iastore, 1) := by decide +kernel
theorem dX12_comesTo_137 : decode cX12_comesTo 137 = .ok (.iinc 3 1, 3) := by decide +kernel
theorem dX12_comesTo_140 : decode cX12_comesTo 140 = .ok (.goto (-124), 3) := by decide +kernel
theorem dX12_comesTo_143 : decode cX12_comesTo 143 = .ok (.aload_n 0, 1) := by decide +kernel
theorem dX12_comesTo_144 : decode cX12_comesTo 144 = .ok (.getfield 116, 3) := by decide +kernel
theorem dX12_comesTo_147 : decode cX12_comesTo 147 = .ok (.iconst 0, 1) := by decide +kernel
theorem dX12_comesTo_148 : decode cX12_comesTo 148 = .ok (.iaload, 1) := by decide +kernel
theorem dX12_comesTo_149 : decode cX12_comesTo 149 = .ok (.ireturn, 1) := by decide +kernel
set_option maxHeartbeats 40000000 in
set_option maxRecDepth 100000 in
theorem s_X12_comesTo (l : Launch) (g : GG) (sz : Nat) (h : Nat) (mtape : Nat) (mtext : Nat) (mtaped : Int32) (msize : Int32) (mfaultKind : Int32) (mfaultPlace : Int32) (mat : Int32) (mend : Int32) (mtoken : Int32) (mnumber : Int32) (mname : Int64) (mmen : Nat) (mkinds : Nat) (Fmkinds : Nat → Int32) (mreasons : Nat) (mtold : Nat) (munits : Nat) (mhonour : Nat) (mdraw : Nat) (mdies : Nat) (mcoin : Nat) (msonOf : Nat) (mkindOf : Nat) (mowner : Nat) (mfirst : Nat) (mlast : Nat) (mrent : Nat) (msort : Nat) (mduelOne : Nat) (mduelOther : Nat) (mduelOn : Nat) (mruleFrom : Nat) (FmruleFrom : Nat → Int32) (mruleTo : Nat) (FmruleTo : Nat → Int32) (mhasHonour : Nat) (mhasDraw : Nat) (mmName : Nat) (mkName : Nat) (mrName : Nat) (mdName : Nat) (mcode : Nat) (Fmcode : Nat → Int32) (mcodeNumber : Nat) (FmcodeNumber : Nat → Int32) (meWhat : Nat) (meSign : Nat) (mpile : Nat) (Fmpile : Nat → Int32) (mbank : Int32) (mrb : Int32) (mcodes : Int32) (mwithin : Int32) (mpiled : Int32) (munitsInRule : Int32) (maskDay : Int32) (maskUses : Int32) (maskSpent : Int32) (mall : Nat) (mwas : Nat) (macts : Int32) (mundone : Int32) (musedBy0 : Nat) (musedBy1 : Nat) (mmornings : Nat) (mcameFrom : Nat) (mcameBy : Nat) (mlevelAt : Nat) (mwins : Nat) (mslots : Nat) (mlevelOf : Nat) (mworthOf : Nat) (mstates : Int32) (mlevels : Int32) (mside0 : Int32) (mside1 : Int32) (mdeathDay : Int32) (maway : Int32) (mhires : Int32) (mhirer : Int32) (mslotFound : Int32) (misSpent : Int32) (mfound : Int32) (mlaid : Int32) (mlaidRow : Nat) (mgReason : Nat) (mgDay : Nat) (mgTold : Nat) (mgUntold : Nat) (msights : Int32) (mtime : Int32) (mboxAll : Nat) (misBoxed : Nat) (p0 : Int32) (hh0 : 0 ≤ mtaped.toInt ∧ mtaped.toInt ≤ 1600) (hh1 : 0 ≤ msize.toInt ∧ msize.toInt ≤ 1600) (hh2 : 0 ≤ mat.toInt ∧ mat.toInt ≤ 1600) (hh3 : 0 ≤ mend.toInt ∧ mend.toInt ≤ 1600) (hh4 : 0 ≤ mtoken.toInt ∧ mtoken.toInt ≤ 5) (hh6 : Rg 2 0 4 Fmkinds) (hh16 : Rg 8 0 1120 FmruleFrom) (hh17 : Rg 8 0 1120 FmruleTo) (hh18 : 0 ≤ mbank.toInt ∧ mbank.toInt ≤ 1) (hh19 : 0 ≤ mrb.toInt ∧ mrb.toInt ≤ 1) (hh20 : 0 ≤ mcodes.toInt ∧ mcodes.toInt ≤ 1120) (hh21 : 0 ≤ mpiled.toInt ∧ mpiled.toInt ≤ 90) (hh22 : 0 ≤ munitsInRule.toInt ∧ munitsInRule.toInt ≤ 30) (hh25 : 0 ≤ macts.toInt ∧ macts.toInt ≤ 40) (hh26 : 0 ≤ mundone.toInt ∧ mundone.toInt ≤ 40) (hh34 : 0 ≤ mstates.toInt ∧ mstates.toInt ≤ 3000) (hh35 : 0 ≤ mlevels.toInt ∧ mlevels.toInt ≤ 18) (hh36 : 0 ≤ mside0.toInt ∧ mside0.toInt ≤ 5) (hh37 : 0 ≤ mside1.toInt ∧ mside1.toInt ≤ 5) (hh38 : 0 ≤ mslotFound.toInt ∧ mslotFound.toInt ≤ 8191) (hh39 : 0 ≤ misSpent.toInt ∧ misSpent.toInt ≤ 1) (hh40 : 0 ≤ mlaid.toInt ∧ mlaid.toInt ≤ 16) (hh41 : 0 ≤ msights.toInt ∧ msights.toInt ≤ 30) (hh42 : 0 ≤ mtime.toInt ∧ mtime.toInt ≤ 100000) (hh44 : 0 ≤ p0.toInt ∧ p0.toInt ≤ 3) (hro : RO mbank Fmkinds FmruleFrom FmruleTo Fmcode) (hkk : p0.toInt < (Fmkinds mbank.toNatClampNeg).toInt) : Met l yX12_comesTo (.code yX12_comesTo cX12_comesTo 5 (some .int) :: gT) ({ frames := 1, cells := 0, slots := 0, locals := 22 }) (va_Pc [.ref h, .int p0] (Pst g sz [(h, .inr (12, [.ref mtape, .ref mtext, .int mtaped, .int msize, .int mfaultKind, .int mfaultPlace, .int mat, .int mend, .int mtoken, .int mnumber, .long mname, .ref mmen, .ref mkinds, .ref mreasons, .ref mtold, .ref munits, .ref mhonour, .ref mdraw, .ref mdies, .ref mcoin, .ref msonOf, .ref mkindOf, .ref mowner, .ref mfirst, .ref mlast, .ref mrent, .ref msort, .ref mduelOne, .ref mduelOther, .ref mduelOn, .ref mruleFrom, .ref mruleTo, .ref mhasHonour, .ref mhasDraw, .ref mmName, .ref mkName, .ref mrName, .ref mdName, .ref mcode, .ref mcodeNumber, .ref meWhat, .ref meSign, .ref mpile, .int mbank, .int mrb, .int mcodes, .int mwithin, .int mpiled, .int munitsInRule, .int maskDay, .int maskUses, .int maskSpent, .ref mall, .ref mwas, .int macts, .int mundone, .ref musedBy0, .ref musedBy1, .ref mmornings, .ref mcameFrom, .ref mcameBy, .ref mlevelAt, .ref mwins, .ref mslots, .ref mlevelOf, .ref mworthOf, .int mstates, .int mlevels, .int mside0, .int mside1, .int mdeathDay, .int maway, .int mhires, .int mhirer, .int mslotFound, .int misSpent, .int mfound, .int mlaid, .ref mlaidRow, .ref mgReason, .ref mgDay, .ref mgTold, .ref mgUntold, .int msights, .int mtime, .ref mboxAll, .ref misBoxed])), (mruleFrom, aI g 8 FmruleFrom), (mruleTo, aI g 8 FmruleTo), (mcode, aI g 1120 Fmcode), (mcodeNumber, aI g 1120 FmcodeNumber), (mpile, aI g 60 Fmpile)] nX)) (va_Qi (fun (r : Int32) => fun (o0_F : (Nat → Int32)) => True) (Qst g [(h, .inr (12, [.ref mtape, .ref mtext, .int mtaped, .int msize, .int mfaultKind, .int mfaultPlace, .int mat, .int mend, .int mtoken, .int mnumber, .long mname, .ref mmen, .ref mkinds, .ref mreasons, .ref mtold, .ref munits, .ref mhonour, .ref mdraw, .ref mdies, .ref mcoin, .ref msonOf, .ref mkindOf, .ref mowner, .ref mfirst, .ref mlast, .ref mrent, .ref msort, .ref mduelOne, .ref mduelOther, .ref mduelOn, .ref mruleFrom, .ref mruleTo, .ref mhasHonour, .ref mhasDraw, .ref mmName, .ref mkName, .ref mrName, .ref mdName, .ref mcode, .ref mcodeNumber, .ref meWhat, .ref meSign, .ref mpile, .int mbank, .int mrb, .int mcodes, .int mwithin, .int mpiled, .int munitsInRule, .int maskDay, .int maskUses, .int maskSpent, .ref mall, .ref mwas, .int macts, .int mundone, .ref musedBy0, .ref musedBy1, .ref mmornings, .ref mcameFrom, .ref mcameBy, .ref mlevelAt, .ref mwins, .ref mslots, .ref mlevelOf, .ref mworthOf, .int mstates, .int mlevels, .int mside0, .int mside1, .int mdeathDay, .int maway, .int mhires, .int mhirer, .int mslotFound, .int misSpent, .int mfound, .int mlaid, .ref mlaidRow, .ref mgReason, .ref mgDay, .ref mgTold, .ref mgUntold, .int msights, .int mtime, .ref mboxAll, .ref misBoxed])), (mruleFrom, aI g 8 FmruleFrom), (mruleTo, aI g 8 FmruleTo), (mcode, aI g 1120 Fmcode), (mcodeNumber, aI g 1120 FmcodeNumber), (mpile, aI g 60 Fmpile)] sz (fun (o0_F : (Nat → Int32)) => [(h, .inr (12, [.ref mtape, .ref mtext, .int mtaped, .int msize, .int mfaultKind, .int mfaultPlace, .int mat, .int mend, .int mtoken, .int mnumber, .long mname, .ref mmen, .ref mkinds, .ref mreasons, .ref mtold, .ref munits, .ref mhonour, .ref mdraw, .ref mdies, .ref mcoin, .ref msonOf, .ref mkindOf, .ref mowner, .ref mfirst, .ref mlast, .ref mrent, .ref msort, .ref mduelOne, .ref mduelOther, .ref mduelOn, .ref mruleFrom, .ref mruleTo, .ref mhasHonour, .ref mhasDraw, .ref mmName, .ref mkName, .ref mrName, .ref mdName, .ref mcode, .ref mcodeNumber, .ref meWhat, .ref meSign, .ref mpile, .int mbank, .int mrb, .int mcodes, .int mwithin, .int mpiled, .int munitsInRule, .int maskDay, .int maskUses, .int maskSpent, .ref mall, .ref mwas, .int macts, .int mundone, .ref musedBy0, .ref musedBy1, .ref mmornings, .ref mcameFrom, .ref mcameBy, .ref mlevelAt, .ref mwins, .ref mslots, .ref mlevelOf, .ref mworthOf, .int mstates, .int mlevels, .int mside0, .int mside1, .int mdeathDay, .int maway, .int mhires, .int mhirer, .int mslotFound, .int misSpent, .int mfound, .int mlaid, .ref mlaidRow, .ref mgReason, .ref mgDay, .ref mgTold, .ref mgUntold, .int msights, .int mtime, .ref mboxAll, .ref misBoxed])), (mruleFrom, aI g 8 FmruleFrom), (mruleTo, aI g 8 FmruleTo), (mcode, aI g 1120 Fmcode), (mcodeNumber, aI g 1120 FmcodeNumber), (mpile, aI g 60 o0_F)])) (va_A [(h, .inr (12, [.ref mtape, .ref mtext, .int mtaped, .int msize, .int mfaultKind, .int mfaultPlace, .int mat, .int mend, .int mtoken, .int mnumber, .long mname, .ref mmen, .ref mkinds, .ref mreasons, .ref mtold, .ref munits, .ref mhonour, .ref mdraw, .ref mdies, .ref mcoin, .ref msonOf, .ref mkindOf, .ref mowner, .ref mfirst, .ref mlast, .ref mrent, .ref msort, .ref mduelOne, .ref mduelOther, .ref mduelOn, .ref mruleFrom, .ref mruleTo, .ref mhasHonour, .ref mhasDraw, .ref mmName, .ref mkName, .ref mrName, .ref mdName, .ref mcode, .ref mcodeNumber, .ref meWhat, .ref meSign, .ref mpile, .int mbank, .int mrb, .int mcodes, .int mwithin, .int mpiled, .int munitsInRule, .int maskDay, .int maskUses, .int maskSpent, .ref mall, .ref mwas, .int macts, .int mundone, .ref musedBy0, .ref musedBy1, .ref mmornings, .ref mcameFrom, .ref mcameBy, .ref mlevelAt, .ref mwins, .ref mslots, .ref mlevelOf, .ref mworthOf, .int mstates, .int mlevels, .int mside0, .int mside1, .int mdeathDay, .int maway, .int mhires, .int mhirer, .int mslotFound, .int misSpent, .int mfound, .int mlaid, .ref mlaidRow, .ref mgReason, .ref mgDay, .ref mgTold, .ref mgUntold, .int msights, .int mtime, .ref mboxAll, .ref misBoxed])), (mruleFrom, aI g 8 FmruleFrom), (mruleTo, aI g 8 FmruleTo), (mcode, aI g 1120 Fmcode), (mcodeNumber, aI g 1120 FmcodeNumber), (mpile, aI g 60 Fmpile)] sz)) 0 0 (va_A [(h, .inr (12, [.ref mtape, .ref mtext, .int mtaped, .int msize, .int mfaultKind, .int mfaultPlace, .int mat, .int mend, .int mtoken, .int mnumber, .long mname, .ref mmen, .ref mkinds, .ref mreasons, .ref mtold, .ref munits, .ref mhonour, .ref mdraw, .ref mdies, .ref mcoin, .ref msonOf, .ref mkindOf, .ref mowner, .ref mfirst, .ref mlast, .ref mrent, .ref msort, .ref mduelOne, .ref mduelOther, .ref mduelOn, .ref mruleFrom, .ref mruleTo, .ref mhasHonour, .ref mhasDraw, .ref mmName, .ref mkName, .ref mrName, .ref mdName, .ref mcode, .ref mcodeNumber, .ref meWhat, .ref meSign, .ref mpile, .int mbank, .int mrb, .int mcodes, .int mwithin, .int mpiled, .int munitsInRule, .int maskDay, .int maskUses, .int maskSpent, .ref mall, .ref mwas, .int macts, .int mundone, .ref musedBy0, .ref musedBy1, .ref mmornings, .ref mcameFrom, .ref mcameBy, .ref mlevelAt, .ref mwins, .ref mslots, .ref mlevelOf, .ref mworthOf, .int mstates, .int mlevels, .int mside0, .int mside1, .int mdeathDay, .int maway, .int mhires, .int mhirer, .int mslotFound, .int misSpent, .int mfound, .int mlaid, .ref mlaidRow, .ref mgReason, .ref mgDay, .ref mgTold, .ref mgUntold, .int msights, .int mtime, .ref mboxAll, .ref misBoxed])), (mruleFrom, aI g 8 FmruleFrom), (mruleTo, aI g 8 FmruleTo), (mcode, aI g 1120 Fmcode), (mcodeNumber, aI g 1120 FmcodeNumber), (mpile, aI g 60 Fmpile)] sz) := by
  refine Met.ofW (cc := cX12_comesTo) (maxL := 5) (ret := (some .int)) (by decide) rfl ?_
  intro p e s m args below meth c s₁ B hml hv
  obtain ⟨rfl, hsz, hP, hK, hD0, hX⟩ := hv
  have hx := B.exec
  have hb := B.bytes
  have hr := B.returns
  have hT : ∀ w ∈ gT, w.before _ s = true := fun w h => atoms_spec (ws := .code yX12_comesTo cX12_comesTo 5 (some .int) :: gT) B.pre w (List.mem_cons_of_mem _ h)
  have hown : s.vm.findClass RX12 = some m.cls := findClass_of_methodNamed B.named
  have hlocks := B.notSynchronized
  subst hsz
  have hD := hD0.self (sz := s.heap.size)
  generalize hAe : va_A [(h, .inr (12, [.ref mtape, .ref mtext, .int mtaped, .int msize, .int mfaultKind, .int mfaultPlace, .int mat, .int mend, .int mtoken, .int mnumber, .long mname, .ref mmen, .ref mkinds, .ref mreasons, .ref mtold, .ref munits, .ref mhonour, .ref mdraw, .ref mdies, .ref mcoin, .ref msonOf, .ref mkindOf, .ref mowner, .ref mfirst, .ref mlast, .ref mrent, .ref msort, .ref mduelOne, .ref mduelOther, .ref mduelOn, .ref mruleFrom, .ref mruleTo, .ref mhasHonour, .ref mhasDraw, .ref mmName, .ref mkName, .ref mrName, .ref mdName, .ref mcode, .ref mcodeNumber, .ref meWhat, .ref meSign, .ref mpile, .int mbank, .int mrb, .int mcodes, .int mwithin, .int mpiled, .int munitsInRule, .int maskDay, .int maskUses, .int maskSpent, .ref mall, .ref mwas, .int macts, .int mundone, .ref musedBy0, .ref musedBy1, .ref mmornings, .ref mcameFrom, .ref mcameBy, .ref mlevelAt, .ref mwins, .ref mslots, .ref mlevelOf, .ref mworthOf, .int mstates, .int mlevels, .int mside0, .int mside1, .int mdeathDay, .int maway, .int mhires, .int mhirer, .int mslotFound, .int misSpent, .int mfound, .int mlaid, .ref mlaidRow, .ref mgReason, .ref mgDay, .ref mgTold, .ref mgUntold, .int msights, .int mtime, .ref mboxAll, .ref misBoxed])), (mruleFrom, aI g 8 FmruleFrom), (mruleTo, aI g 8 FmruleTo), (mcode, aI g 1120 Fmcode), (mcodeNumber, aI g 1120 FmcodeNumber), (mpile, aI g 60 Fmpile)] s.heap.size = A at hD ⊢
  have hA : ∀ q : Nat, s.heap.size ≤ q → A q := fun q h => by rw [← hAe]; exact Or.inr h
  have hS : va_S A s.heap s.heap [] := va_S.rf
  have hl := lv_entry ([.ref h, .int p0]) (n := 5) (Nat.le_of_ble_eq_true rfl)
  rw [lg_entry_eq]
  generalize (lg_sl ([.ref h, .int p0]) ++ List.replicate (5 - (lg_sl ([.ref h, .int p0])).length) Slot.unset).toArray = ls at hl ⊢
  have hl : lv_has ls 5 [(0, .ref h), (1, .int p0)] := hl
  refine p_nH (fun H hH => ?_)
  have hP : va_P g.1 vwCl [(h, .inr (12, [.ref mtape, .ref mtext, .int mtaped, .int msize, .int mfaultKind, .int mfaultPlace, .int mat, .int mend, .int mtoken, .int mnumber, .long mname, .ref mmen, .ref mkinds, .ref mreasons, .ref mtold, .ref munits, .ref mhonour, .ref mdraw, .ref mdies, .ref mcoin, .ref msonOf, .ref mkindOf, .ref mowner, .ref mfirst, .ref mlast, .ref mrent, .ref msort, .ref mduelOne, .ref mduelOther, .ref mduelOn, .ref mruleFrom, .ref mruleTo, .ref mhasHonour, .ref mhasDraw, .ref mmName, .ref mkName, .ref mrName, .ref mdName, .ref mcode, .ref mcodeNumber, .ref meWhat, .ref meSign, .ref mpile, .int mbank, .int mrb, .int mcodes, .int mwithin, .int mpiled, .int munitsInRule, .int maskDay, .int maskUses, .int maskSpent, .ref mall, .ref mwas, .int macts, .int mundone, .ref musedBy0, .ref musedBy1, .ref mmornings, .ref mcameFrom, .ref mcameBy, .ref mlevelAt, .ref mwins, .ref mslots, .ref mlevelOf, .ref mworthOf, .int mstates, .int mlevels, .int mside0, .int mside1, .int mdeathDay, .int maway, .int mhires, .int mhirer, .int mslotFound, .int misSpent, .int mfound, .int mlaid, .ref mlaidRow, .ref mgReason, .ref mgDay, .ref mgTold, .ref mgUntold, .int msights, .int mtime, .ref mboxAll, .ref misBoxed])), (mruleFrom, aI g 8 FmruleFrom), (mruleTo, aI g 8 FmruleTo), (mcode, aI g 1120 Fmcode), (mcodeNumber, aI g 1120 FmcodeNumber), (mpile, aI g 60 Fmpile)] H := by rw [hH]; exact hP
  have hS : va_S A s.heap H [] := by rw [hH]; exact hS
  refine lv_iconst (v := 0) hx hb dX12_comesTo_0 (by decide) ?_
  refine lv_istore_n (lv' := [(2, .int 0), (0, .ref h), (1, .int p0)]) hx hb dX12_comesTo_1 rfl hl (by decide) rfl (fun ls hl => ?_)
  refine lv_aload_n hx hb dX12_comesTo_2 rfl (lv_at hl 1 rfl) ?_
  refine va_get (D := g.1) (ci := 12) (v := .ref mruleFrom) (C := RX12) (T := TX12) (N := 87) hx hb hT inF_X12 hown hK.1 hP 0 rfl rfl 30 (by decide) (hT _ bw_855) (fun _ h9 => h9) rfl dX12_comesTo_3 ?_
  refine lv_iconst (v := 4) hx hb dX12_comesTo_6 (by decide) ?_
  refine lv_aload_n hx hb dX12_comesTo_7 rfl (lv_at hl 1 rfl) ?_
  refine va_get (D := g.1) (ci := 12) (v := .int mbank) (C := RX12) (T := TX12) (N := 87) hx hb hT inF_X12 hown hK.1 hP 0 rfl rfl 43 (by decide) (hT _ bw_825) (fun _ h9 => h9) rfl dX12_comesTo_8 ?_
  refine lv_imul hx hb dX12_comesTo_11 ?_
  refine lv_topi (fun x_1 ex_1 => ?_)
  have fx_1 : x_1.toInt = 4 * mbank.toInt := by rw [ex_1]; exact I_mul (by decide : (4 : Int32).toInt = 4) rfl (by omega) (by omega)
  refine lv_iload_n hx hb dX12_comesTo_12 rfl (lv_at hl 2 rfl) ?_
  refine lv_iadd hx hb dX12_comesTo_13 ?_
  refine lv_topi (fun x_2 ex_2 => ?_)
  have fx_2 : x_2.toInt = x_1.toInt + p0.toInt := by rw [ex_2]; exact I_add rfl rfl (by omega) (by omega)
  have h_3 : vp_in x_2 8 := vp_in_iff.mpr (by omega)
  refine va_iald hx hb hK.1 hP 1 1 rfl rfl (i := x_2) h_3 dX12_comesTo_14 ?_
  refine lv_topi (fun x_4 ex_4 => ?_)
  have fx_4 : 0 ≤ x_4.toInt ∧ x_4.toInt ≤ 1120 := Rg.rd hh16 h_3 ex_4
  have ux_4 := congrArg Int32.toInt ex_4
  have hgp := RO.at hro hkk (by omega) (by omega) (i := x_2) (by omega) ex_4
  refine lv_istore_n (lv' := [(3, .int x_4), (2, .int 0), (0, .ref h), (1, .int p0)]) hx hb dX12_comesTo_15 rfl hl (by decide) rfl (fun ls hl => ?_)
  refine k_floop 16 (fun n H locs ls => ∃ (L_5 : Int32) (L_6 : Int32) (f_7 : Nat → Int32), (0 ≤ L_5.toInt ∧ L_5.toInt ≤ 1120) ∧ (0 ≤ L_6.toInt ∧ L_6.toInt ≤ 60) ∧ (x_4.toInt ≤ L_5.toInt) ∧ (Hq Fmcode x_4 L_5 L_6) ∧ 1120 - L_5.toInt ≤ (n : Int) ∧ va_P g.1 vwCl [(h, .inr (12, [.ref mtape, .ref mtext, .int mtaped, .int msize, .int mfaultKind, .int mfaultPlace, .int mat, .int mend, .int mtoken, .int mnumber, .long mname, .ref mmen, .ref mkinds, .ref mreasons, .ref mtold, .ref munits, .ref mhonour, .ref mdraw, .ref mdies, .ref mcoin, .ref msonOf, .ref mkindOf, .ref mowner, .ref mfirst, .ref mlast, .ref mrent, .ref msort, .ref mduelOne, .ref mduelOther, .ref mduelOn, .ref mruleFrom, .ref mruleTo, .ref mhasHonour, .ref mhasDraw, .ref mmName, .ref mkName, .ref mrName, .ref mdName, .ref mcode, .ref mcodeNumber, .ref meWhat, .ref meSign, .ref mpile, .int mbank, .int mrb, .int mcodes, .int mwithin, .int mpiled, .int munitsInRule, .int maskDay, .int maskUses, .int maskSpent, .ref mall, .ref mwas, .int macts, .int mundone, .ref musedBy0, .ref musedBy1, .ref mmornings, .ref mcameFrom, .ref mcameBy, .ref mlevelAt, .ref mwins, .ref mslots, .ref mlevelOf, .ref mworthOf, .int mstates, .int mlevels, .int mside0, .int mside1, .int mdeathDay, .int maway, .int mhires, .int mhirer, .int mslotFound, .int misSpent, .int mfound, .int mlaid, .ref mlaidRow, .ref mgReason, .ref mgDay, .ref mgTold, .ref mgUntold, .int msights, .int mtime, .ref mboxAll, .ref misBoxed])), (mruleFrom, aI g 8 FmruleFrom), (mruleTo, aI g 8 FmruleTo), (mcode, aI g 1120 Fmcode), (mcodeNumber, aI g 1120 FmcodeNumber), (mpile, aI g 60 f_7)] H ∧ va_D A [(h, .inr (12, [.ref mtape, .ref mtext, .int mtaped, .int msize, .int mfaultKind, .int mfaultPlace, .int mat, .int mend, .int mtoken, .int mnumber, .long mname, .ref mmen, .ref mkinds, .ref mreasons, .ref mtold, .ref munits, .ref mhonour, .ref mdraw, .ref mdies, .ref mcoin, .ref msonOf, .ref mkindOf, .ref mowner, .ref mfirst, .ref mlast, .ref mrent, .ref msort, .ref mduelOne, .ref mduelOther, .ref mduelOn, .ref mruleFrom, .ref mruleTo, .ref mhasHonour, .ref mhasDraw, .ref mmName, .ref mkName, .ref mrName, .ref mdName, .ref mcode, .ref mcodeNumber, .ref meWhat, .ref meSign, .ref mpile, .int mbank, .int mrb, .int mcodes, .int mwithin, .int mpiled, .int munitsInRule, .int maskDay, .int maskUses, .int maskSpent, .ref mall, .ref mwas, .int macts, .int mundone, .ref musedBy0, .ref musedBy1, .ref mmornings, .ref mcameFrom, .ref mcameBy, .ref mlevelAt, .ref mwins, .ref mslots, .ref mlevelOf, .ref mworthOf, .int mstates, .int mlevels, .int mside0, .int mside1, .int mdeathDay, .int maway, .int mhires, .int mhirer, .int mslotFound, .int misSpent, .int mfound, .int mlaid, .ref mlaidRow, .ref mgReason, .ref mgDay, .ref mgTold, .ref mgUntold, .int msights, .int mtime, .ref mboxAll, .ref misBoxed])), (mruleFrom, aI g 8 FmruleFrom), (mruleTo, aI g 8 FmruleTo), (mcode, aI g 1120 Fmcode), (mcodeNumber, aI g 1120 FmcodeNumber), (mpile, aI g 60 f_7)] ∧ va_S A s.heap H locs ∧ lv_has ls 5 [(3, .int L_5), (2, .int L_6), (0, .ref h), (1, .int p0)]) (fun n H locs ls hI ih => ?_) ((1120 - x_4.toInt : Int)).toNat ⟨x_4, 0, Fmpile, (by first | with_reducible assumption | omega), by decide, by have k0 : (0 : Int32).toInt = 0 := (by decide); omega, Hq.z, by have k0 : (0 : Int32).toInt = 0 := (by decide); omega, hP, hD, hS, hl⟩
  refine hI.elim (fun L_5 hI => hI.elim (fun L_6 hI => hI.elim (fun f_7 hI => ?_)))
  have g_8 := hI.1
  have g_9 := hI.2.1
  have q_10 := hI.2.2.1
  have w_11 := hI.2.2.2.1
  have hm_12 := hI.2.2.2.2.1
  have hP := hI.2.2.2.2.2.1
  have hD := hI.2.2.2.2.2.2.1
  have hS := hI.2.2.2.2.2.2.2.1
  have hl := hI.2.2.2.2.2.2.2.2
  clear hI
  refine lv_iload_n hx hb dX12_comesTo_16 rfl (lv_at hl 0 rfl) ?_
  refine lv_aload_n hx hb dX12_comesTo_17 rfl (lv_at hl 2 rfl) ?_
  refine va_get (D := g.1) (ci := 12) (v := .ref mruleTo) (C := RX12) (T := TX12) (N := 87) hx hb hT inF_X12 hown hK.1 hP 0 rfl rfl 31 (by decide) (hT _ bw_856) (fun _ h9 => h9) rfl dX12_comesTo_18 ?_
  refine lv_iconst (v := 4) hx hb dX12_comesTo_21 (by decide) ?_
  refine lv_aload_n hx hb dX12_comesTo_22 rfl (lv_at hl 2 rfl) ?_
  refine va_get (D := g.1) (ci := 12) (v := .int mbank) (C := RX12) (T := TX12) (N := 87) hx hb hT inF_X12 hown hK.1 hP 0 rfl rfl 43 (by decide) (hT _ bw_825) (fun _ h9 => h9) rfl dX12_comesTo_23 ?_
  refine lv_imul hx hb dX12_comesTo_26 ?_
  refine lv_topi (fun x_13 ex_13 => ?_)
  have fx_13 : x_13.toInt = 4 * mbank.toInt := by rw [ex_13]; exact I_mul (by decide : (4 : Int32).toInt = 4) rfl (by omega) (by omega)
  refine lv_iload_n hx hb dX12_comesTo_27 rfl (lv_at hl 3 rfl) ?_
  refine lv_iadd hx hb dX12_comesTo_28 ?_
  refine lv_topi (fun x_14 ex_14 => ?_)
  have fx_14 : x_14.toInt = x_13.toInt + p0.toInt := by rw [ex_14]; exact I_add rfl rfl (by omega) (by omega)
  have h_15 : vp_in x_14 8 := vp_in_iff.mpr (by omega)
  refine va_iald hx hb hK.1 hP 2 1 rfl rfl (i := x_14) h_15 dX12_comesTo_29 ?_
  refine lv_topi (fun x_16 ex_16 => ?_)
  have fx_16 : 0 ≤ x_16.toInt ∧ x_16.toInt ≤ 1120 := Rg.rd hh17 h_15 ex_16
  have ux_16 := congrArg Int32.toInt ex_16
  refine lv_icmp_ge (tgt := 143) hx hb dX12_comesTo_30 (by decide) (fun c_17 => ?_) (fun c_17 => ?_)
  · have f_18 := E_le (rfl : x_16.toInt = _) (rfl : L_5.toInt = _) c_17
    refine lv_aload_n hx hb dX12_comesTo_143 rfl (lv_at hl 2 rfl) ?_
    refine va_get (D := g.1) (ci := 12) (v := .ref mpile) (C := RX12) (T := TX12) (N := 87) hx hb hT inF_X12 hown hK.1 hP 0 rfl rfl 42 (by decide) (hT _ bw_857) (fun _ h9 => h9) rfl dX12_comesTo_144 ?_
    refine lv_iconst (v := 0) hx hb dX12_comesTo_147 (by decide) ?_
    have h_19 : vp_in 0 60 := vp_in_iff.mpr (by decide)
    refine va_iald hx hb hK.1 hP 5 1 rfl rfl (i := 0) h_19 dX12_comesTo_148 ?_
    refine lv_topi (fun x_20 ex_20 => ?_)
    have ux_20 := congrArg Int32.toInt ex_20
    have hP9 : va_P g.1 vwCl [(h, .inr (12, [.ref mtape, .ref mtext, .int mtaped, .int msize, .int mfaultKind, .int mfaultPlace, .int mat, .int mend, .int mtoken, .int mnumber, .long mname, .ref mmen, .ref mkinds, .ref mreasons, .ref mtold, .ref munits, .ref mhonour, .ref mdraw, .ref mdies, .ref mcoin, .ref msonOf, .ref mkindOf, .ref mowner, .ref mfirst, .ref mlast, .ref mrent, .ref msort, .ref mduelOne, .ref mduelOther, .ref mduelOn, .ref mruleFrom, .ref mruleTo, .ref mhasHonour, .ref mhasDraw, .ref mmName, .ref mkName, .ref mrName, .ref mdName, .ref mcode, .ref mcodeNumber, .ref meWhat, .ref meSign, .ref mpile, .int mbank, .int mrb, .int mcodes, .int mwithin, .int mpiled, .int munitsInRule, .int maskDay, .int maskUses, .int maskSpent, .ref mall, .ref mwas, .int macts, .int mundone, .ref musedBy0, .ref musedBy1, .ref mmornings, .ref mcameFrom, .ref mcameBy, .ref mlevelAt, .ref mwins, .ref mslots, .ref mlevelOf, .ref mworthOf, .int mstates, .int mlevels, .int mside0, .int mside1, .int mdeathDay, .int maway, .int mhires, .int mhirer, .int mslotFound, .int misSpent, .int mfound, .int mlaid, .ref mlaidRow, .ref mgReason, .ref mgDay, .ref mgTold, .ref mgUntold, .int msights, .int mtime, .ref mboxAll, .ref misBoxed])), (mruleFrom, aI g 8 FmruleFrom), (mruleTo, aI g 8 FmruleTo), (mcode, aI g 1120 Fmcode), (mcodeNumber, aI g 1120 FmcodeNumber), (mpile, aI g 60 f_7)] H := hP.sub [0, 1, 2, 3, 4, 5] rfl
    have hD9 : va_D A [(h, .inr (12, [.ref mtape, .ref mtext, .int mtaped, .int msize, .int mfaultKind, .int mfaultPlace, .int mat, .int mend, .int mtoken, .int mnumber, .long mname, .ref mmen, .ref mkinds, .ref mreasons, .ref mtold, .ref munits, .ref mhonour, .ref mdraw, .ref mdies, .ref mcoin, .ref msonOf, .ref mkindOf, .ref mowner, .ref mfirst, .ref mlast, .ref mrent, .ref msort, .ref mduelOne, .ref mduelOther, .ref mduelOn, .ref mruleFrom, .ref mruleTo, .ref mhasHonour, .ref mhasDraw, .ref mmName, .ref mkName, .ref mrName, .ref mdName, .ref mcode, .ref mcodeNumber, .ref meWhat, .ref meSign, .ref mpile, .int mbank, .int mrb, .int mcodes, .int mwithin, .int mpiled, .int munitsInRule, .int maskDay, .int maskUses, .int maskSpent, .ref mall, .ref mwas, .int macts, .int mundone, .ref musedBy0, .ref musedBy1, .ref mmornings, .ref mcameFrom, .ref mcameBy, .ref mlevelAt, .ref mwins, .ref mslots, .ref mlevelOf, .ref mworthOf, .int mstates, .int mlevels, .int mside0, .int mside1, .int mdeathDay, .int maway, .int mhires, .int mhirer, .int mslotFound, .int misSpent, .int mfound, .int mlaid, .ref mlaidRow, .ref mgReason, .ref mgDay, .ref mgTold, .ref mgUntold, .int msights, .int mtime, .ref mboxAll, .ref misBoxed])), (mruleFrom, aI g 8 FmruleFrom), (mruleTo, aI g 8 FmruleTo), (mcode, aI g 1120 Fmcode), (mcodeNumber, aI g 1120 FmcodeNumber), (mpile, aI g 60 f_7)] := hD.sub [0, 1, 2, 3, 4, 5] (by decide +kernel) rfl
    exact W.iret (v := x_20) hx hb hr (fun t ht hW => ⟨⟨x_20, f_7, rfl, trivial, by rw [ht]; exact hP9, by rw [hAe]; exact hD9⟩, hS.F ht⟩) hS.2.2 dX12_comesTo_149
  · have f_21 := E_nle (rfl : x_16.toInt = _) (rfl : L_5.toInt = _) c_17
    refine lv_aload_n hx hb dX12_comesTo_33 rfl (lv_at hl 2 rfl) ?_
    refine va_get (D := g.1) (ci := 12) (v := .ref mcode) (C := RX12) (T := TX12) (N := 87) hx hb hT inF_X12 hown hK.1 hP 0 rfl rfl 38 (by decide) (hT _ bw_858) (fun _ h9 => h9) rfl dX12_comesTo_34 ?_
    refine lv_iload_n hx hb dX12_comesTo_37 rfl (lv_at hl 0 rfl) ?_
    have h_22 : vp_in L_5 1120 := vp_in_iff.mpr (by omega)
    refine va_iald hx hb hK.1 hP 3 1 rfl rfl (i := L_5) h_22 dX12_comesTo_38 ?_
    refine lv_topi (fun x_23 ex_23 => ?_)
    have ux_23 := congrArg Int32.toInt ex_23
    refine lv_istore (lv' := [(4, .int x_23), (3, .int L_5), (2, .int L_6), (0, .ref h), (1, .int p0)]) hx hb dX12_comesTo_39 hl (by decide) rfl (fun ls hl => ?_)
    have hb9 := rt_at (b := mbank) (r := p0) (by omega) (by omega) (i := x_14) (by omega) ex_16
    obtain ⟨hg1, hg2, hg3⟩ := Gp.at hgp (by omega) (by omega) (k := L_5) (by omega) w_11 ex_23
    refine lv_iload hx hb dX12_comesTo_41 (lv_at hl 0 rfl) ?_
    refine lv_bipush (v := 126) hx hb dX12_comesTo_43 (by decide) ?_
    refine lv_icmp_ne (tgt := 75) hx hb dX12_comesTo_45 (by decide) (fun c_24 => ?_) (fun c_24 => ?_)
    · have f_25 := E_ne (rfl : x_23.toInt = _) (by decide : (126 : Int32).toInt = 126) c_24
      refine lv_iload hx hb dX12_comesTo_75 (lv_at hl 0 rfl) ?_
      refine k_iR (k_S (n := 1) ⟨hx, hb, hml, hown, hT⟩ hK hP hD [] rfl (by decide +kernel) (s_X12_isLetter l g H.size x_23) (gS bw_859 bw_860 bw_861 bw_815) rfl rfl (by decide +kernel) ⟨by decide, by decide⟩ (fun _ _ _ _ _ => trivial) (fun _ _ _ => trivial) rfl rfl hl.1 (Nat.le_of_ble_eq_true rfl) dX12_comesTo_77 ⟨by decide, by decide⟩) hP hS hA (fun r_26 _ H locs hw0 hP hS => ?_)
      have hw : (r_26 = 1 ∧ (97 ≤ x_23.toInt ∧ x_23.toInt ≤ 122)) ∨ (r_26 = 0 ∧ (x_23.toInt < 97 ∨ 122 < x_23.toInt)) := hw0
      clear hw0
      rcases hw with ⟨e_28, w_27⟩ | ⟨e_30, w_29⟩
      · subst e_28
        refine lv_if_eq (tgt := 107) hx hb dX12_comesTo_80 (by decide) (fun c9 => absurd c9 (by decide)) (fun _ => ?_)
        refine lv_aload_n hx hb dX12_comesTo_83 rfl (lv_at hl 3 rfl) ?_
        refine va_get (D := g.1) (ci := 12) (v := .ref mpile) (C := RX12) (T := TX12) (N := 87) hx hb hT inF_X12 hown hK.1 hP 0 rfl rfl 42 (by decide) (hT _ bw_857) (fun _ h9 => h9) rfl dX12_comesTo_84 ?_
        refine lv_iload_n hx hb dX12_comesTo_87 rfl (lv_at hl 2 rfl) ?_
        refine lv_aload_n hx hb dX12_comesTo_88 rfl (lv_at hl 3 rfl) ?_
        refine lv_iload hx hb dX12_comesTo_89 (lv_at hl 0 rfl) ?_
        refine lv_aload_n hx hb dX12_comesTo_91 rfl (lv_at hl 3 rfl) ?_
        refine va_get (D := g.1) (ci := 12) (v := .ref mcodeNumber) (C := RX12) (T := TX12) (N := 87) hx hb hT inF_X12 hown hK.1 hP 0 rfl rfl 39 (by decide) (hT _ bw_862) (fun _ h9 => h9) rfl dX12_comesTo_92 ?_
        refine lv_iload_n hx hb dX12_comesTo_95 rfl (lv_at hl 1 rfl) ?_
        have h_31 : vp_in L_5 1120 := vp_in_iff.mpr (by omega)
        refine va_iald hx hb hK.1 hP 4 1 rfl rfl (i := L_5) h_31 dX12_comesTo_96 ?_
        refine lv_topi (fun x_32 ex_32 => ?_)
        have ux_32 := congrArg Int32.toInt ex_32
        refine k_iR (k_V (n := 2) ⟨hx, hb, hml, hown, hT⟩ hK hP hD [0] rfl (by decide +kernel) (s_X12_asked l g H.size h mtape mtext mtaped msize mfaultKind mfaultPlace mat mend mtoken mnumber mname mmen mkinds mreasons mtold munits mhonour mdraw mdies mcoin msonOf mkindOf mowner mfirst mlast mrent msort mduelOne mduelOther mduelOn mruleFrom mruleTo mhasHonour mhasDraw mmName mkName mrName mdName mcode mcodeNumber meWhat meSign mpile mbank mrb mcodes mwithin mpiled munitsInRule maskDay maskUses maskSpent mall mwas macts mundone musedBy0 musedBy1 mmornings mcameFrom mcameBy mlevelAt mwins mslots mlevelOf mworthOf mstates mlevels mside0 mside1 mdeathDay maway mhires mhirer mslotFound misSpent mfound mlaid mlaidRow mgReason mgDay mgTold mgUntold msights mtime mboxAll misBoxed x_23 x_32 (by first | with_reducible assumption | omega) (by first | with_reducible assumption | omega) (by first | with_reducible assumption | omega) (by first | with_reducible assumption | omega) (by first | with_reducible assumption | omega) (by first | with_reducible assumption | omega) (by first | with_reducible assumption | omega) (by first | with_reducible assumption | omega) (by first | with_reducible assumption | omega) (by first | with_reducible assumption | omega) (by first | with_reducible assumption | omega) (by first | with_reducible assumption | omega) (by first | with_reducible assumption | omega) (by first | with_reducible assumption | omega) (by first | with_reducible assumption | omega) (by first | with_reducible assumption | omega) (by first | with_reducible assumption | omega) (by first | with_reducible assumption | omega) (by first | with_reducible assumption | omega) (by first | with_reducible assumption | omega) (by first | with_reducible assumption | omega)) (gV bw_863 bw_864 bw_865 bw_840 bw_854) rfl rfl (by decide +kernel) ⟨by decide, by decide⟩ (ci := 12) (q0 := 0) rfl rfl (fun _ _ _ _ _ => trivial) (fun _ _ _ => trivial) rfl rfl hl.1 (Nat.le_of_ble_eq_true rfl) dX12_comesTo_97 ⟨by decide, by decide⟩) hP hS hA (fun r_33 _ H locs hw0 hP hS => ?_)
        have h_34 : vp_in L_6 60 := vp_in_iff.mpr (by omega)
        refine va_iast hx hb hK.1 hP hD hS 5 1 rfl rfl (i := L_6) (x := r_33) h_34 dX12_comesTo_100 (fun H locs hP hD hS => ?_)
        generalize upd f_7 (L_6 : Int32).toNatClampNeg r_33 = f_35 at hP hD
        have hP : va_P g.1 vwCl [(h, .inr (12, [.ref mtape, .ref mtext, .int mtaped, .int msize, .int mfaultKind, .int mfaultPlace, .int mat, .int mend, .int mtoken, .int mnumber, .long mname, .ref mmen, .ref mkinds, .ref mreasons, .ref mtold, .ref munits, .ref mhonour, .ref mdraw, .ref mdies, .ref mcoin, .ref msonOf, .ref mkindOf, .ref mowner, .ref mfirst, .ref mlast, .ref mrent, .ref msort, .ref mduelOne, .ref mduelOther, .ref mduelOn, .ref mruleFrom, .ref mruleTo, .ref mhasHonour, .ref mhasDraw, .ref mmName, .ref mkName, .ref mrName, .ref mdName, .ref mcode, .ref mcodeNumber, .ref meWhat, .ref meSign, .ref mpile, .int mbank, .int mrb, .int mcodes, .int mwithin, .int mpiled, .int munitsInRule, .int maskDay, .int maskUses, .int maskSpent, .ref mall, .ref mwas, .int macts, .int mundone, .ref musedBy0, .ref musedBy1, .ref mmornings, .ref mcameFrom, .ref mcameBy, .ref mlevelAt, .ref mwins, .ref mslots, .ref mlevelOf, .ref mworthOf, .int mstates, .int mlevels, .int mside0, .int mside1, .int mdeathDay, .int maway, .int mhires, .int mhirer, .int mslotFound, .int misSpent, .int mfound, .int mlaid, .ref mlaidRow, .ref mgReason, .ref mgDay, .ref mgTold, .ref mgUntold, .int msights, .int mtime, .ref mboxAll, .ref misBoxed])), (mruleFrom, aI g 8 FmruleFrom), (mruleTo, aI g 8 FmruleTo), (mcode, aI g 1120 Fmcode), (mcodeNumber, aI g 1120 FmcodeNumber), (mpile, aI g 60 f_35)] H := hP
        have hD : va_D A [(h, .inr (12, [.ref mtape, .ref mtext, .int mtaped, .int msize, .int mfaultKind, .int mfaultPlace, .int mat, .int mend, .int mtoken, .int mnumber, .long mname, .ref mmen, .ref mkinds, .ref mreasons, .ref mtold, .ref munits, .ref mhonour, .ref mdraw, .ref mdies, .ref mcoin, .ref msonOf, .ref mkindOf, .ref mowner, .ref mfirst, .ref mlast, .ref mrent, .ref msort, .ref mduelOne, .ref mduelOther, .ref mduelOn, .ref mruleFrom, .ref mruleTo, .ref mhasHonour, .ref mhasDraw, .ref mmName, .ref mkName, .ref mrName, .ref mdName, .ref mcode, .ref mcodeNumber, .ref meWhat, .ref meSign, .ref mpile, .int mbank, .int mrb, .int mcodes, .int mwithin, .int mpiled, .int munitsInRule, .int maskDay, .int maskUses, .int maskSpent, .ref mall, .ref mwas, .int macts, .int mundone, .ref musedBy0, .ref musedBy1, .ref mmornings, .ref mcameFrom, .ref mcameBy, .ref mlevelAt, .ref mwins, .ref mslots, .ref mlevelOf, .ref mworthOf, .int mstates, .int mlevels, .int mside0, .int mside1, .int mdeathDay, .int maway, .int mhires, .int mhirer, .int mslotFound, .int misSpent, .int mfound, .int mlaid, .ref mlaidRow, .ref mgReason, .ref mgDay, .ref mgTold, .ref mgUntold, .int msights, .int mtime, .ref mboxAll, .ref misBoxed])), (mruleFrom, aI g 8 FmruleFrom), (mruleTo, aI g 8 FmruleTo), (mcode, aI g 1120 Fmcode), (mcodeNumber, aI g 1120 FmcodeNumber), (mpile, aI g 60 f_35)] := hD
        obtain ⟨x_36, ex_36⟩ : ∃ y : Int32, y = L_6 + 1 := ⟨_, rfl⟩
        have fx_36 : x_36.toInt = L_6.toInt + 1 := by rw [ex_36]; exact I_add rfl (by decide) (by omega) (by omega)
        refine lv_iinc (v := x_36) (lv' := [(2, .int x_36), (4, .int x_23), (3, .int L_5), (0, .ref h), (1, .int p0)]) hx hb dX12_comesTo_101 hl (k := 2) rfl (by rw [ex_36]; rfl) (by decide) rfl (fun ls hl => ?_)
        refine lv_goto (tgt := 137) hx hb dX12_comesTo_104 (by decide) ?_
        obtain ⟨x_37, ex_37⟩ : ∃ y : Int32, y = L_5 + 1 := ⟨_, rfl⟩
        have fx_37 : x_37.toInt = L_5.toInt + 1 := by rw [ex_37]; exact I_add rfl (by decide) (by omega) (by omega)
        refine lv_iinc (v := x_37) (lv' := [(3, .int x_37), (2, .int x_36), (4, .int x_23), (0, .ref h), (1, .int p0)]) hx hb dX12_comesTo_137 hl (k := 2) rfl (by rw [ex_37]; rfl) (by decide) rfl (fun ls hl => ?_)
        refine lv_goto (tgt := 16) hx hb dX12_comesTo_140 (by decide) ?_
        exact ih (n - 1) (by omega) H locs ls ⟨x_37, x_36, f_35, (by first | with_reducible assumption | omega), (by first | with_reducible assumption | omega), by omega, (Hq.s w_11 (by omega) (by omega) (by omega) ex_23 (by omega)), by omega, hP.sub [0, 1, 2, 3, 4, 5] rfl, hD.sub [0, 1, 2, 3, 4, 5] (by decide +kernel) rfl, hS, lv_sub hl [0, 1, 3, 4] rfl⟩
      · subst e_30
        refine lv_if_eq (tgt := 107) hx hb dX12_comesTo_80 (by decide) (fun _ => ?_) (fun c9 => absurd (by decide) c9)
        obtain ⟨x_38, ex_38⟩ : ∃ y : Int32, y = L_6 + (-1) := ⟨_, rfl⟩
        have fx_38 : x_38.toInt = L_6.toInt + (-1) := by rw [ex_38]; exact I_add rfl (by decide) (by omega) (by omega)
        refine lv_iinc (v := x_38) (lv' := [(2, .int x_38), (4, .int x_23), (3, .int L_5), (0, .ref h), (1, .int p0)]) hx hb dX12_comesTo_107 hl (k := 2) rfl (by rw [ex_38]; rfl) (by decide) rfl (fun ls hl => ?_)
        refine lv_aload_n hx hb dX12_comesTo_110 rfl (lv_at hl 3 rfl) ?_
        refine va_get (D := g.1) (ci := 12) (v := .ref mpile) (C := RX12) (T := TX12) (N := 87) hx hb hT inF_X12 hown hK.1 hP 0 rfl rfl 42 (by decide) (hT _ bw_857) (fun _ h9 => h9) rfl dX12_comesTo_111 ?_
        refine lv_iload_n hx hb dX12_comesTo_114 rfl (lv_at hl 0 rfl) ?_
        refine lv_iconst (v := 1) hx hb dX12_comesTo_115 (by decide) ?_
        refine lv_isub hx hb dX12_comesTo_116 ?_
        refine lv_topi (fun x_39 ex_39 => ?_)
        have fx_39 : x_39.toInt = x_38.toInt - 1 := by rw [ex_39]; exact I_sub rfl (by decide : (1 : Int32).toInt = 1) (by omega) (by omega)
        refine lv_iload hx hb dX12_comesTo_117 (lv_at hl 1 rfl) ?_
        refine lv_aload_n hx hb dX12_comesTo_119 rfl (lv_at hl 3 rfl) ?_
        refine va_get (D := g.1) (ci := 12) (v := .ref mpile) (C := RX12) (T := TX12) (N := 87) hx hb hT inF_X12 hown hK.1 hP 0 rfl rfl 42 (by decide) (hT _ bw_857) (fun _ h9 => h9) rfl dX12_comesTo_120 ?_
        refine lv_iload_n hx hb dX12_comesTo_123 rfl (lv_at hl 0 rfl) ?_
        refine lv_iconst (v := 1) hx hb dX12_comesTo_124 (by decide) ?_
        refine lv_isub hx hb dX12_comesTo_125 ?_
        refine lv_topi (fun x_40 ex_40 => ?_)
        have fx_40 : x_40.toInt = x_38.toInt - 1 := by rw [ex_40]; exact I_sub rfl (by decide : (1 : Int32).toInt = 1) (by omega) (by omega)
        have h_41 : vp_in x_40 60 := vp_in_iff.mpr (by omega)
        refine va_iald hx hb hK.1 hP 5 1 rfl rfl (i := x_40) h_41 dX12_comesTo_126 ?_
        refine lv_topi (fun x_42 ex_42 => ?_)
        have ux_42 := congrArg Int32.toInt ex_42
        refine lv_aload_n hx hb dX12_comesTo_127 rfl (lv_at hl 3 rfl) ?_
        refine va_get (D := g.1) (ci := 12) (v := .ref mpile) (C := RX12) (T := TX12) (N := 87) hx hb hT inF_X12 hown hK.1 hP 0 rfl rfl 42 (by decide) (hT _ bw_857) (fun _ h9 => h9) rfl dX12_comesTo_128 ?_
        refine lv_iload_n hx hb dX12_comesTo_131 rfl (lv_at hl 0 rfl) ?_
        have h_43 : vp_in x_38 60 := vp_in_iff.mpr (by omega)
        refine va_iald hx hb hK.1 hP 5 1 rfl rfl (i := x_38) h_43 dX12_comesTo_132 ?_
        refine lv_topi (fun x_44 ex_44 => ?_)
        have ux_44 := congrArg Int32.toInt ex_44
        refine k_iR (k_S (n := 3) ⟨hx, hb, hml, hown, hT⟩ hK hP hD [] rfl (by decide +kernel) (s_X12_two l g H.size x_23 x_42 x_44) (gS bw_866 bw_867 bw_868 bw_850) rfl rfl (by decide +kernel) ⟨by decide, by decide⟩ (fun _ _ _ _ _ => trivial) (fun _ _ _ => trivial) rfl rfl hl.1 (Nat.le_of_ble_eq_true rfl) dX12_comesTo_133 ⟨by decide, by decide⟩) hP hS hA (fun r_45 _ H locs hw0 hP hS => ?_)
        have h_46 : vp_in x_39 60 := vp_in_iff.mpr (by omega)
        refine va_iast hx hb hK.1 hP hD hS 5 1 rfl rfl (i := x_39) (x := r_45) h_46 dX12_comesTo_136 (fun H locs hP hD hS => ?_)
        generalize upd f_7 (x_39 : Int32).toNatClampNeg r_45 = f_47 at hP hD
        have hP : va_P g.1 vwCl [(h, .inr (12, [.ref mtape, .ref mtext, .int mtaped, .int msize, .int mfaultKind, .int mfaultPlace, .int mat, .int mend, .int mtoken, .int mnumber, .long mname, .ref mmen, .ref mkinds, .ref mreasons, .ref mtold, .ref munits, .ref mhonour, .ref mdraw, .ref mdies, .ref mcoin, .ref msonOf, .ref mkindOf, .ref mowner, .ref mfirst, .ref mlast, .ref mrent, .ref msort, .ref mduelOne, .ref mduelOther, .ref mduelOn, .ref mruleFrom, .ref mruleTo, .ref mhasHonour, .ref mhasDraw, .ref mmName, .ref mkName, .ref mrName, .ref mdName, .ref mcode, .ref mcodeNumber, .ref meWhat, .ref meSign, .ref mpile, .int mbank, .int mrb, .int mcodes, .int mwithin, .int mpiled, .int munitsInRule, .int maskDay, .int maskUses, .int maskSpent, .ref mall, .ref mwas, .int macts, .int mundone, .ref musedBy0, .ref musedBy1, .ref mmornings, .ref mcameFrom, .ref mcameBy, .ref mlevelAt, .ref mwins, .ref mslots, .ref mlevelOf, .ref mworthOf, .int mstates, .int mlevels, .int mside0, .int mside1, .int mdeathDay, .int maway, .int mhires, .int mhirer, .int mslotFound, .int misSpent, .int mfound, .int mlaid, .ref mlaidRow, .ref mgReason, .ref mgDay, .ref mgTold, .ref mgUntold, .int msights, .int mtime, .ref mboxAll, .ref misBoxed])), (mruleFrom, aI g 8 FmruleFrom), (mruleTo, aI g 8 FmruleTo), (mcode, aI g 1120 Fmcode), (mcodeNumber, aI g 1120 FmcodeNumber), (mpile, aI g 60 f_47)] H := hP
        have hD : va_D A [(h, .inr (12, [.ref mtape, .ref mtext, .int mtaped, .int msize, .int mfaultKind, .int mfaultPlace, .int mat, .int mend, .int mtoken, .int mnumber, .long mname, .ref mmen, .ref mkinds, .ref mreasons, .ref mtold, .ref munits, .ref mhonour, .ref mdraw, .ref mdies, .ref mcoin, .ref msonOf, .ref mkindOf, .ref mowner, .ref mfirst, .ref mlast, .ref mrent, .ref msort, .ref mduelOne, .ref mduelOther, .ref mduelOn, .ref mruleFrom, .ref mruleTo, .ref mhasHonour, .ref mhasDraw, .ref mmName, .ref mkName, .ref mrName, .ref mdName, .ref mcode, .ref mcodeNumber, .ref meWhat, .ref meSign, .ref mpile, .int mbank, .int mrb, .int mcodes, .int mwithin, .int mpiled, .int munitsInRule, .int maskDay, .int maskUses, .int maskSpent, .ref mall, .ref mwas, .int macts, .int mundone, .ref musedBy0, .ref musedBy1, .ref mmornings, .ref mcameFrom, .ref mcameBy, .ref mlevelAt, .ref mwins, .ref mslots, .ref mlevelOf, .ref mworthOf, .int mstates, .int mlevels, .int mside0, .int mside1, .int mdeathDay, .int maway, .int mhires, .int mhirer, .int mslotFound, .int misSpent, .int mfound, .int mlaid, .ref mlaidRow, .ref mgReason, .ref mgDay, .ref mgTold, .ref mgUntold, .int msights, .int mtime, .ref mboxAll, .ref misBoxed])), (mruleFrom, aI g 8 FmruleFrom), (mruleTo, aI g 8 FmruleTo), (mcode, aI g 1120 Fmcode), (mcodeNumber, aI g 1120 FmcodeNumber), (mpile, aI g 60 f_47)] := hD
        obtain ⟨x_48, ex_48⟩ : ∃ y : Int32, y = L_5 + 1 := ⟨_, rfl⟩
        have fx_48 : x_48.toInt = L_5.toInt + 1 := by rw [ex_48]; exact I_add rfl (by decide) (by omega) (by omega)
        refine lv_iinc (v := x_48) (lv' := [(3, .int x_48), (2, .int x_38), (4, .int x_23), (0, .ref h), (1, .int p0)]) hx hb dX12_comesTo_137 hl (k := 2) rfl (by rw [ex_48]; rfl) (by decide) rfl (fun ls hl => ?_)
        refine lv_goto (tgt := 16) hx hb dX12_comesTo_140 (by decide) ?_
        exact ih (n - 1) (by omega) H locs ls ⟨x_48, x_38, f_47, (by first | with_reducible assumption | omega), (by first | with_reducible assumption | omega), by omega, (Hq.s w_11 (by omega) (by omega) (by omega) ex_23 (by omega)), by omega, hP.sub [0, 1, 2, 3, 4, 5] rfl, hD.sub [0, 1, 2, 3, 4, 5] (by decide +kernel) rfl, hS, lv_sub hl [0, 1, 3, 4] rfl⟩
    · have f_49 := E_eq (rfl : x_23.toInt = _) (by decide : (126 : Int32).toInt = 126) c_24
      refine lv_aload_n hx hb dX12_comesTo_48 rfl (lv_at hl 3 rfl) ?_
      refine va_get (D := g.1) (ci := 12) (v := .ref mpile) (C := RX12) (T := TX12) (N := 87) hx hb hT inF_X12 hown hK.1 hP 0 rfl rfl 42 (by decide) (hT _ bw_857) (fun _ h9 => h9) rfl dX12_comesTo_49 ?_
      refine lv_iload_n hx hb dX12_comesTo_52 rfl (lv_at hl 2 rfl) ?_
      refine lv_iconst (v := 1) hx hb dX12_comesTo_53 (by decide) ?_
      refine lv_isub hx hb dX12_comesTo_54 ?_
      refine lv_topi (fun x_50 ex_50 => ?_)
      have fx_50 : x_50.toInt = L_6.toInt - 1 := by rw [ex_50]; exact I_sub rfl (by decide : (1 : Int32).toInt = 1) (by omega) (by omega)
      refine lv_aload_n hx hb dX12_comesTo_55 rfl (lv_at hl 3 rfl) ?_
      refine va_get (D := g.1) (ci := 12) (v := .ref mpile) (C := RX12) (T := TX12) (N := 87) hx hb hT inF_X12 hown hK.1 hP 0 rfl rfl 42 (by decide) (hT _ bw_857) (fun _ h9 => h9) rfl dX12_comesTo_56 ?_
      refine lv_iload_n hx hb dX12_comesTo_59 rfl (lv_at hl 2 rfl) ?_
      refine lv_iconst (v := 1) hx hb dX12_comesTo_60 (by decide) ?_
      refine lv_isub hx hb dX12_comesTo_61 ?_
      refine lv_topi (fun x_51 ex_51 => ?_)
      have fx_51 : x_51.toInt = L_6.toInt - 1 := by rw [ex_51]; exact I_sub rfl (by decide : (1 : Int32).toInt = 1) (by omega) (by omega)
      have h_52 : vp_in x_51 60 := vp_in_iff.mpr (by omega)
      refine va_iald hx hb hK.1 hP 5 1 rfl rfl (i := x_51) h_52 dX12_comesTo_62 ?_
      refine lv_topi (fun x_53 ex_53 => ?_)
      have ux_53 := congrArg Int32.toInt ex_53
      refine lv_if_ne (tgt := 70) hx hb dX12_comesTo_63 (by decide) (fun c_54 => ?_) (fun c_54 => ?_)
      · have f_55 := E_ne (rfl : x_53.toInt = _) (by decide : (0 : Int32).toInt = 0) c_54
        refine lv_iconst (v := 0) hx hb dX12_comesTo_70 (by decide) ?_
        have h_56 : vp_in x_50 60 := vp_in_iff.mpr (by omega)
        refine va_iast hx hb hK.1 hP hD hS 5 1 rfl rfl (i := x_50) (x := 0) h_56 dX12_comesTo_71 (fun H locs hP hD hS => ?_)
        generalize upd f_7 (x_50 : Int32).toNatClampNeg 0 = f_57 at hP hD
        have hP : va_P g.1 vwCl [(h, .inr (12, [.ref mtape, .ref mtext, .int mtaped, .int msize, .int mfaultKind, .int mfaultPlace, .int mat, .int mend, .int mtoken, .int mnumber, .long mname, .ref mmen, .ref mkinds, .ref mreasons, .ref mtold, .ref munits, .ref mhonour, .ref mdraw, .ref mdies, .ref mcoin, .ref msonOf, .ref mkindOf, .ref mowner, .ref mfirst, .ref mlast, .ref mrent, .ref msort, .ref mduelOne, .ref mduelOther, .ref mduelOn, .ref mruleFrom, .ref mruleTo, .ref mhasHonour, .ref mhasDraw, .ref mmName, .ref mkName, .ref mrName, .ref mdName, .ref mcode, .ref mcodeNumber, .ref meWhat, .ref meSign, .ref mpile, .int mbank, .int mrb, .int mcodes, .int mwithin, .int mpiled, .int munitsInRule, .int maskDay, .int maskUses, .int maskSpent, .ref mall, .ref mwas, .int macts, .int mundone, .ref musedBy0, .ref musedBy1, .ref mmornings, .ref mcameFrom, .ref mcameBy, .ref mlevelAt, .ref mwins, .ref mslots, .ref mlevelOf, .ref mworthOf, .int mstates, .int mlevels, .int mside0, .int mside1, .int mdeathDay, .int maway, .int mhires, .int mhirer, .int mslotFound, .int misSpent, .int mfound, .int mlaid, .ref mlaidRow, .ref mgReason, .ref mgDay, .ref mgTold, .ref mgUntold, .int msights, .int mtime, .ref mboxAll, .ref misBoxed])), (mruleFrom, aI g 8 FmruleFrom), (mruleTo, aI g 8 FmruleTo), (mcode, aI g 1120 Fmcode), (mcodeNumber, aI g 1120 FmcodeNumber), (mpile, aI g 60 f_57)] H := hP
        have hD : va_D A [(h, .inr (12, [.ref mtape, .ref mtext, .int mtaped, .int msize, .int mfaultKind, .int mfaultPlace, .int mat, .int mend, .int mtoken, .int mnumber, .long mname, .ref mmen, .ref mkinds, .ref mreasons, .ref mtold, .ref munits, .ref mhonour, .ref mdraw, .ref mdies, .ref mcoin, .ref msonOf, .ref mkindOf, .ref mowner, .ref mfirst, .ref mlast, .ref mrent, .ref msort, .ref mduelOne, .ref mduelOther, .ref mduelOn, .ref mruleFrom, .ref mruleTo, .ref mhasHonour, .ref mhasDraw, .ref mmName, .ref mkName, .ref mrName, .ref mdName, .ref mcode, .ref mcodeNumber, .ref meWhat, .ref meSign, .ref mpile, .int mbank, .int mrb, .int mcodes, .int mwithin, .int mpiled, .int munitsInRule, .int maskDay, .int maskUses, .int maskSpent, .ref mall, .ref mwas, .int macts, .int mundone, .ref musedBy0, .ref musedBy1, .ref mmornings, .ref mcameFrom, .ref mcameBy, .ref mlevelAt, .ref mwins, .ref mslots, .ref mlevelOf, .ref mworthOf, .int mstates, .int mlevels, .int mside0, .int mside1, .int mdeathDay, .int maway, .int mhires, .int mhirer, .int mslotFound, .int misSpent, .int mfound, .int mlaid, .ref mlaidRow, .ref mgReason, .ref mgDay, .ref mgTold, .ref mgUntold, .int msights, .int mtime, .ref mboxAll, .ref misBoxed])), (mruleFrom, aI g 8 FmruleFrom), (mruleTo, aI g 8 FmruleTo), (mcode, aI g 1120 Fmcode), (mcodeNumber, aI g 1120 FmcodeNumber), (mpile, aI g 60 f_57)] := hD
        refine lv_goto (tgt := 137) hx hb dX12_comesTo_72 (by decide) ?_
        obtain ⟨x_58, ex_58⟩ : ∃ y : Int32, y = L_5 + 1 := ⟨_, rfl⟩
        have fx_58 : x_58.toInt = L_5.toInt + 1 := by rw [ex_58]; exact I_add rfl (by decide) (by omega) (by omega)
        refine lv_iinc (v := x_58) (lv' := [(3, .int x_58), (4, .int x_23), (2, .int L_6), (0, .ref h), (1, .int p0)]) hx hb dX12_comesTo_137 hl (k := 1) rfl (by rw [ex_58]; rfl) (by decide) rfl (fun ls hl => ?_)
        refine lv_goto (tgt := 16) hx hb dX12_comesTo_140 (by decide) ?_
        exact ih (n - 1) (by omega) H locs ls ⟨x_58, L_6, f_57, (by first | with_reducible assumption | omega), (by first | with_reducible assumption | omega), by omega, (Hq.s w_11 (by omega) (by omega) (by omega) ex_23 (by omega)), by omega, hP.sub [0, 1, 2, 3, 4, 5] rfl, hD.sub [0, 1, 2, 3, 4, 5] (by decide +kernel) rfl, hS, lv_sub hl [0, 2, 3, 4] rfl⟩
      · have f_59 := E_eq (rfl : x_53.toInt = _) (by decide : (0 : Int32).toInt = 0) c_54
        refine lv_iconst (v := 1) hx hb dX12_comesTo_66 (by decide) ?_
        refine lv_goto (tgt := 71) hx hb dX12_comesTo_67 (by decide) ?_
        have h_60 : vp_in x_50 60 := vp_in_iff.mpr (by omega)
        refine va_iast hx hb hK.1 hP hD hS 5 1 rfl rfl (i := x_50) (x := 1) h_60 dX12_comesTo_71 (fun H locs hP hD hS => ?_)
        generalize upd f_7 (x_50 : Int32).toNatClampNeg 1 = f_61 at hP hD
        have hP : va_P g.1 vwCl [(h, .inr (12, [.ref mtape, .ref mtext, .int mtaped, .int msize, .int mfaultKind, .int mfaultPlace, .int mat, .int mend, .int mtoken, .int mnumber, .long mname, .ref mmen, .ref mkinds, .ref mreasons, .ref mtold, .ref munits, .ref mhonour, .ref mdraw, .ref mdies, .ref mcoin, .ref msonOf, .ref mkindOf, .ref mowner, .ref mfirst, .ref mlast, .ref mrent, .ref msort, .ref mduelOne, .ref mduelOther, .ref mduelOn, .ref mruleFrom, .ref mruleTo, .ref mhasHonour, .ref mhasDraw, .ref mmName, .ref mkName, .ref mrName, .ref mdName, .ref mcode, .ref mcodeNumber, .ref meWhat, .ref meSign, .ref mpile, .int mbank, .int mrb, .int mcodes, .int mwithin, .int mpiled, .int munitsInRule, .int maskDay, .int maskUses, .int maskSpent, .ref mall, .ref mwas, .int macts, .int mundone, .ref musedBy0, .ref musedBy1, .ref mmornings, .ref mcameFrom, .ref mcameBy, .ref mlevelAt, .ref mwins, .ref mslots, .ref mlevelOf, .ref mworthOf, .int mstates, .int mlevels, .int mside0, .int mside1, .int mdeathDay, .int maway, .int mhires, .int mhirer, .int mslotFound, .int misSpent, .int mfound, .int mlaid, .ref mlaidRow, .ref mgReason, .ref mgDay, .ref mgTold, .ref mgUntold, .int msights, .int mtime, .ref mboxAll, .ref misBoxed])), (mruleFrom, aI g 8 FmruleFrom), (mruleTo, aI g 8 FmruleTo), (mcode, aI g 1120 Fmcode), (mcodeNumber, aI g 1120 FmcodeNumber), (mpile, aI g 60 f_61)] H := hP
        have hD : va_D A [(h, .inr (12, [.ref mtape, .ref mtext, .int mtaped, .int msize, .int mfaultKind, .int mfaultPlace, .int mat, .int mend, .int mtoken, .int mnumber, .long mname, .ref mmen, .ref mkinds, .ref mreasons, .ref mtold, .ref munits, .ref mhonour, .ref mdraw, .ref mdies, .ref mcoin, .ref msonOf, .ref mkindOf, .ref mowner, .ref mfirst, .ref mlast, .ref mrent, .ref msort, .ref mduelOne, .ref mduelOther, .ref mduelOn, .ref mruleFrom, .ref mruleTo, .ref mhasHonour, .ref mhasDraw, .ref mmName, .ref mkName, .ref mrName, .ref mdName, .ref mcode, .ref mcodeNumber, .ref meWhat, .ref meSign, .ref mpile, .int mbank, .int mrb, .int mcodes, .int mwithin, .int mpiled, .int munitsInRule, .int maskDay, .int maskUses, .int maskSpent, .ref mall, .ref mwas, .int macts, .int mundone, .ref musedBy0, .ref musedBy1, .ref mmornings, .ref mcameFrom, .ref mcameBy, .ref mlevelAt, .ref mwins, .ref mslots, .ref mlevelOf, .ref mworthOf, .int mstates, .int mlevels, .int mside0, .int mside1, .int mdeathDay, .int maway, .int mhires, .int mhirer, .int mslotFound, .int misSpent, .int mfound, .int mlaid, .ref mlaidRow, .ref mgReason, .ref mgDay, .ref mgTold, .ref mgUntold, .int msights, .int mtime, .ref mboxAll, .ref misBoxed])), (mruleFrom, aI g 8 FmruleFrom), (mruleTo, aI g 8 FmruleTo), (mcode, aI g 1120 Fmcode), (mcodeNumber, aI g 1120 FmcodeNumber), (mpile, aI g 60 f_61)] := hD
        refine lv_goto (tgt := 137) hx hb dX12_comesTo_72 (by decide) ?_
        obtain ⟨x_62, ex_62⟩ : ∃ y : Int32, y = L_5 + 1 := ⟨_, rfl⟩
        have fx_62 : x_62.toInt = L_5.toInt + 1 := by rw [ex_62]; exact I_add rfl (by decide) (by omega) (by omega)
        refine lv_iinc (v := x_62) (lv' := [(3, .int x_62), (4, .int x_23), (2, .int L_6), (0, .ref h), (1, .int p0)]) hx hb dX12_comesTo_137 hl (k := 1) rfl (by rw [ex_62]; rfl) (by decide) rfl (fun ls hl => ?_)
        refine lv_goto (tgt := 16) hx hb dX12_comesTo_140 (by decide) ?_
        exact ih (n - 1) (by omega) H locs ls ⟨x_62, L_6, f_61, (by first | with_reducible assumption | omega), (by first | with_reducible assumption | omega), by omega, (Hq.s w_11 (by omega) (by omega) (by omega) ex_23 (by omega)), by omega, hP.sub [0, 1, 2, 3, 4, 5] rfl, hD.sub [0, 1, 2, 3, 4, 5] (by decide +kernel) rfl, hS, lv_sub hl [0, 2, 3, 4] rfl⟩

theorem bw_870 : Cond.methodLink RX12 446 yX12_bitsOf ∈ gT := gT_tb 1770 (by decide +kernel) (by decide +kernel)
theorem bw_871 : Cond.static yX12_bitsOf ∈ gT := gT_tb 1771 (by decide +kernel) (by decide +kernel)
theorem bw_872 : Cond.initialized yX12_bitsOf.cls ∈ gT := gT_tb 19 (by decide +kernel) (by decide +kernel)
theorem bw_873 : Cond.fieldLink RX12 51 "DuelDelaysModel" "kindOf" "[I" ∈ gT := gT_tb 1326 (by decide +kernel) (by decide +kernel)
theorem bw_874 : Cond.methodLink RX12 455 yX12_comesTo ∈ gT := gT_tb 1793 (by decide +kernel) (by decide +kernel)
theorem bw_875 : Cond.instanceMethod yX12_comesTo ∈ gT := gT_tb 1795 (by decide +kernel) (by decide +kernel)
theorem bw_876 : Cond.selects RX12 yX12_comesTo yX12_comesTo ∈ gT := gT_sl 93 (by decide +kernel) (by decide +kernel)
theorem bw_877 : Cond.code yX12_worthBy cX12_worthBy 7 (some .int) ∈ gT := gT_tb 1792 (by decide +kernel) (by decide +kernel)
theorem dX12_worthBy_0 : decode cX12_worthBy 0 = .ok (.iconst 0, 1) := by decide +kernel
theorem dX12_worthBy_1 : decode cX12_worthBy 1 = .ok (.istore 5, 2) := by decide +kernel
theorem dX12_worthBy_3 : decode cX12_worthBy 3 = .ok (.iconst 0, 1) := by decide +kernel
theorem dX12_worthBy_4 : decode cX12_worthBy 4 = .ok (.istore 6, 2) := by decide +kernel
theorem dX12_worthBy_6 : decode cX12_worthBy 6 = .ok (.iload 6, 2) := by decide +kernel
theorem dX12_worthBy_8 : decode cX12_worthBy 8 = .ok (.aload_n 0, 1) := by decide +kernel
theorem dX12_worthBy_9 : decode cX12_worthBy 9 = .ok (.getfield 27, 3) := by decide +kernel
theorem dX12_worthBy_12 : decode cX12_worthBy 12 = .ok (.aload_n 0, 1) := by decide +kernel
theorem dX12_worthBy_13 : decode cX12_worthBy 13 = .ok (.getfield 308, 3) := by decide +kernel
theorem dX12_worthBy_16 : decode cX12_worthBy 16 = .ok (.iaload, 1) := by decide +kernel
theorem dX12_worthBy_17 : decode cX12_worthBy 17 = .ok (.if_icmp .ge 60, 3) := by decide +kernel
theorem dX12_worthBy_20 : decode cX12_worthBy 20 = .ok (.aload_n 0, 1) := by decide +kernel
theorem dX12_worthBy_21 : decode cX12_worthBy 21 = .ok (.getfield 51, 3) := by decide +kernel
theorem dX12_worthBy_24 : decode cX12_worthBy 24 = .ok (.bipush 8, 2) := by decide +kernel
theorem dX12_worthBy_26 : decode cX12_worthBy 26 = .ok (.aload_n 0, 1) := by decide +kernel
theorem dX12_worthBy_27 : decode cX12_worthBy 27 = .ok (.getfield 308, 3) := by decide +kernel
theorem dX12_worthBy_30 : decode cX12_worthBy 30 = .ok (.imul, 1) := by decide +kernel
theorem dX12_worthBy_31 : decode cX12_worthBy 31 = .ok (.iload 6, 2) := by decide +kernel
theorem dX12_worthBy_33 : decode cX12_worthBy 33 = .ok (.iadd, 1) := by decide +kernel
theorem dX12_worthBy_34 : decode cX12_worthBy 34 = .ok (.iaload, 1) := by decide +kernel
theorem dX12_worthBy_35 : decode cX12_worthBy 35 = .ok (.aload_n 0, 1) := by decide +kernel
theorem dX12_worthBy_36 : decode cX12_worthBy 36 = .ok (.getfield 51, 3) := by decide +kernel
theorem dX12_worthBy_39 : decode cX12_worthBy 39 = .ok (.bipush 8, 2) := by decide +kernel
theorem dX12_worthBy_41 : decode cX12_worthBy 41 = .ok (.aload_n 0, 1) := by decide +kernel
theorem dX12_worthBy_42 : decode cX12_worthBy 42 = .ok (.getfield 308, 3) := by decide +kernel
theorem dX12_worthBy_45 : decode cX12_worthBy 45 = .ok (.imul, 1) := by decide +kernel
theorem dX12_worthBy_46 : decode cX12_worthBy 46 = .ok (.iload_n 1, 1) := by decide +kernel
theorem dX12_worthBy_47 : decode cX12_worthBy 47 = .ok (.iadd, 1) := by decide +kernel
theorem dX12_worthBy_48 : decode cX12_worthBy 48 = .ok (.iaload, 1) := by decide +kernel
theorem dX12_worthBy_49 : decode cX12_worthBy 49 = .ok (.if_icmp .ne 22, 3) := by decide +kernel
theorem dX12_worthBy_52 : decode cX12_worthBy 52 = .ok (.iload 5, 2) := by decide +kernel
theorem dX12_worthBy_54 : decode cX12_worthBy 54 = .ok (.iload_n 3, 1) := by decide +kernel
theorem dX12_worthBy_55 : decode cX12_worthBy 55 = .ok (.iload 6, 2) := by decide +kernel
theorem dX12_worthBy_57 : decode cX12_worthBy 57 = .ok (.ishr, 1) := by decide +kernel
theorem dX12_worthBy_58 : decode cX12_worthBy 58 = .ok (.iconst 1, 1) := by decide +kernel
theorem dX12_worthBy_59 : decode cX12_worthBy 59 = .ok (.iand, 1) := by decide +kernel
theorem dX12_worthBy_60 : decode cX12_worthBy 60 = .ok (.iload 4, 2) := by decide +kernel
theorem dX12_worthBy_62 : decode cX12_worthBy 62 = .ok (.iload 6, 2) := by decide +kernel
theorem dX12_worthBy_64 : decode cX12_worthBy 64 = .ok (.ishr, 1) := by decide +kernel
theorem dX12_worthBy_65 : decode cX12_worthBy 65 = .ok (.iconst 1, 1) := by decide +kernel
theorem dX12_worthBy_66 : decode cX12_worthBy 66 = .ok (.iand, 1) := by decide +kernel
theorem dX12_worthBy_67 : decode cX12_worthBy 67 = .ok (.iadd, 1) := by decide +kernel
theorem dX12_worthBy_68 : decode cX12_worthBy 68 = .ok (.iadd, 1) := by decide +kernel
theorem dX12_worthBy_69 : decode cX12_worthBy 69 = .ok (.istore 5, 2) := by decide +kernel
theorem dX12_worthBy_71 : decode cX12_worthBy 71 = .ok (.iinc 6 1, 3) := by decide +kernel
theorem dX12_worthBy_74 : decode cX12_worthBy 74 = .ok (.goto (-68), 3) := by decide +kernel
theorem dX12_worthBy_77 : decode cX12_worthBy 77 = .ok (.aload_n 0, 1) := by decide +kernel
theorem dX12_worthBy_78 : decode cX12_worthBy 78 = .ok (.iload_n 2, 1) := by decide +kernel
theorem dX12_worthBy_79 : decode cX12_worthBy 79 = .ok (.putfield 395, 3) := by decide +kernel
theorem dX12_worthBy_82 : decode cX12_worthBy 82 = .ok (.aload_n 0, 1) := by decide +kernel
theorem dX12_worthBy_83 : decode cX12_worthBy 83 = .ok (.iload 5, 2) := by decide +kernel
theorem dX12_worthBy_85 : decode cX12_worthBy 85 = .ok (.putfield 398, 3) := by decide +kernel
theorem dX12_worthBy_88 : decode cX12_worthBy 88 = .ok (.aload_n 0, 1) := by decide +kernel
theorem dX12_worthBy_89 : decode cX12_worthBy 89 = .ok (.iload_n 3, 1) := by decide +kernel
theorem dX12_worthBy_90 : decode cX12_worthBy 90 = .ok (.invokestatic 446, 3) := by decide +kernel
theorem dX12_worthBy_93 : decode cX12_worthBy 93 = .ok (.iload 4, 2) := by decide +kernel
theorem dX12_worthBy_95 : decode cX12_worthBy 95 = .ok (.invokestatic 446, 3) := by decide +kernel
theorem dX12_worthBy_98 : decode cX12_worthBy 98 = .ok (.iadd, 1) := by decide +kernel
theorem dX12_worthBy_99 : decode cX12_worthBy 99 = .ok (.putfield 401, 3) := by decide +kernel
theorem dX12_worthBy_102 : decode cX12_worthBy 102 = .ok (.aload_n 0, 1) := by decide +kernel
theorem dX12_worthBy_103 : decode cX12_worthBy 103 = .ok (.aload_n 0, 1) := by decide +kernel
theorem dX12_worthBy_104 : decode cX12_worthBy 104 = .ok (.getfield 51, 3) := by decide +kernel
theorem dX12_worthBy_107 : decode cX12_worthBy 107 = .ok (.bipush 8, 2) := by decide +kernel
theorem dX12_worthBy_109 : decode cX12_worthBy 109 = .ok (.aload_n 0, 1) := by decide +kernel
theorem dX12_worthBy_110 : decode cX12_worthBy 110 = .ok (.getfield 308, 3) := by decide +kernel
theorem dX12_worthBy_113 : decode cX12_worthBy 113 = .ok (.imul, 1) := by decide +kernel
theorem dX12_worthBy_114 : decode cX12_worthBy 114 = .ok (.iload_n 1, 1) := by decide +kernel
theorem dX12_worthBy_115 : decode cX12_worthBy 115 = .ok (.iadd, 1) := by decide +kernel
theorem dX12_worthBy_116 : decode cX12_worthBy 116 = .ok (.iaload, 1) := by decide +kernel
theorem dX12_worthBy_117 : decode cX12_worthBy 117 = .ok (.invokevirtual 455, 3) := by decide +kernel
theorem dX12_worthBy_120 : decode cX12_worthBy 120 = .ok (.istore 6, 2) := by decide +kernel
theorem dX12_worthBy_122 : decode cX12_worthBy 122 = .ok (.iload 6, 2) := by decide +kernel
theorem dX12_worthBy_124 : decode cX12_worthBy 124 = .ok (.iconst 1, 1) := by decide +kernel
theorem dX12_worthBy_125 : decode cX12_worthBy 125 = .ok (.if_icmp .ge 7, 3) := by decide +kernel
theorem dX12_worthBy_128 : decode cX12_worthBy 128 = .ok (.iconst 1, 1) := by decide +kernel
theorem dX12_worthBy_129 : decode cX12_worthBy 129 = .ok (.goto 19, 3) := by decide +kernel
theorem dX12_worthBy_132 : decode cX12_worthBy 132 = .ok (.iload 6, 2) := by decide +kernel
theorem dX12_worthBy_134 : decode cX12_worthBy 134 = .ok (.sipush 365, 3) := by decide +kernel
theorem dX12_worthBy_137 : decode cX12_worthBy 137 = .ok (.if_icmp .le 9, 3) := by decide +kernel
theorem dX12_worthBy_140 : decode cX12_worthBy 140 = .ok (.sipush 365, 3) := by decide +kernel
theorem dX12_worthBy_143 : decode cX12_worthBy 143 = .ok (.goto 5, 3) := by decide +kernel
theorem dX12_worthBy_146 : decode cX12_worthBy 146 = .ok (.iload 6, 2) := by decide +kernel
theorem dX12_worthBy_148 : decode cX12_worthBy 148 = .ok (.ireturn, 1) := by decide +kernel
set_option maxHeartbeats 40000000 in
set_option maxRecDepth 100000 in
theorem s_X12_worthBy (l : Launch) (g : GG) (sz : Nat) (h : Nat) (mtape : Nat) (mtext : Nat) (mtaped : Int32) (msize : Int32) (mfaultKind : Int32) (mfaultPlace : Int32) (mat : Int32) (mend : Int32) (mtoken : Int32) (mnumber : Int32) (mname : Int64) (mmen : Nat) (mkinds : Nat) (Fmkinds : Nat → Int32) (mreasons : Nat) (Fmreasons : Nat → Int32) (mtold : Nat) (munits : Nat) (mhonour : Nat) (mdraw : Nat) (mdies : Nat) (mcoin : Nat) (msonOf : Nat) (mkindOf : Nat) (FmkindOf : Nat → Int32) (mowner : Nat) (mfirst : Nat) (mlast : Nat) (mrent : Nat) (msort : Nat) (mduelOne : Nat) (mduelOther : Nat) (mduelOn : Nat) (mruleFrom : Nat) (FmruleFrom : Nat → Int32) (mruleTo : Nat) (FmruleTo : Nat → Int32) (mhasHonour : Nat) (mhasDraw : Nat) (mmName : Nat) (mkName : Nat) (mrName : Nat) (mdName : Nat) (mcode : Nat) (Fmcode : Nat → Int32) (mcodeNumber : Nat) (FmcodeNumber : Nat → Int32) (meWhat : Nat) (meSign : Nat) (mpile : Nat) (Fmpile : Nat → Int32) (mbank : Int32) (mrb : Int32) (mcodes : Int32) (mwithin : Int32) (mpiled : Int32) (munitsInRule : Int32) (maskDay : Int32) (maskUses : Int32) (maskSpent : Int32) (mall : Nat) (mwas : Nat) (macts : Int32) (mundone : Int32) (musedBy0 : Nat) (musedBy1 : Nat) (mmornings : Nat) (mcameFrom : Nat) (mcameBy : Nat) (mlevelAt : Nat) (mwins : Nat) (mslots : Nat) (mlevelOf : Nat) (mworthOf : Nat) (mstates : Int32) (mlevels : Int32) (mside0 : Int32) (mside1 : Int32) (mdeathDay : Int32) (maway : Int32) (mhires : Int32) (mhirer : Int32) (mslotFound : Int32) (misSpent : Int32) (mfound : Int32) (mlaid : Int32) (mlaidRow : Nat) (mgReason : Nat) (mgDay : Nat) (mgTold : Nat) (mgUntold : Nat) (msights : Int32) (mtime : Int32) (mboxAll : Nat) (misBoxed : Nat) (p0 : Int32) (p1 : Int32) (p2 : Int32) (p3 : Int32) (hh0 : 0 ≤ mtaped.toInt ∧ mtaped.toInt ≤ 1600) (hh1 : 0 ≤ msize.toInt ∧ msize.toInt ≤ 1600) (hh2 : 0 ≤ mat.toInt ∧ mat.toInt ≤ 1600) (hh3 : 0 ≤ mend.toInt ∧ mend.toInt ≤ 1600) (hh4 : 0 ≤ mtoken.toInt ∧ mtoken.toInt ≤ 5) (hh6 : Rg 2 0 4 Fmkinds) (hh7 : Rg 2 0 8 Fmreasons) (hh12 : Rg 16 0 3 FmkindOf) (hh16 : Rg 8 0 1120 FmruleFrom) (hh17 : Rg 8 0 1120 FmruleTo) (hh18 : 0 ≤ mbank.toInt ∧ mbank.toInt ≤ 1) (hh19 : 0 ≤ mrb.toInt ∧ mrb.toInt ≤ 1) (hh20 : 0 ≤ mcodes.toInt ∧ mcodes.toInt ≤ 1120) (hh21 : 0 ≤ mpiled.toInt ∧ mpiled.toInt ≤ 90) (hh22 : 0 ≤ munitsInRule.toInt ∧ munitsInRule.toInt ≤ 30) (hh25 : 0 ≤ macts.toInt ∧ macts.toInt ≤ 40) (hh26 : 0 ≤ mundone.toInt ∧ mundone.toInt ≤ 40) (hh34 : 0 ≤ mstates.toInt ∧ mstates.toInt ≤ 3000) (hh35 : 0 ≤ mlevels.toInt ∧ mlevels.toInt ≤ 18) (hh36 : 0 ≤ mside0.toInt ∧ mside0.toInt ≤ 5) (hh37 : 0 ≤ mside1.toInt ∧ mside1.toInt ≤ 5) (hh38 : 0 ≤ mslotFound.toInt ∧ mslotFound.toInt ≤ 8191) (hh39 : 0 ≤ misSpent.toInt ∧ misSpent.toInt ≤ 1) (hh40 : 0 ≤ mlaid.toInt ∧ mlaid.toInt ≤ 16) (hh41 : 0 ≤ msights.toInt ∧ msights.toInt ≤ 30) (hh42 : 0 ≤ mtime.toInt ∧ mtime.toInt ≤ 100000) (hh44 : 0 ≤ p0.toInt ∧ p0.toInt ≤ 7) (hh45 : 0 ≤ p2.toInt ∧ p2.toInt ≤ 255) (hh46 : 0 ≤ p3.toInt ∧ p3.toInt ≤ 255) (hko : KO mbank Fmreasons Fmkinds FmkindOf) (hro : RO mbank Fmkinds FmruleFrom FmruleTo Fmcode) (hrr : p0.toInt < (Fmreasons mbank.toNatClampNeg).toInt) : Met l yX12_worthBy (.code yX12_worthBy cX12_worthBy 7 (some .int) :: gT) ({ frames := 2, cells := 0, slots := 0, locals := 46 }) (va_Pc [.ref h, .int p0, .int p1, .int p2, .int p3] (Pst g sz [(h, .inr (12, [.ref mtape, .ref mtext, .int mtaped, .int msize, .int mfaultKind, .int mfaultPlace, .int mat, .int mend, .int mtoken, .int mnumber, .long mname, .ref mmen, .ref mkinds, .ref mreasons, .ref mtold, .ref munits, .ref mhonour, .ref mdraw, .ref mdies, .ref mcoin, .ref msonOf, .ref mkindOf, .ref mowner, .ref mfirst, .ref mlast, .ref mrent, .ref msort, .ref mduelOne, .ref mduelOther, .ref mduelOn, .ref mruleFrom, .ref mruleTo, .ref mhasHonour, .ref mhasDraw, .ref mmName, .ref mkName, .ref mrName, .ref mdName, .ref mcode, .ref mcodeNumber, .ref meWhat, .ref meSign, .ref mpile, .int mbank, .int mrb, .int mcodes, .int mwithin, .int mpiled, .int munitsInRule, .int maskDay, .int maskUses, .int maskSpent, .ref mall, .ref mwas, .int macts, .int mundone, .ref musedBy0, .ref musedBy1, .ref mmornings, .ref mcameFrom, .ref mcameBy, .ref mlevelAt, .ref mwins, .ref mslots, .ref mlevelOf, .ref mworthOf, .int mstates, .int mlevels, .int mside0, .int mside1, .int mdeathDay, .int maway, .int mhires, .int mhirer, .int mslotFound, .int misSpent, .int mfound, .int mlaid, .ref mlaidRow, .ref mgReason, .ref mgDay, .ref mgTold, .ref mgUntold, .int msights, .int mtime, .ref mboxAll, .ref misBoxed])), (mreasons, aI g 2 Fmreasons), (mkindOf, aI g 16 FmkindOf), (mruleFrom, aI g 8 FmruleFrom), (mruleTo, aI g 8 FmruleTo), (mcode, aI g 1120 Fmcode), (mcodeNumber, aI g 1120 FmcodeNumber), (mpile, aI g 60 Fmpile)] nX)) (va_Qi (fun (r : Int32) => fun ((o0_askUses, o1_askSpent, o2_F) : Int32 × Int32 × (Nat → Int32)) => 1 ≤ r.toInt ∧ r.toInt ≤ 365) (Qst g [(h, .inr (12, [.ref mtape, .ref mtext, .int mtaped, .int msize, .int mfaultKind, .int mfaultPlace, .int mat, .int mend, .int mtoken, .int mnumber, .long mname, .ref mmen, .ref mkinds, .ref mreasons, .ref mtold, .ref munits, .ref mhonour, .ref mdraw, .ref mdies, .ref mcoin, .ref msonOf, .ref mkindOf, .ref mowner, .ref mfirst, .ref mlast, .ref mrent, .ref msort, .ref mduelOne, .ref mduelOther, .ref mduelOn, .ref mruleFrom, .ref mruleTo, .ref mhasHonour, .ref mhasDraw, .ref mmName, .ref mkName, .ref mrName, .ref mdName, .ref mcode, .ref mcodeNumber, .ref meWhat, .ref meSign, .ref mpile, .int mbank, .int mrb, .int mcodes, .int mwithin, .int mpiled, .int munitsInRule, .int maskDay, .int maskUses, .int maskSpent, .ref mall, .ref mwas, .int macts, .int mundone, .ref musedBy0, .ref musedBy1, .ref mmornings, .ref mcameFrom, .ref mcameBy, .ref mlevelAt, .ref mwins, .ref mslots, .ref mlevelOf, .ref mworthOf, .int mstates, .int mlevels, .int mside0, .int mside1, .int mdeathDay, .int maway, .int mhires, .int mhirer, .int mslotFound, .int misSpent, .int mfound, .int mlaid, .ref mlaidRow, .ref mgReason, .ref mgDay, .ref mgTold, .ref mgUntold, .int msights, .int mtime, .ref mboxAll, .ref misBoxed])), (mreasons, aI g 2 Fmreasons), (mkindOf, aI g 16 FmkindOf), (mruleFrom, aI g 8 FmruleFrom), (mruleTo, aI g 8 FmruleTo), (mcode, aI g 1120 Fmcode), (mcodeNumber, aI g 1120 FmcodeNumber), (mpile, aI g 60 Fmpile)] sz (fun ((o0_askUses, o1_askSpent, o2_F) : Int32 × Int32 × (Nat → Int32)) => [(h, .inr (12, [.ref mtape, .ref mtext, .int mtaped, .int msize, .int mfaultKind, .int mfaultPlace, .int mat, .int mend, .int mtoken, .int mnumber, .long mname, .ref mmen, .ref mkinds, .ref mreasons, .ref mtold, .ref munits, .ref mhonour, .ref mdraw, .ref mdies, .ref mcoin, .ref msonOf, .ref mkindOf, .ref mowner, .ref mfirst, .ref mlast, .ref mrent, .ref msort, .ref mduelOne, .ref mduelOther, .ref mduelOn, .ref mruleFrom, .ref mruleTo, .ref mhasHonour, .ref mhasDraw, .ref mmName, .ref mkName, .ref mrName, .ref mdName, .ref mcode, .ref mcodeNumber, .ref meWhat, .ref meSign, .ref mpile, .int mbank, .int mrb, .int mcodes, .int mwithin, .int mpiled, .int munitsInRule, .int p1, .int o0_askUses, .int o1_askSpent, .ref mall, .ref mwas, .int macts, .int mundone, .ref musedBy0, .ref musedBy1, .ref mmornings, .ref mcameFrom, .ref mcameBy, .ref mlevelAt, .ref mwins, .ref mslots, .ref mlevelOf, .ref mworthOf, .int mstates, .int mlevels, .int mside0, .int mside1, .int mdeathDay, .int maway, .int mhires, .int mhirer, .int mslotFound, .int misSpent, .int mfound, .int mlaid, .ref mlaidRow, .ref mgReason, .ref mgDay, .ref mgTold, .ref mgUntold, .int msights, .int mtime, .ref mboxAll, .ref misBoxed])), (mreasons, aI g 2 Fmreasons), (mkindOf, aI g 16 FmkindOf), (mruleFrom, aI g 8 FmruleFrom), (mruleTo, aI g 8 FmruleTo), (mcode, aI g 1120 Fmcode), (mcodeNumber, aI g 1120 FmcodeNumber), (mpile, aI g 60 o2_F)])) (va_A [(h, .inr (12, [.ref mtape, .ref mtext, .int mtaped, .int msize, .int mfaultKind, .int mfaultPlace, .int mat, .int mend, .int mtoken, .int mnumber, .long mname, .ref mmen, .ref mkinds, .ref mreasons, .ref mtold, .ref munits, .ref mhonour, .ref mdraw, .ref mdies, .ref mcoin, .ref msonOf, .ref mkindOf, .ref mowner, .ref mfirst, .ref mlast, .ref mrent, .ref msort, .ref mduelOne, .ref mduelOther, .ref mduelOn, .ref mruleFrom, .ref mruleTo, .ref mhasHonour, .ref mhasDraw, .ref mmName, .ref mkName, .ref mrName, .ref mdName, .ref mcode, .ref mcodeNumber, .ref meWhat, .ref meSign, .ref mpile, .int mbank, .int mrb, .int mcodes, .int mwithin, .int mpiled, .int munitsInRule, .int maskDay, .int maskUses, .int maskSpent, .ref mall, .ref mwas, .int macts, .int mundone, .ref musedBy0, .ref musedBy1, .ref mmornings, .ref mcameFrom, .ref mcameBy, .ref mlevelAt, .ref mwins, .ref mslots, .ref mlevelOf, .ref mworthOf, .int mstates, .int mlevels, .int mside0, .int mside1, .int mdeathDay, .int maway, .int mhires, .int mhirer, .int mslotFound, .int misSpent, .int mfound, .int mlaid, .ref mlaidRow, .ref mgReason, .ref mgDay, .ref mgTold, .ref mgUntold, .int msights, .int mtime, .ref mboxAll, .ref misBoxed])), (mreasons, aI g 2 Fmreasons), (mkindOf, aI g 16 FmkindOf), (mruleFrom, aI g 8 FmruleFrom), (mruleTo, aI g 8 FmruleTo), (mcode, aI g 1120 Fmcode), (mcodeNumber, aI g 1120 FmcodeNumber), (mpile, aI g 60 Fmpile)] sz)) 0 0 (va_A [(h, .inr (12, [.ref mtape, .ref mtext, .int mtaped, .int msize, .int mfaultKind, .int mfaultPlace, .int mat, .int mend, .int mtoken, .int mnumber, .long mname, .ref mmen, .ref mkinds, .ref mreasons, .ref mtold, .ref munits, .ref mhonour, .ref mdraw, .ref mdies, .ref mcoin, .ref msonOf, .ref mkindOf, .ref mowner, .ref mfirst, .ref mlast, .ref mrent, .ref msort, .ref mduelOne, .ref mduelOther, .ref mduelOn, .ref mruleFrom, .ref mruleTo, .ref mhasHonour, .ref mhasDraw, .ref mmName, .ref mkName, .ref mrName, .ref mdName, .ref mcode, .ref mcodeNumber, .ref meWhat, .ref meSign, .ref mpile, .int mbank, .int mrb, .int mcodes, .int mwithin, .int mpiled, .int munitsInRule, .int maskDay, .int maskUses, .int maskSpent, .ref mall, .ref mwas, .int macts, .int mundone, .ref musedBy0, .ref musedBy1, .ref mmornings, .ref mcameFrom, .ref mcameBy, .ref mlevelAt, .ref mwins, .ref mslots, .ref mlevelOf, .ref mworthOf, .int mstates, .int mlevels, .int mside0, .int mside1, .int mdeathDay, .int maway, .int mhires, .int mhirer, .int mslotFound, .int misSpent, .int mfound, .int mlaid, .ref mlaidRow, .ref mgReason, .ref mgDay, .ref mgTold, .ref mgUntold, .int msights, .int mtime, .ref mboxAll, .ref misBoxed])), (mreasons, aI g 2 Fmreasons), (mkindOf, aI g 16 FmkindOf), (mruleFrom, aI g 8 FmruleFrom), (mruleTo, aI g 8 FmruleTo), (mcode, aI g 1120 Fmcode), (mcodeNumber, aI g 1120 FmcodeNumber), (mpile, aI g 60 Fmpile)] sz) := by
  refine Met.ofW (cc := cX12_worthBy) (maxL := 7) (ret := (some .int)) (by decide) rfl ?_
  intro p e s m args below meth c s₁ B hml hv
  obtain ⟨rfl, hsz, hP, hK, hD0, hX⟩ := hv
  have hx := B.exec
  have hb := B.bytes
  have hr := B.returns
  have hT : ∀ w ∈ gT, w.before _ s = true := fun w h => atoms_spec (ws := .code yX12_worthBy cX12_worthBy 7 (some .int) :: gT) B.pre w (List.mem_cons_of_mem _ h)
  have hown : s.vm.findClass RX12 = some m.cls := findClass_of_methodNamed B.named
  have hlocks := B.notSynchronized
  subst hsz
  have hD := hD0.self (sz := s.heap.size)
  generalize hAe : va_A [(h, .inr (12, [.ref mtape, .ref mtext, .int mtaped, .int msize, .int mfaultKind, .int mfaultPlace, .int mat, .int mend, .int mtoken, .int mnumber, .long mname, .ref mmen, .ref mkinds, .ref mreasons, .ref mtold, .ref munits, .ref mhonour, .ref mdraw, .ref mdies, .ref mcoin, .ref msonOf, .ref mkindOf, .ref mowner, .ref mfirst, .ref mlast, .ref mrent, .ref msort, .ref mduelOne, .ref mduelOther, .ref mduelOn, .ref mruleFrom, .ref mruleTo, .ref mhasHonour, .ref mhasDraw, .ref mmName, .ref mkName, .ref mrName, .ref mdName, .ref mcode, .ref mcodeNumber, .ref meWhat, .ref meSign, .ref mpile, .int mbank, .int mrb, .int mcodes, .int mwithin, .int mpiled, .int munitsInRule, .int maskDay, .int maskUses, .int maskSpent, .ref mall, .ref mwas, .int macts, .int mundone, .ref musedBy0, .ref musedBy1, .ref mmornings, .ref mcameFrom, .ref mcameBy, .ref mlevelAt, .ref mwins, .ref mslots, .ref mlevelOf, .ref mworthOf, .int mstates, .int mlevels, .int mside0, .int mside1, .int mdeathDay, .int maway, .int mhires, .int mhirer, .int mslotFound, .int misSpent, .int mfound, .int mlaid, .ref mlaidRow, .ref mgReason, .ref mgDay, .ref mgTold, .ref mgUntold, .int msights, .int mtime, .ref mboxAll, .ref misBoxed])), (mreasons, aI g 2 Fmreasons), (mkindOf, aI g 16 FmkindOf), (mruleFrom, aI g 8 FmruleFrom), (mruleTo, aI g 8 FmruleTo), (mcode, aI g 1120 Fmcode), (mcodeNumber, aI g 1120 FmcodeNumber), (mpile, aI g 60 Fmpile)] s.heap.size = A at hD ⊢
  have hA : ∀ q : Nat, s.heap.size ≤ q → A q := fun q h => by rw [← hAe]; exact Or.inr h
  have hS : va_S A s.heap s.heap [] := va_S.rf
  have hl := lv_entry ([.ref h, .int p0, .int p1, .int p2, .int p3]) (n := 7) (Nat.le_of_ble_eq_true rfl)
  rw [lg_entry_eq]
  generalize (lg_sl ([.ref h, .int p0, .int p1, .int p2, .int p3]) ++ List.replicate (7 - (lg_sl ([.ref h, .int p0, .int p1, .int p2, .int p3])).length) Slot.unset).toArray = ls at hl ⊢
  have hl : lv_has ls 7 [(0, .ref h), (1, .int p0), (2, .int p1), (3, .int p2), (4, .int p3)] := hl
  refine p_nH (fun H hH => ?_)
  have hP : va_P g.1 vwCl [(h, .inr (12, [.ref mtape, .ref mtext, .int mtaped, .int msize, .int mfaultKind, .int mfaultPlace, .int mat, .int mend, .int mtoken, .int mnumber, .long mname, .ref mmen, .ref mkinds, .ref mreasons, .ref mtold, .ref munits, .ref mhonour, .ref mdraw, .ref mdies, .ref mcoin, .ref msonOf, .ref mkindOf, .ref mowner, .ref mfirst, .ref mlast, .ref mrent, .ref msort, .ref mduelOne, .ref mduelOther, .ref mduelOn, .ref mruleFrom, .ref mruleTo, .ref mhasHonour, .ref mhasDraw, .ref mmName, .ref mkName, .ref mrName, .ref mdName, .ref mcode, .ref mcodeNumber, .ref meWhat, .ref meSign, .ref mpile, .int mbank, .int mrb, .int mcodes, .int mwithin, .int mpiled, .int munitsInRule, .int maskDay, .int maskUses, .int maskSpent, .ref mall, .ref mwas, .int macts, .int mundone, .ref musedBy0, .ref musedBy1, .ref mmornings, .ref mcameFrom, .ref mcameBy, .ref mlevelAt, .ref mwins, .ref mslots, .ref mlevelOf, .ref mworthOf, .int mstates, .int mlevels, .int mside0, .int mside1, .int mdeathDay, .int maway, .int mhires, .int mhirer, .int mslotFound, .int misSpent, .int mfound, .int mlaid, .ref mlaidRow, .ref mgReason, .ref mgDay, .ref mgTold, .ref mgUntold, .int msights, .int mtime, .ref mboxAll, .ref misBoxed])), (mreasons, aI g 2 Fmreasons), (mkindOf, aI g 16 FmkindOf), (mruleFrom, aI g 8 FmruleFrom), (mruleTo, aI g 8 FmruleTo), (mcode, aI g 1120 Fmcode), (mcodeNumber, aI g 1120 FmcodeNumber), (mpile, aI g 60 Fmpile)] H := by rw [hH]; exact hP
  have hS : va_S A s.heap H [] := by rw [hH]; exact hS
  refine lv_iconst (v := 0) hx hb dX12_worthBy_0 (by decide) ?_
  refine lv_istore (lv' := [(5, .int 0), (0, .ref h), (1, .int p0), (2, .int p1), (3, .int p2), (4, .int p3)]) hx hb dX12_worthBy_1 hl (by decide) rfl (fun ls hl => ?_)
  refine lv_iconst (v := 0) hx hb dX12_worthBy_3 (by decide) ?_
  refine lv_istore (lv' := [(6, .int 0), (5, .int 0), (0, .ref h), (1, .int p0), (2, .int p1), (3, .int p2), (4, .int p3)]) hx hb dX12_worthBy_4 hl (by decide) rfl (fun ls hl => ?_)
  refine k_floop 6 (fun n H locs ls => ∃ (L_1 : Int32) (L_2 : Int32), (0 ≤ L_1.toInt ∧ L_1.toInt ≤ 8) ∧ 8 - L_1.toInt ≤ (n : Int) ∧ va_P g.1 vwCl [(h, .inr (12, [.ref mtape, .ref mtext, .int mtaped, .int msize, .int mfaultKind, .int mfaultPlace, .int mat, .int mend, .int mtoken, .int mnumber, .long mname, .ref mmen, .ref mkinds, .ref mreasons, .ref mtold, .ref munits, .ref mhonour, .ref mdraw, .ref mdies, .ref mcoin, .ref msonOf, .ref mkindOf, .ref mowner, .ref mfirst, .ref mlast, .ref mrent, .ref msort, .ref mduelOne, .ref mduelOther, .ref mduelOn, .ref mruleFrom, .ref mruleTo, .ref mhasHonour, .ref mhasDraw, .ref mmName, .ref mkName, .ref mrName, .ref mdName, .ref mcode, .ref mcodeNumber, .ref meWhat, .ref meSign, .ref mpile, .int mbank, .int mrb, .int mcodes, .int mwithin, .int mpiled, .int munitsInRule, .int maskDay, .int maskUses, .int maskSpent, .ref mall, .ref mwas, .int macts, .int mundone, .ref musedBy0, .ref musedBy1, .ref mmornings, .ref mcameFrom, .ref mcameBy, .ref mlevelAt, .ref mwins, .ref mslots, .ref mlevelOf, .ref mworthOf, .int mstates, .int mlevels, .int mside0, .int mside1, .int mdeathDay, .int maway, .int mhires, .int mhirer, .int mslotFound, .int misSpent, .int mfound, .int mlaid, .ref mlaidRow, .ref mgReason, .ref mgDay, .ref mgTold, .ref mgUntold, .int msights, .int mtime, .ref mboxAll, .ref misBoxed])), (mreasons, aI g 2 Fmreasons), (mkindOf, aI g 16 FmkindOf), (mruleFrom, aI g 8 FmruleFrom), (mruleTo, aI g 8 FmruleTo), (mcode, aI g 1120 Fmcode), (mcodeNumber, aI g 1120 FmcodeNumber), (mpile, aI g 60 Fmpile)] H ∧ va_D A [(h, .inr (12, [.ref mtape, .ref mtext, .int mtaped, .int msize, .int mfaultKind, .int mfaultPlace, .int mat, .int mend, .int mtoken, .int mnumber, .long mname, .ref mmen, .ref mkinds, .ref mreasons, .ref mtold, .ref munits, .ref mhonour, .ref mdraw, .ref mdies, .ref mcoin, .ref msonOf, .ref mkindOf, .ref mowner, .ref mfirst, .ref mlast, .ref mrent, .ref msort, .ref mduelOne, .ref mduelOther, .ref mduelOn, .ref mruleFrom, .ref mruleTo, .ref mhasHonour, .ref mhasDraw, .ref mmName, .ref mkName, .ref mrName, .ref mdName, .ref mcode, .ref mcodeNumber, .ref meWhat, .ref meSign, .ref mpile, .int mbank, .int mrb, .int mcodes, .int mwithin, .int mpiled, .int munitsInRule, .int maskDay, .int maskUses, .int maskSpent, .ref mall, .ref mwas, .int macts, .int mundone, .ref musedBy0, .ref musedBy1, .ref mmornings, .ref mcameFrom, .ref mcameBy, .ref mlevelAt, .ref mwins, .ref mslots, .ref mlevelOf, .ref mworthOf, .int mstates, .int mlevels, .int mside0, .int mside1, .int mdeathDay, .int maway, .int mhires, .int mhirer, .int mslotFound, .int misSpent, .int mfound, .int mlaid, .ref mlaidRow, .ref mgReason, .ref mgDay, .ref mgTold, .ref mgUntold, .int msights, .int mtime, .ref mboxAll, .ref misBoxed])), (mreasons, aI g 2 Fmreasons), (mkindOf, aI g 16 FmkindOf), (mruleFrom, aI g 8 FmruleFrom), (mruleTo, aI g 8 FmruleTo), (mcode, aI g 1120 Fmcode), (mcodeNumber, aI g 1120 FmcodeNumber), (mpile, aI g 60 Fmpile)] ∧ va_S A s.heap H locs ∧ lv_has ls 7 [(6, .int L_1), (5, .int L_2), (0, .ref h), (1, .int p0), (2, .int p1), (3, .int p2), (4, .int p3)]) (fun n H locs ls hI ih => ?_) ((8 - 0 : Int)).toNat ⟨0, 0, by decide, by have k0 : (0 : Int32).toInt = 0 := (by decide); omega, hP, hD, hS, hl⟩
  refine hI.elim (fun L_1 hI => hI.elim (fun L_2 hI => ?_))
  have g_3 := hI.1
  have hm_4 := hI.2.1
  have hP := hI.2.2.1
  have hD := hI.2.2.2.1
  have hS := hI.2.2.2.2.1
  have hl := hI.2.2.2.2.2
  clear hI
  refine lv_iload hx hb dX12_worthBy_6 (lv_at hl 0 rfl) ?_
  refine lv_aload_n hx hb dX12_worthBy_8 rfl (lv_at hl 2 rfl) ?_
  refine va_get (D := g.1) (ci := 12) (v := .ref mreasons) (C := RX12) (T := TX12) (N := 87) hx hb hT inF_X12 hown hK.1 hP 0 rfl rfl 13 (by decide) (hT _ bw_830) (fun _ h9 => h9) rfl dX12_worthBy_9 ?_
  refine lv_aload_n hx hb dX12_worthBy_12 rfl (lv_at hl 2 rfl) ?_
  refine va_get (D := g.1) (ci := 12) (v := .int mbank) (C := RX12) (T := TX12) (N := 87) hx hb hT inF_X12 hown hK.1 hP 0 rfl rfl 43 (by decide) (hT _ bw_825) (fun _ h9 => h9) rfl dX12_worthBy_13 ?_
  have h_5 : vp_in mbank 2 := vp_in_iff.mpr (by omega)
  refine va_iald hx hb hK.1 hP 1 1 rfl rfl (i := mbank) h_5 dX12_worthBy_16 ?_
  refine lv_topi (fun x_6 ex_6 => ?_)
  have fx_6 : 0 ≤ x_6.toInt ∧ x_6.toInt ≤ 8 := Rg.rd hh7 h_5 ex_6
  have ux_6 := congrArg Int32.toInt ex_6
  refine lv_icmp_ge (tgt := 77) hx hb dX12_worthBy_17 (by decide) (fun c_7 => ?_) (fun c_7 => ?_)
  · have f_8 := E_le (rfl : x_6.toInt = _) (rfl : L_1.toInt = _) c_7
    refine lv_aload_n hx hb dX12_worthBy_77 rfl (lv_at hl 2 rfl) ?_
    refine lv_iload_n hx hb dX12_worthBy_78 rfl (lv_at hl 4 rfl) ?_
    refine va_put (D := g.1) (ci := 12) (v := .int p1) (ty := .int) (C := RX12) (T := TX12) (N := 87) hx hb hT inF_X12 tyX12 tyX12_ok nmX12 hown hK.1 hP hD hS 0 rfl rfl 49 (by decide) (hT _ bw_853) (fun _ h9 => h9) rfl (by decide +kernel) rfl rfl (Nat.le_of_ble_eq_true rfl) dX12_worthBy_79 (fun H locs hP hD hS => ?_)
    have hP : va_P g.1 vwCl [(h, .inr (12, [.ref mtape, .ref mtext, .int mtaped, .int msize, .int mfaultKind, .int mfaultPlace, .int mat, .int mend, .int mtoken, .int mnumber, .long mname, .ref mmen, .ref mkinds, .ref mreasons, .ref mtold, .ref munits, .ref mhonour, .ref mdraw, .ref mdies, .ref mcoin, .ref msonOf, .ref mkindOf, .ref mowner, .ref mfirst, .ref mlast, .ref mrent, .ref msort, .ref mduelOne, .ref mduelOther, .ref mduelOn, .ref mruleFrom, .ref mruleTo, .ref mhasHonour, .ref mhasDraw, .ref mmName, .ref mkName, .ref mrName, .ref mdName, .ref mcode, .ref mcodeNumber, .ref meWhat, .ref meSign, .ref mpile, .int mbank, .int mrb, .int mcodes, .int mwithin, .int mpiled, .int munitsInRule, .int p1, .int maskUses, .int maskSpent, .ref mall, .ref mwas, .int macts, .int mundone, .ref musedBy0, .ref musedBy1, .ref mmornings, .ref mcameFrom, .ref mcameBy, .ref mlevelAt, .ref mwins, .ref mslots, .ref mlevelOf, .ref mworthOf, .int mstates, .int mlevels, .int mside0, .int mside1, .int mdeathDay, .int maway, .int mhires, .int mhirer, .int mslotFound, .int misSpent, .int mfound, .int mlaid, .ref mlaidRow, .ref mgReason, .ref mgDay, .ref mgTold, .ref mgUntold, .int msights, .int mtime, .ref mboxAll, .ref misBoxed])), (mreasons, aI g 2 Fmreasons), (mkindOf, aI g 16 FmkindOf), (mruleFrom, aI g 8 FmruleFrom), (mruleTo, aI g 8 FmruleTo), (mcode, aI g 1120 Fmcode), (mcodeNumber, aI g 1120 FmcodeNumber), (mpile, aI g 60 Fmpile)] H := hP
    have hD : va_D A [(h, .inr (12, [.ref mtape, .ref mtext, .int mtaped, .int msize, .int mfaultKind, .int mfaultPlace, .int mat, .int mend, .int mtoken, .int mnumber, .long mname, .ref mmen, .ref mkinds, .ref mreasons, .ref mtold, .ref munits, .ref mhonour, .ref mdraw, .ref mdies, .ref mcoin, .ref msonOf, .ref mkindOf, .ref mowner, .ref mfirst, .ref mlast, .ref mrent, .ref msort, .ref mduelOne, .ref mduelOther, .ref mduelOn, .ref mruleFrom, .ref mruleTo, .ref mhasHonour, .ref mhasDraw, .ref mmName, .ref mkName, .ref mrName, .ref mdName, .ref mcode, .ref mcodeNumber, .ref meWhat, .ref meSign, .ref mpile, .int mbank, .int mrb, .int mcodes, .int mwithin, .int mpiled, .int munitsInRule, .int p1, .int maskUses, .int maskSpent, .ref mall, .ref mwas, .int macts, .int mundone, .ref musedBy0, .ref musedBy1, .ref mmornings, .ref mcameFrom, .ref mcameBy, .ref mlevelAt, .ref mwins, .ref mslots, .ref mlevelOf, .ref mworthOf, .int mstates, .int mlevels, .int mside0, .int mside1, .int mdeathDay, .int maway, .int mhires, .int mhirer, .int mslotFound, .int misSpent, .int mfound, .int mlaid, .ref mlaidRow, .ref mgReason, .ref mgDay, .ref mgTold, .ref mgUntold, .int msights, .int mtime, .ref mboxAll, .ref misBoxed])), (mreasons, aI g 2 Fmreasons), (mkindOf, aI g 16 FmkindOf), (mruleFrom, aI g 8 FmruleFrom), (mruleTo, aI g 8 FmruleTo), (mcode, aI g 1120 Fmcode), (mcodeNumber, aI g 1120 FmcodeNumber), (mpile, aI g 60 Fmpile)] := hD
    refine lv_aload_n hx hb dX12_worthBy_82 rfl (lv_at hl 2 rfl) ?_
    refine lv_iload hx hb dX12_worthBy_83 (lv_at hl 1 rfl) ?_
    refine va_put (D := g.1) (ci := 12) (v := .int L_2) (ty := .int) (C := RX12) (T := TX12) (N := 87) hx hb hT inF_X12 tyX12 tyX12_ok nmX12 hown hK.1 hP hD hS 0 rfl rfl 50 (by decide) (hT _ bw_852) (fun _ h9 => h9) rfl (by decide +kernel) rfl rfl (Nat.le_of_ble_eq_true rfl) dX12_worthBy_85 (fun H locs hP hD hS => ?_)
    have hP : va_P g.1 vwCl [(h, .inr (12, [.ref mtape, .ref mtext, .int mtaped, .int msize, .int mfaultKind, .int mfaultPlace, .int mat, .int mend, .int mtoken, .int mnumber, .long mname, .ref mmen, .ref mkinds, .ref mreasons, .ref mtold, .ref munits, .ref mhonour, .ref mdraw, .ref mdies, .ref mcoin, .ref msonOf, .ref mkindOf, .ref mowner, .ref mfirst, .ref mlast, .ref mrent, .ref msort, .ref mduelOne, .ref mduelOther, .ref mduelOn, .ref mruleFrom, .ref mruleTo, .ref mhasHonour, .ref mhasDraw, .ref mmName, .ref mkName, .ref mrName, .ref mdName, .ref mcode, .ref mcodeNumber, .ref meWhat, .ref meSign, .ref mpile, .int mbank, .int mrb, .int mcodes, .int mwithin, .int mpiled, .int munitsInRule, .int p1, .int L_2, .int maskSpent, .ref mall, .ref mwas, .int macts, .int mundone, .ref musedBy0, .ref musedBy1, .ref mmornings, .ref mcameFrom, .ref mcameBy, .ref mlevelAt, .ref mwins, .ref mslots, .ref mlevelOf, .ref mworthOf, .int mstates, .int mlevels, .int mside0, .int mside1, .int mdeathDay, .int maway, .int mhires, .int mhirer, .int mslotFound, .int misSpent, .int mfound, .int mlaid, .ref mlaidRow, .ref mgReason, .ref mgDay, .ref mgTold, .ref mgUntold, .int msights, .int mtime, .ref mboxAll, .ref misBoxed])), (mreasons, aI g 2 Fmreasons), (mkindOf, aI g 16 FmkindOf), (mruleFrom, aI g 8 FmruleFrom), (mruleTo, aI g 8 FmruleTo), (mcode, aI g 1120 Fmcode), (mcodeNumber, aI g 1120 FmcodeNumber), (mpile, aI g 60 Fmpile)] H := hP
    have hD : va_D A [(h, .inr (12, [.ref mtape, .ref mtext, .int mtaped, .int msize, .int mfaultKind, .int mfaultPlace, .int mat, .int mend, .int mtoken, .int mnumber, .long mname, .ref mmen, .ref mkinds, .ref mreasons, .ref mtold, .ref munits, .ref mhonour, .ref mdraw, .ref mdies, .ref mcoin, .ref msonOf, .ref mkindOf, .ref mowner, .ref mfirst, .ref mlast, .ref mrent, .ref msort, .ref mduelOne, .ref mduelOther, .ref mduelOn, .ref mruleFrom, .ref mruleTo, .ref mhasHonour, .ref mhasDraw, .ref mmName, .ref mkName, .ref mrName, .ref mdName, .ref mcode, .ref mcodeNumber, .ref meWhat, .ref meSign, .ref mpile, .int mbank, .int mrb, .int mcodes, .int mwithin, .int mpiled, .int munitsInRule, .int p1, .int L_2, .int maskSpent, .ref mall, .ref mwas, .int macts, .int mundone, .ref musedBy0, .ref musedBy1, .ref mmornings, .ref mcameFrom, .ref mcameBy, .ref mlevelAt, .ref mwins, .ref mslots, .ref mlevelOf, .ref mworthOf, .int mstates, .int mlevels, .int mside0, .int mside1, .int mdeathDay, .int maway, .int mhires, .int mhirer, .int mslotFound, .int misSpent, .int mfound, .int mlaid, .ref mlaidRow, .ref mgReason, .ref mgDay, .ref mgTold, .ref mgUntold, .int msights, .int mtime, .ref mboxAll, .ref misBoxed])), (mreasons, aI g 2 Fmreasons), (mkindOf, aI g 16 FmkindOf), (mruleFrom, aI g 8 FmruleFrom), (mruleTo, aI g 8 FmruleTo), (mcode, aI g 1120 Fmcode), (mcodeNumber, aI g 1120 FmcodeNumber), (mpile, aI g 60 Fmpile)] := hD
    refine lv_aload_n hx hb dX12_worthBy_88 rfl (lv_at hl 2 rfl) ?_
    refine lv_iload_n hx hb dX12_worthBy_89 rfl (lv_at hl 5 rfl) ?_
    refine k_iR (k_S (n := 1) ⟨hx, hb, hml, hown, hT⟩ hK hP hD [] rfl (by decide +kernel) (s_X12_bitsOf l g H.size p2 (by first | with_reducible assumption | omega)) (gS bw_870 bw_871 bw_872 bw_849) rfl rfl (by decide +kernel) ⟨by decide, by decide⟩ (fun _ _ _ _ _ => trivial) (fun _ _ _ => trivial) rfl rfl hl.1 (Nat.le_of_ble_eq_true rfl) dX12_worthBy_90 ⟨by decide, by decide⟩) hP hS hA (fun r_9 _ H locs hw0 hP hS => ?_)
    refine lv_iload hx hb dX12_worthBy_93 (lv_at hl 6 rfl) ?_
    refine k_iR (k_S (n := 1) ⟨hx, hb, hml, hown, hT⟩ hK hP hD [] rfl (by decide +kernel) (s_X12_bitsOf l g H.size p3 (by first | with_reducible assumption | omega)) (gS bw_870 bw_871 bw_872 bw_849) rfl rfl (by decide +kernel) ⟨by decide, by decide⟩ (fun _ _ _ _ _ => trivial) (fun _ _ _ => trivial) rfl rfl hl.1 (Nat.le_of_ble_eq_true rfl) dX12_worthBy_95 ⟨by decide, by decide⟩) hP hS hA (fun r_10 _ H locs hw0 hP hS => ?_)
    refine lv_iadd hx hb dX12_worthBy_98 ?_
    refine lv_topi (fun x_11 ex_11 => ?_)
    refine va_put (D := g.1) (ci := 12) (v := .int x_11) (ty := .int) (C := RX12) (T := TX12) (N := 87) hx hb hT inF_X12 tyX12 tyX12_ok nmX12 hown hK.1 hP hD hS 0 rfl rfl 51 (by decide) (hT _ bw_851) (fun _ h9 => h9) rfl (by decide +kernel) rfl rfl (Nat.le_of_ble_eq_true rfl) dX12_worthBy_99 (fun H locs hP hD hS => ?_)
    have hP : va_P g.1 vwCl [(h, .inr (12, [.ref mtape, .ref mtext, .int mtaped, .int msize, .int mfaultKind, .int mfaultPlace, .int mat, .int mend, .int mtoken, .int mnumber, .long mname, .ref mmen, .ref mkinds, .ref mreasons, .ref mtold, .ref munits, .ref mhonour, .ref mdraw, .ref mdies, .ref mcoin, .ref msonOf, .ref mkindOf, .ref mowner, .ref mfirst, .ref mlast, .ref mrent, .ref msort, .ref mduelOne, .ref mduelOther, .ref mduelOn, .ref mruleFrom, .ref mruleTo, .ref mhasHonour, .ref mhasDraw, .ref mmName, .ref mkName, .ref mrName, .ref mdName, .ref mcode, .ref mcodeNumber, .ref meWhat, .ref meSign, .ref mpile, .int mbank, .int mrb, .int mcodes, .int mwithin, .int mpiled, .int munitsInRule, .int p1, .int L_2, .int x_11, .ref mall, .ref mwas, .int macts, .int mundone, .ref musedBy0, .ref musedBy1, .ref mmornings, .ref mcameFrom, .ref mcameBy, .ref mlevelAt, .ref mwins, .ref mslots, .ref mlevelOf, .ref mworthOf, .int mstates, .int mlevels, .int mside0, .int mside1, .int mdeathDay, .int maway, .int mhires, .int mhirer, .int mslotFound, .int misSpent, .int mfound, .int mlaid, .ref mlaidRow, .ref mgReason, .ref mgDay, .ref mgTold, .ref mgUntold, .int msights, .int mtime, .ref mboxAll, .ref misBoxed])), (mreasons, aI g 2 Fmreasons), (mkindOf, aI g 16 FmkindOf), (mruleFrom, aI g 8 FmruleFrom), (mruleTo, aI g 8 FmruleTo), (mcode, aI g 1120 Fmcode), (mcodeNumber, aI g 1120 FmcodeNumber), (mpile, aI g 60 Fmpile)] H := hP
    have hD : va_D A [(h, .inr (12, [.ref mtape, .ref mtext, .int mtaped, .int msize, .int mfaultKind, .int mfaultPlace, .int mat, .int mend, .int mtoken, .int mnumber, .long mname, .ref mmen, .ref mkinds, .ref mreasons, .ref mtold, .ref munits, .ref mhonour, .ref mdraw, .ref mdies, .ref mcoin, .ref msonOf, .ref mkindOf, .ref mowner, .ref mfirst, .ref mlast, .ref mrent, .ref msort, .ref mduelOne, .ref mduelOther, .ref mduelOn, .ref mruleFrom, .ref mruleTo, .ref mhasHonour, .ref mhasDraw, .ref mmName, .ref mkName, .ref mrName, .ref mdName, .ref mcode, .ref mcodeNumber, .ref meWhat, .ref meSign, .ref mpile, .int mbank, .int mrb, .int mcodes, .int mwithin, .int mpiled, .int munitsInRule, .int p1, .int L_2, .int x_11, .ref mall, .ref mwas, .int macts, .int mundone, .ref musedBy0, .ref musedBy1, .ref mmornings, .ref mcameFrom, .ref mcameBy, .ref mlevelAt, .ref mwins, .ref mslots, .ref mlevelOf, .ref mworthOf, .int mstates, .int mlevels, .int mside0, .int mside1, .int mdeathDay, .int maway, .int mhires, .int mhirer, .int mslotFound, .int misSpent, .int mfound, .int mlaid, .ref mlaidRow, .ref mgReason, .ref mgDay, .ref mgTold, .ref mgUntold, .int msights, .int mtime, .ref mboxAll, .ref misBoxed])), (mreasons, aI g 2 Fmreasons), (mkindOf, aI g 16 FmkindOf), (mruleFrom, aI g 8 FmruleFrom), (mruleTo, aI g 8 FmruleTo), (mcode, aI g 1120 Fmcode), (mcodeNumber, aI g 1120 FmcodeNumber), (mpile, aI g 60 Fmpile)] := hD
    refine lv_aload_n hx hb dX12_worthBy_102 rfl (lv_at hl 2 rfl) ?_
    refine lv_aload_n hx hb dX12_worthBy_103 rfl (lv_at hl 2 rfl) ?_
    refine va_get (D := g.1) (ci := 12) (v := .ref mkindOf) (C := RX12) (T := TX12) (N := 87) hx hb hT inF_X12 hown hK.1 hP 0 rfl rfl 21 (by decide) (hT _ bw_873) (fun _ h9 => h9) rfl dX12_worthBy_104 ?_
    refine lv_bipush (v := 8) hx hb dX12_worthBy_107 (by decide) ?_
    refine lv_aload_n hx hb dX12_worthBy_109 rfl (lv_at hl 2 rfl) ?_
    refine va_get (D := g.1) (ci := 12) (v := .int mbank) (C := RX12) (T := TX12) (N := 87) hx hb hT inF_X12 hown hK.1 hP 0 rfl rfl 43 (by decide) (hT _ bw_825) (fun _ h9 => h9) rfl dX12_worthBy_110 ?_
    refine lv_imul hx hb dX12_worthBy_113 ?_
    refine lv_topi (fun x_12 ex_12 => ?_)
    have fx_12 : x_12.toInt = 8 * mbank.toInt := by rw [ex_12]; exact I_mul (by decide : (8 : Int32).toInt = 8) rfl (by omega) (by omega)
    refine lv_iload_n hx hb dX12_worthBy_114 rfl (lv_at hl 3 rfl) ?_
    refine lv_iadd hx hb dX12_worthBy_115 ?_
    refine lv_topi (fun x_13 ex_13 => ?_)
    have fx_13 : x_13.toInt = x_12.toInt + p0.toInt := by rw [ex_13]; exact I_add rfl rfl (by omega) (by omega)
    have h_14 : vp_in x_13 16 := vp_in_iff.mpr (by omega)
    refine va_iald hx hb hK.1 hP 2 1 rfl rfl (i := x_13) h_14 dX12_worthBy_116 ?_
    refine lv_topi (fun x_15 ex_15 => ?_)
    have fx_15 : 0 ≤ x_15.toInt ∧ x_15.toInt ≤ 3 := Rg.rd hh12 h_14 ex_15
    have ux_15 := congrArg Int32.toInt ex_15
    refine k_i (wr := [(mreasons, aI g 2 Fmreasons), (mkindOf, aI g 16 FmkindOf)]) (k_V (n := 1) ⟨hx, hb, hml, hown, hT⟩ hK hP hD [0, 3, 4, 5, 6, 7] rfl (by decide +kernel) (s_X12_comesTo l g H.size h mtape mtext mtaped msize mfaultKind mfaultPlace mat mend mtoken mnumber mname mmen mkinds Fmkinds mreasons mtold munits mhonour mdraw mdies mcoin msonOf mkindOf mowner mfirst mlast mrent msort mduelOne mduelOther mduelOn mruleFrom FmruleFrom mruleTo FmruleTo mhasHonour mhasDraw mmName mkName mrName mdName mcode Fmcode mcodeNumber FmcodeNumber meWhat meSign mpile Fmpile mbank mrb mcodes mwithin mpiled munitsInRule p1 L_2 x_11 mall mwas macts mundone musedBy0 musedBy1 mmornings mcameFrom mcameBy mlevelAt mwins mslots mlevelOf mworthOf mstates mlevels mside0 mside1 mdeathDay maway mhires mhirer mslotFound misSpent mfound mlaid mlaidRow mgReason mgDay mgTold mgUntold msights mtime mboxAll misBoxed x_15 (by first | with_reducible assumption | omega) (by first | with_reducible assumption | omega) (by first | with_reducible assumption | omega) (by first | with_reducible assumption | omega) (by first | with_reducible assumption | omega) hh6 hh16 hh17 (by first | with_reducible assumption | omega) (by first | with_reducible assumption | omega) (by first | with_reducible assumption | omega) (by first | with_reducible assumption | omega) (by first | with_reducible assumption | omega) (by first | with_reducible assumption | omega) (by first | with_reducible assumption | omega) (by first | with_reducible assumption | omega) (by first | with_reducible assumption | omega) (by first | with_reducible assumption | omega) (by first | with_reducible assumption | omega) (by first | with_reducible assumption | omega) (by first | with_reducible assumption | omega) (by first | with_reducible assumption | omega) (by first | with_reducible assumption | omega) (by first | with_reducible assumption | omega) (by first | with_reducible assumption | omega) hro (KO.at hko hrr (by omega) (by omega) (i := x_13) (by omega) ex_15)) (gV bw_874 bw_875 bw_876 bw_840 bw_869) rfl rfl (by decide +kernel) ⟨by decide, by decide⟩ (ci := 12) (q0 := 0) rfl rfl (fun _ _ _ _ _ => trivial) (fun _ _ _ => trivial) rfl rfl hl.1 (Nat.le_of_ble_eq_true rfl) dX12_worthBy_117 ⟨by decide, by decide⟩) hP hD hS hA [0, 3, 4, 5, 6, 7] [1, 2] rfl rfl (by decide +kernel) (by decide +kernel) (fun r_16 => fun f_17 H locs hw0 hP hD hS => ?_)
    have hP : va_P g.1 vwCl [(mreasons, aI g 2 Fmreasons), (mkindOf, aI g 16 FmkindOf), (h, .inr (12, [.ref mtape, .ref mtext, .int mtaped, .int msize, .int mfaultKind, .int mfaultPlace, .int mat, .int mend, .int mtoken, .int mnumber, .long mname, .ref mmen, .ref mkinds, .ref mreasons, .ref mtold, .ref munits, .ref mhonour, .ref mdraw, .ref mdies, .ref mcoin, .ref msonOf, .ref mkindOf, .ref mowner, .ref mfirst, .ref mlast, .ref mrent, .ref msort, .ref mduelOne, .ref mduelOther, .ref mduelOn, .ref mruleFrom, .ref mruleTo, .ref mhasHonour, .ref mhasDraw, .ref mmName, .ref mkName, .ref mrName, .ref mdName, .ref mcode, .ref mcodeNumber, .ref meWhat, .ref meSign, .ref mpile, .int mbank, .int mrb, .int mcodes, .int mwithin, .int mpiled, .int munitsInRule, .int p1, .int L_2, .int x_11, .ref mall, .ref mwas, .int macts, .int mundone, .ref musedBy0, .ref musedBy1, .ref mmornings, .ref mcameFrom, .ref mcameBy, .ref mlevelAt, .ref mwins, .ref mslots, .ref mlevelOf, .ref mworthOf, .int mstates, .int mlevels, .int mside0, .int mside1, .int mdeathDay, .int maway, .int mhires, .int mhirer, .int mslotFound, .int misSpent, .int mfound, .int mlaid, .ref mlaidRow, .ref mgReason, .ref mgDay, .ref mgTold, .ref mgUntold, .int msights, .int mtime, .ref mboxAll, .ref misBoxed])), (mruleFrom, aI g 8 FmruleFrom), (mruleTo, aI g 8 FmruleTo), (mcode, aI g 1120 Fmcode), (mcodeNumber, aI g 1120 FmcodeNumber), (mpile, aI g 60 f_17)] H := hP
    have hD : va_D A [(mreasons, aI g 2 Fmreasons), (mkindOf, aI g 16 FmkindOf), (h, .inr (12, [.ref mtape, .ref mtext, .int mtaped, .int msize, .int mfaultKind, .int mfaultPlace, .int mat, .int mend, .int mtoken, .int mnumber, .long mname, .ref mmen, .ref mkinds, .ref mreasons, .ref mtold, .ref munits, .ref mhonour, .ref mdraw, .ref mdies, .ref mcoin, .ref msonOf, .ref mkindOf, .ref mowner, .ref mfirst, .ref mlast, .ref mrent, .ref msort, .ref mduelOne, .ref mduelOther, .ref mduelOn, .ref mruleFrom, .ref mruleTo, .ref mhasHonour, .ref mhasDraw, .ref mmName, .ref mkName, .ref mrName, .ref mdName, .ref mcode, .ref mcodeNumber, .ref meWhat, .ref meSign, .ref mpile, .int mbank, .int mrb, .int mcodes, .int mwithin, .int mpiled, .int munitsInRule, .int p1, .int L_2, .int x_11, .ref mall, .ref mwas, .int macts, .int mundone, .ref musedBy0, .ref musedBy1, .ref mmornings, .ref mcameFrom, .ref mcameBy, .ref mlevelAt, .ref mwins, .ref mslots, .ref mlevelOf, .ref mworthOf, .int mstates, .int mlevels, .int mside0, .int mside1, .int mdeathDay, .int maway, .int mhires, .int mhirer, .int mslotFound, .int misSpent, .int mfound, .int mlaid, .ref mlaidRow, .ref mgReason, .ref mgDay, .ref mgTold, .ref mgUntold, .int msights, .int mtime, .ref mboxAll, .ref misBoxed])), (mruleFrom, aI g 8 FmruleFrom), (mruleTo, aI g 8 FmruleTo), (mcode, aI g 1120 Fmcode), (mcodeNumber, aI g 1120 FmcodeNumber), (mpile, aI g 60 f_17)] := hD
    refine lv_istore (lv' := [(6, .int r_16), (5, .int L_2), (0, .ref h), (1, .int p0), (2, .int p1), (3, .int p2), (4, .int p3)]) hx hb dX12_worthBy_120 hl (by decide) rfl (fun ls hl => ?_)
    refine lv_iload hx hb dX12_worthBy_122 (lv_at hl 0 rfl) ?_
    refine lv_iconst (v := 1) hx hb dX12_worthBy_124 (by decide) ?_
    refine lv_icmp_ge (tgt := 132) hx hb dX12_worthBy_125 (by decide) (fun c_18 => ?_) (fun c_18 => ?_)
    · have f_19 := E_le (by decide : (1 : Int32).toInt = 1) (rfl : r_16.toInt = _) c_18
      refine lv_iload hx hb dX12_worthBy_132 (lv_at hl 0 rfl) ?_
      refine lv_sipush (v := 365) hx hb dX12_worthBy_134 (by decide) ?_
      refine lv_icmp_le (tgt := 146) hx hb dX12_worthBy_137 (by decide) (fun c_20 => ?_) (fun c_20 => ?_)
      · have f_21 := E_le (rfl : r_16.toInt = _) (by decide : (365 : Int32).toInt = 365) c_20
        refine lv_iload hx hb dX12_worthBy_146 (lv_at hl 0 rfl) ?_
        have hP9 : va_P g.1 vwCl [(h, .inr (12, [.ref mtape, .ref mtext, .int mtaped, .int msize, .int mfaultKind, .int mfaultPlace, .int mat, .int mend, .int mtoken, .int mnumber, .long mname, .ref mmen, .ref mkinds, .ref mreasons, .ref mtold, .ref munits, .ref mhonour, .ref mdraw, .ref mdies, .ref mcoin, .ref msonOf, .ref mkindOf, .ref mowner, .ref mfirst, .ref mlast, .ref mrent, .ref msort, .ref mduelOne, .ref mduelOther, .ref mduelOn, .ref mruleFrom, .ref mruleTo, .ref mhasHonour, .ref mhasDraw, .ref mmName, .ref mkName, .ref mrName, .ref mdName, .ref mcode, .ref mcodeNumber, .ref meWhat, .ref meSign, .ref mpile, .int mbank, .int mrb, .int mcodes, .int mwithin, .int mpiled, .int munitsInRule, .int p1, .int L_2, .int x_11, .ref mall, .ref mwas, .int macts, .int mundone, .ref musedBy0, .ref musedBy1, .ref mmornings, .ref mcameFrom, .ref mcameBy, .ref mlevelAt, .ref mwins, .ref mslots, .ref mlevelOf, .ref mworthOf, .int mstates, .int mlevels, .int mside0, .int mside1, .int mdeathDay, .int maway, .int mhires, .int mhirer, .int mslotFound, .int misSpent, .int mfound, .int mlaid, .ref mlaidRow, .ref mgReason, .ref mgDay, .ref mgTold, .ref mgUntold, .int msights, .int mtime, .ref mboxAll, .ref misBoxed])), (mreasons, aI g 2 Fmreasons), (mkindOf, aI g 16 FmkindOf), (mruleFrom, aI g 8 FmruleFrom), (mruleTo, aI g 8 FmruleTo), (mcode, aI g 1120 Fmcode), (mcodeNumber, aI g 1120 FmcodeNumber), (mpile, aI g 60 f_17)] H := hP.sub [2, 0, 1, 3, 4, 5, 6, 7] rfl
        have hD9 : va_D A [(h, .inr (12, [.ref mtape, .ref mtext, .int mtaped, .int msize, .int mfaultKind, .int mfaultPlace, .int mat, .int mend, .int mtoken, .int mnumber, .long mname, .ref mmen, .ref mkinds, .ref mreasons, .ref mtold, .ref munits, .ref mhonour, .ref mdraw, .ref mdies, .ref mcoin, .ref msonOf, .ref mkindOf, .ref mowner, .ref mfirst, .ref mlast, .ref mrent, .ref msort, .ref mduelOne, .ref mduelOther, .ref mduelOn, .ref mruleFrom, .ref mruleTo, .ref mhasHonour, .ref mhasDraw, .ref mmName, .ref mkName, .ref mrName, .ref mdName, .ref mcode, .ref mcodeNumber, .ref meWhat, .ref meSign, .ref mpile, .int mbank, .int mrb, .int mcodes, .int mwithin, .int mpiled, .int munitsInRule, .int p1, .int L_2, .int x_11, .ref mall, .ref mwas, .int macts, .int mundone, .ref musedBy0, .ref musedBy1, .ref mmornings, .ref mcameFrom, .ref mcameBy, .ref mlevelAt, .ref mwins, .ref mslots, .ref mlevelOf, .ref mworthOf, .int mstates, .int mlevels, .int mside0, .int mside1, .int mdeathDay, .int maway, .int mhires, .int mhirer, .int mslotFound, .int misSpent, .int mfound, .int mlaid, .ref mlaidRow, .ref mgReason, .ref mgDay, .ref mgTold, .ref mgUntold, .int msights, .int mtime, .ref mboxAll, .ref misBoxed])), (mreasons, aI g 2 Fmreasons), (mkindOf, aI g 16 FmkindOf), (mruleFrom, aI g 8 FmruleFrom), (mruleTo, aI g 8 FmruleTo), (mcode, aI g 1120 Fmcode), (mcodeNumber, aI g 1120 FmcodeNumber), (mpile, aI g 60 f_17)] := hD.sub [2, 0, 1, 3, 4, 5, 6, 7] (by decide +kernel) rfl
        exact W.iret (v := r_16) hx hb hr (fun t ht hW => ⟨⟨r_16, (L_2, x_11, f_17), rfl, (by first | with_reducible assumption | omega), by rw [ht]; exact hP9, by rw [hAe]; exact hD9⟩, hS.F ht⟩) hS.2.2 dX12_worthBy_148
      · have f_22 := E_nle (rfl : r_16.toInt = _) (by decide : (365 : Int32).toInt = 365) c_20
        refine lv_sipush (v := 365) hx hb dX12_worthBy_140 (by decide) ?_
        refine lv_goto (tgt := 148) hx hb dX12_worthBy_143 (by decide) ?_
        have hP9 : va_P g.1 vwCl [(h, .inr (12, [.ref mtape, .ref mtext, .int mtaped, .int msize, .int mfaultKind, .int mfaultPlace, .int mat, .int mend, .int mtoken, .int mnumber, .long mname, .ref mmen, .ref mkinds, .ref mreasons, .ref mtold, .ref munits, .ref mhonour, .ref mdraw, .ref mdies, .ref mcoin, .ref msonOf, .ref mkindOf, .ref mowner, .ref mfirst, .ref mlast, .ref mrent, .ref msort, .ref mduelOne, .ref mduelOther, .ref mduelOn, .ref mruleFrom, .ref mruleTo, .ref mhasHonour, .ref mhasDraw, .ref mmName, .ref mkName, .ref mrName, .ref mdName, .ref mcode, .ref mcodeNumber, .ref meWhat, .ref meSign, .ref mpile, .int mbank, .int mrb, .int mcodes, .int mwithin, .int mpiled, .int munitsInRule, .int p1, .int L_2, .int x_11, .ref mall, .ref mwas, .int macts, .int mundone, .ref musedBy0, .ref musedBy1, .ref mmornings, .ref mcameFrom, .ref mcameBy, .ref mlevelAt, .ref mwins, .ref mslots, .ref mlevelOf, .ref mworthOf, .int mstates, .int mlevels, .int mside0, .int mside1, .int mdeathDay, .int maway, .int mhires, .int mhirer, .int mslotFound, .int misSpent, .int mfound, .int mlaid, .ref mlaidRow, .ref mgReason, .ref mgDay, .ref mgTold, .ref mgUntold, .int msights, .int mtime, .ref mboxAll, .ref misBoxed])), (mreasons, aI g 2 Fmreasons), (mkindOf, aI g 16 FmkindOf), (mruleFrom, aI g 8 FmruleFrom), (mruleTo, aI g 8 FmruleTo), (mcode, aI g 1120 Fmcode), (mcodeNumber, aI g 1120 FmcodeNumber), (mpile, aI g 60 f_17)] H := hP.sub [2, 0, 1, 3, 4, 5, 6, 7] rfl
        have hD9 : va_D A [(h, .inr (12, [.ref mtape, .ref mtext, .int mtaped, .int msize, .int mfaultKind, .int mfaultPlace, .int mat, .int mend, .int mtoken, .int mnumber, .long mname, .ref mmen, .ref mkinds, .ref mreasons, .ref mtold, .ref munits, .ref mhonour, .ref mdraw, .ref mdies, .ref mcoin, .ref msonOf, .ref mkindOf, .ref mowner, .ref mfirst, .ref mlast, .ref mrent, .ref msort, .ref mduelOne, .ref mduelOther, .ref mduelOn, .ref mruleFrom, .ref mruleTo, .ref mhasHonour, .ref mhasDraw, .ref mmName, .ref mkName, .ref mrName, .ref mdName, .ref mcode, .ref mcodeNumber, .ref meWhat, .ref meSign, .ref mpile, .int mbank, .int mrb, .int mcodes, .int mwithin, .int mpiled, .int munitsInRule, .int p1, .int L_2, .int x_11, .ref mall, .ref mwas, .int macts, .int mundone, .ref musedBy0, .ref musedBy1, .ref mmornings, .ref mcameFrom, .ref mcameBy, .ref mlevelAt, .ref mwins, .ref mslots, .ref mlevelOf, .ref mworthOf, .int mstates, .int mlevels, .int mside0, .int mside1, .int mdeathDay, .int maway, .int mhires, .int mhirer, .int mslotFound, .int misSpent, .int mfound, .int mlaid, .ref mlaidRow, .ref mgReason, .ref mgDay, .ref mgTold, .ref mgUntold, .int msights, .int mtime, .ref mboxAll, .ref misBoxed])), (mreasons, aI g 2 Fmreasons), (mkindOf, aI g 16 FmkindOf), (mruleFrom, aI g 8 FmruleFrom), (mruleTo, aI g 8 FmruleTo), (mcode, aI g 1120 Fmcode), (mcodeNumber, aI g 1120 FmcodeNumber), (mpile, aI g 60 f_17)] := hD.sub [2, 0, 1, 3, 4, 5, 6, 7] (by decide +kernel) rfl
        exact W.iret (v := 365) hx hb hr (fun t ht hW => ⟨⟨365, (L_2, x_11, f_17), rfl, ⟨by decide, by decide⟩, by rw [ht]; exact hP9, by rw [hAe]; exact hD9⟩, hS.F ht⟩) hS.2.2 dX12_worthBy_148
    · have f_23 := E_nle (by decide : (1 : Int32).toInt = 1) (rfl : r_16.toInt = _) c_18
      refine lv_iconst (v := 1) hx hb dX12_worthBy_128 (by decide) ?_
      refine lv_goto (tgt := 148) hx hb dX12_worthBy_129 (by decide) ?_
      have hP9 : va_P g.1 vwCl [(h, .inr (12, [.ref mtape, .ref mtext, .int mtaped, .int msize, .int mfaultKind, .int mfaultPlace, .int mat, .int mend, .int mtoken, .int mnumber, .long mname, .ref mmen, .ref mkinds, .ref mreasons, .ref mtold, .ref munits, .ref mhonour, .ref mdraw, .ref mdies, .ref mcoin, .ref msonOf, .ref mkindOf, .ref mowner, .ref mfirst, .ref mlast, .ref mrent, .ref msort, .ref mduelOne, .ref mduelOther, .ref mduelOn, .ref mruleFrom, .ref mruleTo, .ref mhasHonour, .ref mhasDraw, .ref mmName, .ref mkName, .ref mrName, .ref mdName, .ref mcode, .ref mcodeNumber, .ref meWhat, .ref meSign, .ref mpile, .int mbank, .int mrb, .int mcodes, .int mwithin, .int mpiled, .int munitsInRule, .int p1, .int L_2, .int x_11, .ref mall, .ref mwas, .int macts, .int mundone, .ref musedBy0, .ref musedBy1, .ref mmornings, .ref mcameFrom, .ref mcameBy, .ref mlevelAt, .ref mwins, .ref mslots, .ref mlevelOf, .ref mworthOf, .int mstates, .int mlevels, .int mside0, .int mside1, .int mdeathDay, .int maway, .int mhires, .int mhirer, .int mslotFound, .int misSpent, .int mfound, .int mlaid, .ref mlaidRow, .ref mgReason, .ref mgDay, .ref mgTold, .ref mgUntold, .int msights, .int mtime, .ref mboxAll, .ref misBoxed])), (mreasons, aI g 2 Fmreasons), (mkindOf, aI g 16 FmkindOf), (mruleFrom, aI g 8 FmruleFrom), (mruleTo, aI g 8 FmruleTo), (mcode, aI g 1120 Fmcode), (mcodeNumber, aI g 1120 FmcodeNumber), (mpile, aI g 60 f_17)] H := hP.sub [2, 0, 1, 3, 4, 5, 6, 7] rfl
      have hD9 : va_D A [(h, .inr (12, [.ref mtape, .ref mtext, .int mtaped, .int msize, .int mfaultKind, .int mfaultPlace, .int mat, .int mend, .int mtoken, .int mnumber, .long mname, .ref mmen, .ref mkinds, .ref mreasons, .ref mtold, .ref munits, .ref mhonour, .ref mdraw, .ref mdies, .ref mcoin, .ref msonOf, .ref mkindOf, .ref mowner, .ref mfirst, .ref mlast, .ref mrent, .ref msort, .ref mduelOne, .ref mduelOther, .ref mduelOn, .ref mruleFrom, .ref mruleTo, .ref mhasHonour, .ref mhasDraw, .ref mmName, .ref mkName, .ref mrName, .ref mdName, .ref mcode, .ref mcodeNumber, .ref meWhat, .ref meSign, .ref mpile, .int mbank, .int mrb, .int mcodes, .int mwithin, .int mpiled, .int munitsInRule, .int p1, .int L_2, .int x_11, .ref mall, .ref mwas, .int macts, .int mundone, .ref musedBy0, .ref musedBy1, .ref mmornings, .ref mcameFrom, .ref mcameBy, .ref mlevelAt, .ref mwins, .ref mslots, .ref mlevelOf, .ref mworthOf, .int mstates, .int mlevels, .int mside0, .int mside1, .int mdeathDay, .int maway, .int mhires, .int mhirer, .int mslotFound, .int misSpent, .int mfound, .int mlaid, .ref mlaidRow, .ref mgReason, .ref mgDay, .ref mgTold, .ref mgUntold, .int msights, .int mtime, .ref mboxAll, .ref misBoxed])), (mreasons, aI g 2 Fmreasons), (mkindOf, aI g 16 FmkindOf), (mruleFrom, aI g 8 FmruleFrom), (mruleTo, aI g 8 FmruleTo), (mcode, aI g 1120 Fmcode), (mcodeNumber, aI g 1120 FmcodeNumber), (mpile, aI g 60 f_17)] := hD.sub [2, 0, 1, 3, 4, 5, 6, 7] (by decide +kernel) rfl
      exact W.iret (v := 1) hx hb hr (fun t ht hW => ⟨⟨1, (L_2, x_11, f_17), rfl, ⟨by decide, by decide⟩, by rw [ht]; exact hP9, by rw [hAe]; exact hD9⟩, hS.F ht⟩) hS.2.2 dX12_worthBy_148
  · have f_24 := E_nle (rfl : x_6.toInt = _) (rfl : L_1.toInt = _) c_7
    refine lv_aload_n hx hb dX12_worthBy_20 rfl (lv_at hl 2 rfl) ?_
    refine va_get (D := g.1) (ci := 12) (v := .ref mkindOf) (C := RX12) (T := TX12) (N := 87) hx hb hT inF_X12 hown hK.1 hP 0 rfl rfl 21 (by decide) (hT _ bw_873) (fun _ h9 => h9) rfl dX12_worthBy_21 ?_
    refine lv_bipush (v := 8) hx hb dX12_worthBy_24 (by decide) ?_
    refine lv_aload_n hx hb dX12_worthBy_26 rfl (lv_at hl 2 rfl) ?_
    refine va_get (D := g.1) (ci := 12) (v := .int mbank) (C := RX12) (T := TX12) (N := 87) hx hb hT inF_X12 hown hK.1 hP 0 rfl rfl 43 (by decide) (hT _ bw_825) (fun _ h9 => h9) rfl dX12_worthBy_27 ?_
    refine lv_imul hx hb dX12_worthBy_30 ?_
    refine lv_topi (fun x_25 ex_25 => ?_)
    have fx_25 : x_25.toInt = 8 * mbank.toInt := by rw [ex_25]; exact I_mul (by decide : (8 : Int32).toInt = 8) rfl (by omega) (by omega)
    refine lv_iload hx hb dX12_worthBy_31 (lv_at hl 0 rfl) ?_
    refine lv_iadd hx hb dX12_worthBy_33 ?_
    refine lv_topi (fun x_26 ex_26 => ?_)
    have fx_26 : x_26.toInt = x_25.toInt + L_1.toInt := by rw [ex_26]; exact I_add rfl rfl (by omega) (by omega)
    have h_27 : vp_in x_26 16 := vp_in_iff.mpr (by omega)
    refine va_iald hx hb hK.1 hP 2 1 rfl rfl (i := x_26) h_27 dX12_worthBy_34 ?_
    refine lv_topi (fun x_28 ex_28 => ?_)
    have fx_28 : 0 ≤ x_28.toInt ∧ x_28.toInt ≤ 3 := Rg.rd hh12 h_27 ex_28
    have ux_28 := congrArg Int32.toInt ex_28
    refine lv_aload_n hx hb dX12_worthBy_35 rfl (lv_at hl 2 rfl) ?_
    refine va_get (D := g.1) (ci := 12) (v := .ref mkindOf) (C := RX12) (T := TX12) (N := 87) hx hb hT inF_X12 hown hK.1 hP 0 rfl rfl 21 (by decide) (hT _ bw_873) (fun _ h9 => h9) rfl dX12_worthBy_36 ?_
    refine lv_bipush (v := 8) hx hb dX12_worthBy_39 (by decide) ?_
    refine lv_aload_n hx hb dX12_worthBy_41 rfl (lv_at hl 2 rfl) ?_
    refine va_get (D := g.1) (ci := 12) (v := .int mbank) (C := RX12) (T := TX12) (N := 87) hx hb hT inF_X12 hown hK.1 hP 0 rfl rfl 43 (by decide) (hT _ bw_825) (fun _ h9 => h9) rfl dX12_worthBy_42 ?_
    refine lv_imul hx hb dX12_worthBy_45 ?_
    refine lv_topi (fun x_29 ex_29 => ?_)
    have fx_29 : x_29.toInt = 8 * mbank.toInt := by rw [ex_29]; exact I_mul (by decide : (8 : Int32).toInt = 8) rfl (by omega) (by omega)
    refine lv_iload_n hx hb dX12_worthBy_46 rfl (lv_at hl 3 rfl) ?_
    refine lv_iadd hx hb dX12_worthBy_47 ?_
    refine lv_topi (fun x_30 ex_30 => ?_)
    have fx_30 : x_30.toInt = x_29.toInt + p0.toInt := by rw [ex_30]; exact I_add rfl rfl (by omega) (by omega)
    have h_31 : vp_in x_30 16 := vp_in_iff.mpr (by omega)
    refine va_iald hx hb hK.1 hP 2 1 rfl rfl (i := x_30) h_31 dX12_worthBy_48 ?_
    refine lv_topi (fun x_32 ex_32 => ?_)
    have fx_32 : 0 ≤ x_32.toInt ∧ x_32.toInt ≤ 3 := Rg.rd hh12 h_31 ex_32
    have ux_32 := congrArg Int32.toInt ex_32
    refine lv_icmp_ne (tgt := 71) hx hb dX12_worthBy_49 (by decide) (fun c_33 => ?_) (fun c_33 => ?_)
    · have f_34 := E_ne (rfl : x_28.toInt = _) (rfl : x_32.toInt = _) c_33
      obtain ⟨x_35, ex_35⟩ : ∃ y : Int32, y = L_1 + 1 := ⟨_, rfl⟩
      have fx_35 : x_35.toInt = L_1.toInt + 1 := by rw [ex_35]; exact I_add rfl (by decide) (by omega) (by omega)
      refine lv_iinc (v := x_35) (lv' := [(6, .int x_35), (5, .int L_2), (0, .ref h), (1, .int p0), (2, .int p1), (3, .int p2), (4, .int p3)]) hx hb dX12_worthBy_71 hl (k := 0) rfl (by rw [ex_35]; rfl) (by decide) rfl (fun ls hl => ?_)
      refine lv_goto (tgt := 6) hx hb dX12_worthBy_74 (by decide) ?_
      exact ih (n - 1) (by omega) H locs ls ⟨x_35, L_2, (by first | with_reducible assumption | omega), by omega, hP.sub [0, 1, 2, 3, 4, 5, 6, 7] rfl, hD.sub [0, 1, 2, 3, 4, 5, 6, 7] (by decide +kernel) rfl, hS, lv_sub hl [0, 1, 2, 3, 4, 5, 6] rfl⟩
    · have f_36 := E_eq (rfl : x_28.toInt = _) (rfl : x_32.toInt = _) c_33
      refine lv_iload hx hb dX12_worthBy_52 (lv_at hl 1 rfl) ?_
      refine lv_iload_n hx hb dX12_worthBy_54 rfl (lv_at hl 5 rfl) ?_
      refine lv_iload hx hb dX12_worthBy_55 (lv_at hl 0 rfl) ?_
      refine lv_ishr hx hb dX12_worthBy_57 ?_
      refine lv_topi (fun x_37 ex_37 => ?_)
      refine lv_iconst (v := 1) hx hb dX12_worthBy_58 (by decide) ?_
      refine lv_iand hx hb dX12_worthBy_59 ?_
      refine lv_topi (fun x_38 ex_38 => ?_)
      have fx_38 : 0 ≤ x_38.toInt ∧ x_38.toInt ≤ 1 := by rw [ex_38]; exact I_and (by decide) (by decide)
      refine lv_iload hx hb dX12_worthBy_60 (lv_at hl 6 rfl) ?_
      refine lv_iload hx hb dX12_worthBy_62 (lv_at hl 0 rfl) ?_
      refine lv_ishr hx hb dX12_worthBy_64 ?_
      refine lv_topi (fun x_39 ex_39 => ?_)
      refine lv_iconst (v := 1) hx hb dX12_worthBy_65 (by decide) ?_
      refine lv_iand hx hb dX12_worthBy_66 ?_
      refine lv_topi (fun x_40 ex_40 => ?_)
      have fx_40 : 0 ≤ x_40.toInt ∧ x_40.toInt ≤ 1 := by rw [ex_40]; exact I_and (by decide) (by decide)
      refine lv_iadd hx hb dX12_worthBy_67 ?_
      refine lv_topi (fun x_41 ex_41 => ?_)
      have fx_41 : x_41.toInt = x_38.toInt + x_40.toInt := by rw [ex_41]; exact I_add rfl rfl (by omega) (by omega)
      refine lv_iadd hx hb dX12_worthBy_68 ?_
      refine lv_topi (fun x_42 ex_42 => ?_)
      refine lv_istore (lv' := [(5, .int x_42), (6, .int L_1), (0, .ref h), (1, .int p0), (2, .int p1), (3, .int p2), (4, .int p3)]) hx hb dX12_worthBy_69 hl (by decide) rfl (fun ls hl => ?_)
      obtain ⟨x_43, ex_43⟩ : ∃ y : Int32, y = L_1 + 1 := ⟨_, rfl⟩
      have fx_43 : x_43.toInt = L_1.toInt + 1 := by rw [ex_43]; exact I_add rfl (by decide) (by omega) (by omega)
      refine lv_iinc (v := x_43) (lv' := [(6, .int x_43), (5, .int x_42), (0, .ref h), (1, .int p0), (2, .int p1), (3, .int p2), (4, .int p3)]) hx hb dX12_worthBy_71 hl (k := 1) rfl (by rw [ex_43]; rfl) (by decide) rfl (fun ls hl => ?_)
      refine lv_goto (tgt := 6) hx hb dX12_worthBy_74 (by decide) ?_
      exact ih (n - 1) (by omega) H locs ls ⟨x_43, x_42, (by first | with_reducible assumption | omega), by omega, hP.sub [0, 1, 2, 3, 4, 5, 6, 7] rfl, hD.sub [0, 1, 2, 3, 4, 5, 6, 7] (by decide +kernel) rfl, hS, lv_sub hl [0, 1, 2, 3, 4, 5, 6] rfl⟩

theorem bw_878 : Cond.fieldLink RX12 66 "DuelDelaysModel" "sort" "[I" ∈ gT := gT_tb 1331 (by decide +kernel) (by decide +kernel)
theorem bw_879 : Cond.code yX12_isNew cX12_isNew 7 (some .boolean) ∈ gT := gT_tb 1838 (by decide +kernel) (by decide +kernel)
theorem dX12_isNew_0 : decode cX12_isNew 0 = .ok (.aload_n 0, 1) := by decide +kernel
theorem dX12_isNew_1 : decode cX12_isNew 1 = .ok (.getfield 66, 3) := by decide +kernel
theorem dX12_isNew_4 : decode cX12_isNew 4 = .ok (.bipush 8, 2) := by decide +kernel
theorem dX12_isNew_6 : decode cX12_isNew 6 = .ok (.aload_n 0, 1) := by decide +kernel
theorem dX12_isNew_7 : decode cX12_isNew 7 = .ok (.getfield 308, 3) := by decide +kernel
theorem dX12_isNew_10 : decode cX12_isNew 10 = .ok (.imul, 1) := by decide +kernel
theorem dX12_isNew_11 : decode cX12_isNew 11 = .ok (.iload_n 1, 1) := by decide +kernel
theorem dX12_isNew_12 : decode cX12_isNew 12 = .ok (.iadd, 1) := by decide +kernel
theorem dX12_isNew_13 : decode cX12_isNew 13 = .ok (.iaload, 1) := by decide +kernel
theorem dX12_isNew_14 : decode cX12_isNew 14 = .ok (.istore 5, 2) := by decide +kernel
theorem dX12_isNew_16 : decode cX12_isNew 16 = .ok (.iload 5, 2) := by decide +kernel
theorem dX12_isNew_18 : decode cX12_isNew 18 = .ok (.iconst 1, 1) := by decide +kernel
theorem dX12_isNew_19 : decode cX12_isNew 19 = .ok (.if_icmp .ne 7, 3) := by decide +kernel
theorem dX12_isNew_22 : decode cX12_isNew 22 = .ok (.iload_n 2, 1) := by decide +kernel
theorem dX12_isNew_23 : decode cX12_isNew 23 = .ok (.goto 21, 3) := by decide +kernel
theorem dX12_isNew_26 : decode cX12_isNew 26 = .ok (.iload 5, 2) := by decide +kernel
theorem dX12_isNew_28 : decode cX12_isNew 28 = .ok (.iconst 2, 1) := by decide +kernel
theorem dX12_isNew_29 : decode cX12_isNew 29 = .ok (.if_icmp .ne 12, 3) := by decide +kernel
theorem dX12_isNew_32 : decode cX12_isNew 32 = .ok (.iload_n 2, 1) := by decide +kernel
theorem dX12_isNew_33 : decode cX12_isNew 33 = .ok (.iload_n 3, 1) := by decide +kernel
theorem dX12_isNew_34 : decode cX12_isNew 34 = .ok (.ior, 1) := by decide +kernel
theorem dX12_isNew_35 : decode cX12_isNew 35 = .ok (.iload 4, 2) := by decide +kernel
theorem dX12_isNew_37 : decode cX12_isNew 37 = .ok (.ior, 1) := by decide +kernel
theorem dX12_isNew_38 : decode cX12_isNew 38 = .ok (.goto 6, 3) := by decide +kernel
theorem dX12_isNew_41 : decode cX12_isNew 41 = .ok (.iload_n 2, 1) := by decide +kernel
theorem dX12_isNew_42 : decode cX12_isNew 42 = .ok (.iload_n 3, 1) := by decide +kernel
theorem dX12_isNew_43 : decode cX12_isNew 43 = .ok (.ior, 1) := by decide +kernel
theorem dX12_isNew_44 : decode cX12_isNew 44 = .ok (.istore 6, 2) := by decide +kernel
theorem dX12_isNew_46 : decode cX12_isNew 46 = .ok (.iload 6, 2) := by decide +kernel
theorem dX12_isNew_48 : decode cX12_isNew 48 = .ok (.iload_n 1, 1) := by decide +kernel
theorem dX12_isNew_49 : decode cX12_isNew 49 = .ok (.ishr, 1) := by decide +kernel
theorem dX12_isNew_50 : decode cX12_isNew 50 = .ok (.iconst 1, 1) := by decide +kernel
theorem dX12_isNew_51 : decode cX12_isNew 51 = .ok (.iand, 1) := by decide +kernel
theorem dX12_isNew_52 : decode cX12_isNew 52 = .ok (.ifCond .ne 7, 3) := by decide +kernel
theorem dX12_isNew_55 : decode cX12_isNew 55 = .ok (.iconst 1, 1) := by decide +kernel
theorem dX12_isNew_56 : decode cX12_isNew 56 = .ok (.goto 4, 3) := by decide +kernel
theorem dX12_isNew_59 : decode cX12_isNew 59 = .ok (.iconst 0, 1) := by decide +kernel
theorem dX12_isNew_60 : decode cX12_isNew 60 = .ok (.ireturn, 1) := by decide +kernel
set_option maxHeartbeats 40000000 in
set_option maxRecDepth 100000 in
theorem s_X12_isNew (l : Launch) (g : GG) (sz : Nat) (h : Nat) (mtape : Nat) (mtext : Nat) (mtaped : Int32) (msize : Int32) (mfaultKind : Int32) (mfaultPlace : Int32) (mat : Int32) (mend : Int32) (mtoken : Int32) (mnumber : Int32) (mname : Int64) (mmen : Nat) (mkinds : Nat) (mreasons : Nat) (mtold : Nat) (munits : Nat) (mhonour : Nat) (mdraw : Nat) (mdies : Nat) (mcoin : Nat) (msonOf : Nat) (mkindOf : Nat) (mowner : Nat) (mfirst : Nat) (mlast : Nat) (mrent : Nat) (msort : Nat) (Fmsort : Nat → Int32) (mduelOne : Nat) (mduelOther : Nat) (mduelOn : Nat) (mruleFrom : Nat) (mruleTo : Nat) (mhasHonour : Nat) (mhasDraw : Nat) (mmName : Nat) (mkName : Nat) (mrName : Nat) (mdName : Nat) (mcode : Nat) (mcodeNumber : Nat) (meWhat : Nat) (meSign : Nat) (mpile : Nat) (mbank : Int32) (mrb : Int32) (mcodes : Int32) (mwithin : Int32) (mpiled : Int32) (munitsInRule : Int32) (maskDay : Int32) (maskUses : Int32) (maskSpent : Int32) (mall : Nat) (mwas : Nat) (macts : Int32) (mundone : Int32) (musedBy0 : Nat) (musedBy1 : Nat) (mmornings : Nat) (mcameFrom : Nat) (mcameBy : Nat) (mlevelAt : Nat) (mwins : Nat) (mslots : Nat) (mlevelOf : Nat) (mworthOf : Nat) (mstates : Int32) (mlevels : Int32) (mside0 : Int32) (mside1 : Int32) (mdeathDay : Int32) (maway : Int32) (mhires : Int32) (mhirer : Int32) (mslotFound : Int32) (misSpent : Int32) (mfound : Int32) (mlaid : Int32) (mlaidRow : Nat) (mgReason : Nat) (mgDay : Nat) (mgTold : Nat) (mgUntold : Nat) (msights : Int32) (mtime : Int32) (mboxAll : Nat) (misBoxed : Nat) (p0 : Int32) (p1 : Int32) (p2 : Int32) (p3 : Int32) (hh0 : 0 ≤ mtaped.toInt ∧ mtaped.toInt ≤ 1600) (hh1 : 0 ≤ msize.toInt ∧ msize.toInt ≤ 1600) (hh2 : 0 ≤ mat.toInt ∧ mat.toInt ≤ 1600) (hh3 : 0 ≤ mend.toInt ∧ mend.toInt ≤ 1600) (hh4 : 0 ≤ mtoken.toInt ∧ mtoken.toInt ≤ 5) (hh18 : 0 ≤ mbank.toInt ∧ mbank.toInt ≤ 1) (hh19 : 0 ≤ mrb.toInt ∧ mrb.toInt ≤ 1) (hh20 : 0 ≤ mcodes.toInt ∧ mcodes.toInt ≤ 1120) (hh21 : 0 ≤ mpiled.toInt ∧ mpiled.toInt ≤ 90) (hh22 : 0 ≤ munitsInRule.toInt ∧ munitsInRule.toInt ≤ 30) (hh25 : 0 ≤ macts.toInt ∧ macts.toInt ≤ 40) (hh26 : 0 ≤ mundone.toInt ∧ mundone.toInt ≤ 40) (hh34 : 0 ≤ mstates.toInt ∧ mstates.toInt ≤ 3000) (hh35 : 0 ≤ mlevels.toInt ∧ mlevels.toInt ≤ 18) (hh36 : 0 ≤ mside0.toInt ∧ mside0.toInt ≤ 5) (hh37 : 0 ≤ mside1.toInt ∧ mside1.toInt ≤ 5) (hh38 : 0 ≤ mslotFound.toInt ∧ mslotFound.toInt ≤ 8191) (hh39 : 0 ≤ misSpent.toInt ∧ misSpent.toInt ≤ 1) (hh40 : 0 ≤ mlaid.toInt ∧ mlaid.toInt ≤ 16) (hh41 : 0 ≤ msights.toInt ∧ msights.toInt ≤ 30) (hh42 : 0 ≤ mtime.toInt ∧ mtime.toInt ≤ 100000) (hh44 : 0 ≤ p0.toInt ∧ p0.toInt ≤ 7) : Met l yX12_isNew (.code yX12_isNew cX12_isNew 7 (some .boolean) :: gT) ({ frames := 0, cells := 0, slots := 0, locals := 0 }) (va_Pc [.ref h, .int p0, .int p1, .int p2, .int p3] (Pst g sz [(h, .inr (12, [.ref mtape, .ref mtext, .int mtaped, .int msize, .int mfaultKind, .int mfaultPlace, .int mat, .int mend, .int mtoken, .int mnumber, .long mname, .ref mmen, .ref mkinds, .ref mreasons, .ref mtold, .ref munits, .ref mhonour, .ref mdraw, .ref mdies, .ref mcoin, .ref msonOf, .ref mkindOf, .ref mowner, .ref mfirst, .ref mlast, .ref mrent, .ref msort, .ref mduelOne, .ref mduelOther, .ref mduelOn, .ref mruleFrom, .ref mruleTo, .ref mhasHonour, .ref mhasDraw, .ref mmName, .ref mkName, .ref mrName, .ref mdName, .ref mcode, .ref mcodeNumber, .ref meWhat, .ref meSign, .ref mpile, .int mbank, .int mrb, .int mcodes, .int mwithin, .int mpiled, .int munitsInRule, .int maskDay, .int maskUses, .int maskSpent, .ref mall, .ref mwas, .int macts, .int mundone, .ref musedBy0, .ref musedBy1, .ref mmornings, .ref mcameFrom, .ref mcameBy, .ref mlevelAt, .ref mwins, .ref mslots, .ref mlevelOf, .ref mworthOf, .int mstates, .int mlevels, .int mside0, .int mside1, .int mdeathDay, .int maway, .int mhires, .int mhirer, .int mslotFound, .int misSpent, .int mfound, .int mlaid, .ref mlaidRow, .ref mgReason, .ref mgDay, .ref mgTold, .ref mgUntold, .int msights, .int mtime, .ref mboxAll, .ref misBoxed])), (msort, aI g 16 Fmsort)] nX)) (va_Qi (fun (r : Int32) => fun (_ : Unit) => (r = 1 ∧ (Bz p1 p0)) ∨ (r = 0)) (Qst g [] sz (fun _ => [])) (va_A [] sz)) 0 0 (va_A [] sz) := by
  refine Met.ofW (cc := cX12_isNew) (maxL := 7) (ret := (some .boolean)) (by decide) rfl ?_
  intro p e s m args below meth c s₁ B hml hv
  obtain ⟨rfl, hsz, hP, hK, hD0, hX⟩ := hv
  have hx := B.exec
  have hb := B.bytes
  have hr := B.returns
  have hT : ∀ w ∈ gT, w.before _ s = true := fun w h => atoms_spec (ws := .code yX12_isNew cX12_isNew 7 (some .boolean) :: gT) B.pre w (List.mem_cons_of_mem _ h)
  have hown : s.vm.findClass RX12 = some m.cls := findClass_of_methodNamed B.named
  have hlocks := B.notSynchronized
  subst hsz
  have hD := hD0
  generalize hAe : va_A [] s.heap.size = A at ⊢
  have hA : ∀ q : Nat, s.heap.size ≤ q → A q := fun q h => by rw [← hAe]; exact Or.inr h
  have hS : va_S A s.heap s.heap [] := va_S.rf
  have hl := lv_entry ([.ref h, .int p0, .int p1, .int p2, .int p3]) (n := 7) (Nat.le_of_ble_eq_true rfl)
  rw [lg_entry_eq]
  generalize (lg_sl ([.ref h, .int p0, .int p1, .int p2, .int p3]) ++ List.replicate (7 - (lg_sl ([.ref h, .int p0, .int p1, .int p2, .int p3])).length) Slot.unset).toArray = ls at hl ⊢
  have hl : lv_has ls 7 [(0, .ref h), (1, .int p0), (2, .int p1), (3, .int p2), (4, .int p3)] := hl
  refine p_nH (fun H hH => ?_)
  have hP : va_P g.1 vwCl [(h, .inr (12, [.ref mtape, .ref mtext, .int mtaped, .int msize, .int mfaultKind, .int mfaultPlace, .int mat, .int mend, .int mtoken, .int mnumber, .long mname, .ref mmen, .ref mkinds, .ref mreasons, .ref mtold, .ref munits, .ref mhonour, .ref mdraw, .ref mdies, .ref mcoin, .ref msonOf, .ref mkindOf, .ref mowner, .ref mfirst, .ref mlast, .ref mrent, .ref msort, .ref mduelOne, .ref mduelOther, .ref mduelOn, .ref mruleFrom, .ref mruleTo, .ref mhasHonour, .ref mhasDraw, .ref mmName, .ref mkName, .ref mrName, .ref mdName, .ref mcode, .ref mcodeNumber, .ref meWhat, .ref meSign, .ref mpile, .int mbank, .int mrb, .int mcodes, .int mwithin, .int mpiled, .int munitsInRule, .int maskDay, .int maskUses, .int maskSpent, .ref mall, .ref mwas, .int macts, .int mundone, .ref musedBy0, .ref musedBy1, .ref mmornings, .ref mcameFrom, .ref mcameBy, .ref mlevelAt, .ref mwins, .ref mslots, .ref mlevelOf, .ref mworthOf, .int mstates, .int mlevels, .int mside0, .int mside1, .int mdeathDay, .int maway, .int mhires, .int mhirer, .int mslotFound, .int misSpent, .int mfound, .int mlaid, .ref mlaidRow, .ref mgReason, .ref mgDay, .ref mgTold, .ref mgUntold, .int msights, .int mtime, .ref mboxAll, .ref misBoxed])), (msort, aI g 16 Fmsort)] H := by rw [hH]; exact hP
  have hS : va_S A s.heap H [] := by rw [hH]; exact hS
  refine lv_aload_n hx hb dX12_isNew_0 rfl (lv_at hl 0 rfl) ?_
  refine va_get (D := g.1) (ci := 12) (v := .ref msort) (C := RX12) (T := TX12) (N := 87) hx hb hT inF_X12 hown hK.1 hP 0 rfl rfl 26 (by decide) (hT _ bw_878) (fun _ h9 => h9) rfl dX12_isNew_1 ?_
  refine lv_bipush (v := 8) hx hb dX12_isNew_4 (by decide) ?_
  refine lv_aload_n hx hb dX12_isNew_6 rfl (lv_at hl 0 rfl) ?_
  refine va_get (D := g.1) (ci := 12) (v := .int mbank) (C := RX12) (T := TX12) (N := 87) hx hb hT inF_X12 hown hK.1 hP 0 rfl rfl 43 (by decide) (hT _ bw_825) (fun _ h9 => h9) rfl dX12_isNew_7 ?_
  refine lv_imul hx hb dX12_isNew_10 ?_
  refine lv_topi (fun x_1 ex_1 => ?_)
  have fx_1 : x_1.toInt = 8 * mbank.toInt := by rw [ex_1]; exact I_mul (by decide : (8 : Int32).toInt = 8) rfl (by omega) (by omega)
  refine lv_iload_n hx hb dX12_isNew_11 rfl (lv_at hl 1 rfl) ?_
  refine lv_iadd hx hb dX12_isNew_12 ?_
  refine lv_topi (fun x_2 ex_2 => ?_)
  have fx_2 : x_2.toInt = x_1.toInt + p0.toInt := by rw [ex_2]; exact I_add rfl rfl (by omega) (by omega)
  have h_3 : vp_in x_2 16 := vp_in_iff.mpr (by omega)
  refine va_iald hx hb hK.1 hP 1 1 rfl rfl (i := x_2) h_3 dX12_isNew_13 ?_
  refine lv_topi (fun x_4 ex_4 => ?_)
  have ux_4 := congrArg Int32.toInt ex_4
  refine lv_istore (lv' := [(5, .int x_4), (0, .ref h), (1, .int p0), (2, .int p1), (3, .int p2), (4, .int p3)]) hx hb dX12_isNew_14 hl (by decide) rfl (fun ls hl => ?_)
  refine lv_iload hx hb dX12_isNew_16 (lv_at hl 0 rfl) ?_
  refine lv_iconst (v := 1) hx hb dX12_isNew_18 (by decide) ?_
  refine lv_icmp_ne (tgt := 26) hx hb dX12_isNew_19 (by decide) (fun c_5 => ?_) (fun c_5 => ?_)
  · have f_6 := E_ne (rfl : x_4.toInt = _) (by decide : (1 : Int32).toInt = 1) c_5
    refine lv_iload hx hb dX12_isNew_26 (lv_at hl 0 rfl) ?_
    refine lv_iconst (v := 2) hx hb dX12_isNew_28 (by decide) ?_
    refine lv_icmp_ne (tgt := 41) hx hb dX12_isNew_29 (by decide) (fun c_7 => ?_) (fun c_7 => ?_)
    · have f_8 := E_ne (rfl : x_4.toInt = _) (by decide : (2 : Int32).toInt = 2) c_7
      refine lv_iload_n hx hb dX12_isNew_41 rfl (lv_at hl 3 rfl) ?_
      refine lv_iload_n hx hb dX12_isNew_42 rfl (lv_at hl 4 rfl) ?_
      refine lv_ior hx hb dX12_isNew_43 ?_
      refine lv_topi (fun x_9 ex_9 => ?_)
      refine lv_istore (lv' := [(6, .int x_9), (5, .int x_4), (0, .ref h), (1, .int p0), (2, .int p1), (3, .int p2), (4, .int p3)]) hx hb dX12_isNew_44 hl (by decide) rfl (fun ls hl => ?_)
      refine lv_iload hx hb dX12_isNew_46 (lv_at hl 0 rfl) ?_
      refine lv_iload_n hx hb dX12_isNew_48 rfl (lv_at hl 3 rfl) ?_
      refine lv_ishr hx hb dX12_isNew_49 ?_
      refine lv_topi (fun x_10 ex_10 => ?_)
      refine lv_iconst (v := 1) hx hb dX12_isNew_50 (by decide) ?_
      refine lv_iand hx hb dX12_isNew_51 ?_
      refine lv_topi (fun x_11 ex_11 => ?_)
      have fx_11 : 0 ≤ x_11.toInt ∧ x_11.toInt ≤ 1 := by rw [ex_11]; exact I_and (by decide) (by decide)
      refine lv_if_ne (tgt := 59) hx hb dX12_isNew_52 (by decide) (fun c_12 => ?_) (fun c_12 => ?_)
      · have f_13 := E_ne (rfl : x_11.toInt = _) (by decide : (0 : Int32).toInt = 0) c_12
        refine lv_iconst (v := 0) hx hb dX12_isNew_59 (by decide) ?_
        have hP9 : va_P g.1 vwCl [] H := hP.sub [] rfl
        have hD9 : va_D A [] := ⟨fun i j p q h => by simp at h, fun k q h => by simp at h⟩
        exact W.zret (v := 0) (ty := .boolean) hx hb hr rfl (fun t ht hW => ⟨⟨0, (), rfl, (Or.inr (rfl)), by rw [ht]; exact hP9, by rw [hAe]; exact hD9⟩, hS.F ht⟩) hS.2.2 dX12_isNew_60
      · have f_14 := E_eq (rfl : x_11.toInt = _) (by decide : (0 : Int32).toInt = 0) c_12
        refine lv_iconst (v := 1) hx hb dX12_isNew_55 (by decide) ?_
        refine lv_goto (tgt := 60) hx hb dX12_isNew_56 (by decide) ?_
        have hP9 : va_P g.1 vwCl [] H := hP.sub [] rfl
        have hD9 : va_D A [] := ⟨fun i j p q h => by simp at h, fun k q h => by simp at h⟩
        exact W.zret (v := 1) (ty := .boolean) hx hb hr rfl (fun t ht hW => ⟨⟨1, (), rfl, (Or.inl ⟨rfl, (Bz_or (x := p1) (y := p2) (by unfold Bz; rw [← ex_9, ← ex_10, ← ex_11]; omega))⟩), by rw [ht]; exact hP9, by rw [hAe]; exact hD9⟩, hS.F ht⟩) hS.2.2 dX12_isNew_60
    · have f_15 := E_eq (rfl : x_4.toInt = _) (by decide : (2 : Int32).toInt = 2) c_7
      refine lv_iload_n hx hb dX12_isNew_32 rfl (lv_at hl 3 rfl) ?_
      refine lv_iload_n hx hb dX12_isNew_33 rfl (lv_at hl 4 rfl) ?_
      refine lv_ior hx hb dX12_isNew_34 ?_
      refine lv_topi (fun x_16 ex_16 => ?_)
      refine lv_iload hx hb dX12_isNew_35 (lv_at hl 5 rfl) ?_
      refine lv_ior hx hb dX12_isNew_37 ?_
      refine lv_topi (fun x_17 ex_17 => ?_)
      refine lv_goto (tgt := 44) hx hb dX12_isNew_38 (by decide) ?_
      refine lv_istore (lv' := [(6, .int x_17), (5, .int x_4), (0, .ref h), (1, .int p0), (2, .int p1), (3, .int p2), (4, .int p3)]) hx hb dX12_isNew_44 hl (by decide) rfl (fun ls hl => ?_)
      refine lv_iload hx hb dX12_isNew_46 (lv_at hl 0 rfl) ?_
      refine lv_iload_n hx hb dX12_isNew_48 rfl (lv_at hl 3 rfl) ?_
      refine lv_ishr hx hb dX12_isNew_49 ?_
      refine lv_topi (fun x_18 ex_18 => ?_)
      refine lv_iconst (v := 1) hx hb dX12_isNew_50 (by decide) ?_
      refine lv_iand hx hb dX12_isNew_51 ?_
      refine lv_topi (fun x_19 ex_19 => ?_)
      have fx_19 : 0 ≤ x_19.toInt ∧ x_19.toInt ≤ 1 := by rw [ex_19]; exact I_and (by decide) (by decide)
      refine lv_if_ne (tgt := 59) hx hb dX12_isNew_52 (by decide) (fun c_20 => ?_) (fun c_20 => ?_)
      · have f_21 := E_ne (rfl : x_19.toInt = _) (by decide : (0 : Int32).toInt = 0) c_20
        refine lv_iconst (v := 0) hx hb dX12_isNew_59 (by decide) ?_
        have hP9 : va_P g.1 vwCl [] H := hP.sub [] rfl
        have hD9 : va_D A [] := ⟨fun i j p q h => by simp at h, fun k q h => by simp at h⟩
        exact W.zret (v := 0) (ty := .boolean) hx hb hr rfl (fun t ht hW => ⟨⟨0, (), rfl, (Or.inr (rfl)), by rw [ht]; exact hP9, by rw [hAe]; exact hD9⟩, hS.F ht⟩) hS.2.2 dX12_isNew_60
      · have f_22 := E_eq (rfl : x_19.toInt = _) (by decide : (0 : Int32).toInt = 0) c_20
        refine lv_iconst (v := 1) hx hb dX12_isNew_55 (by decide) ?_
        refine lv_goto (tgt := 60) hx hb dX12_isNew_56 (by decide) ?_
        have hP9 : va_P g.1 vwCl [] H := hP.sub [] rfl
        have hD9 : va_D A [] := ⟨fun i j p q h => by simp at h, fun k q h => by simp at h⟩
        exact W.zret (v := 1) (ty := .boolean) hx hb hr rfl (fun t ht hW => ⟨⟨1, (), rfl, (Or.inl ⟨rfl, (Bz_or (x := p1) (y := p2) (Bz_or (x := p1 ||| p2) (y := p3) (by unfold Bz; rw [← ex_16, ← ex_17, ← ex_18, ← ex_19]; omega)))⟩), by rw [ht]; exact hP9, by rw [hAe]; exact hD9⟩, hS.F ht⟩) hS.2.2 dX12_isNew_60
  · have f_23 := E_eq (rfl : x_4.toInt = _) (by decide : (1 : Int32).toInt = 1) c_5
    refine lv_iload_n hx hb dX12_isNew_22 rfl (lv_at hl 3 rfl) ?_
    refine lv_goto (tgt := 44) hx hb dX12_isNew_23 (by decide) ?_
    refine lv_istore (lv' := [(6, .int p1), (5, .int x_4), (0, .ref h), (1, .int p0), (2, .int p1), (3, .int p2), (4, .int p3)]) hx hb dX12_isNew_44 hl (by decide) rfl (fun ls hl => ?_)
    refine lv_iload hx hb dX12_isNew_46 (lv_at hl 0 rfl) ?_
    refine lv_iload_n hx hb dX12_isNew_48 rfl (lv_at hl 3 rfl) ?_
    refine lv_ishr hx hb dX12_isNew_49 ?_
    refine lv_topi (fun x_24 ex_24 => ?_)
    refine lv_iconst (v := 1) hx hb dX12_isNew_50 (by decide) ?_
    refine lv_iand hx hb dX12_isNew_51 ?_
    refine lv_topi (fun x_25 ex_25 => ?_)
    have fx_25 : 0 ≤ x_25.toInt ∧ x_25.toInt ≤ 1 := by rw [ex_25]; exact I_and (by decide) (by decide)
    refine lv_if_ne (tgt := 59) hx hb dX12_isNew_52 (by decide) (fun c_26 => ?_) (fun c_26 => ?_)
    · have f_27 := E_ne (rfl : x_25.toInt = _) (by decide : (0 : Int32).toInt = 0) c_26
      refine lv_iconst (v := 0) hx hb dX12_isNew_59 (by decide) ?_
      have hP9 : va_P g.1 vwCl [] H := hP.sub [] rfl
      have hD9 : va_D A [] := ⟨fun i j p q h => by simp at h, fun k q h => by simp at h⟩
      exact W.zret (v := 0) (ty := .boolean) hx hb hr rfl (fun t ht hW => ⟨⟨0, (), rfl, (Or.inr (rfl)), by rw [ht]; exact hP9, by rw [hAe]; exact hD9⟩, hS.F ht⟩) hS.2.2 dX12_isNew_60
    · have f_28 := E_eq (rfl : x_25.toInt = _) (by decide : (0 : Int32).toInt = 0) c_26
      refine lv_iconst (v := 1) hx hb dX12_isNew_55 (by decide) ?_
      refine lv_goto (tgt := 60) hx hb dX12_isNew_56 (by decide) ?_
      have hP9 : va_P g.1 vwCl [] H := hP.sub [] rfl
      have hD9 : va_D A [] := ⟨fun i j p q h => by simp at h, fun k q h => by simp at h⟩
      exact W.zret (v := 1) (ty := .boolean) hx hb hr rfl (fun t ht hW => ⟨⟨1, (), rfl, (Or.inl ⟨rfl, (by unfold Bz; rw [← ex_24, ← ex_25]; omega)⟩), by rw [ht]; exact hP9, by rw [hAe]; exact hD9⟩, hS.F ht⟩) hS.2.2 dX12_isNew_60

theorem bw_880 : Cond.methodLink RX12 458 yX12_ownerOf ∈ gT := gT_tb 1823 (by decide +kernel) (by decide +kernel)
theorem bw_881 : Cond.instanceMethod yX12_ownerOf ∈ gT := gT_tb 1825 (by decide +kernel) (by decide +kernel)
theorem bw_882 : Cond.selects RX12 yX12_ownerOf yX12_ownerOf ∈ gT := gT_sl 98 (by decide +kernel) (by decide +kernel)
theorem bw_883 : Cond.code yX12_isHis cX12_isHis 5 (some .boolean) ∈ gT := gT_tb 1830 (by decide +kernel) (by decide +kernel)
theorem dX12_isHis_0 : decode cX12_isHis 0 = .ok (.aload_n 0, 1) := by decide +kernel
theorem dX12_isHis_1 : decode cX12_isHis 1 = .ok (.iload_n 1, 1) := by decide +kernel
theorem dX12_isHis_2 : decode cX12_isHis 2 = .ok (.invokevirtual 458, 3) := by decide +kernel
theorem dX12_isHis_5 : decode cX12_isHis 5 = .ok (.ifCond .lt 36, 3) := by decide +kernel
theorem dX12_isHis_8 : decode cX12_isHis 8 = .ok (.aload_n 0, 1) := by decide +kernel
theorem dX12_isHis_9 : decode cX12_isHis 9 = .ok (.iload_n 1, 1) := by decide +kernel
theorem dX12_isHis_10 : decode cX12_isHis 10 = .ok (.invokevirtual 458, 3) := by decide +kernel
theorem dX12_isHis_13 : decode cX12_isHis 13 = .ok (.iload_n 2, 1) := by decide +kernel
theorem dX12_isHis_14 : decode cX12_isHis 14 = .ok (.if_icmp .eq 27, 3) := by decide +kernel
theorem dX12_isHis_17 : decode cX12_isHis 17 = .ok (.iload_n 3, 1) := by decide +kernel
theorem dX12_isHis_18 : decode cX12_isHis 18 = .ok (.ifCond .eq 23, 3) := by decide +kernel
theorem dX12_isHis_21 : decode cX12_isHis 21 = .ok (.aload_n 0, 1) := by decide +kernel
theorem dX12_isHis_22 : decode cX12_isHis 22 = .ok (.getfield 119, 3) := by decide +kernel
theorem dX12_isHis_25 : decode cX12_isHis 25 = .ok (.bipush 7, 2) := by decide +kernel
theorem dX12_isHis_27 : decode cX12_isHis 27 = .ok (.iload_n 2, 1) := by decide +kernel
theorem dX12_isHis_28 : decode cX12_isHis 28 = .ok (.iadd, 1) := by decide +kernel
theorem dX12_isHis_29 : decode cX12_isHis 29 = .ok (.iaload, 1) := by decide +kernel
theorem dX12_isHis_30 : decode cX12_isHis 30 = .ok (.iload 4, 2) := by decide +kernel
theorem dX12_isHis_32 : decode cX12_isHis 32 = .ok (.ior, 1) := by decide +kernel
theorem dX12_isHis_33 : decode cX12_isHis 33 = .ok (.iload_n 1, 1) := by decide +kernel
theorem dX12_isHis_34 : decode cX12_isHis 34 = .ok (.ishr, 1) := by decide +kernel
theorem dX12_isHis_35 : decode cX12_isHis 35 = .ok (.iconst 1, 1) := by decide +kernel
theorem dX12_isHis_36 : decode cX12_isHis 36 = .ok (.iand, 1) := by decide +kernel
theorem dX12_isHis_37 : decode cX12_isHis 37 = .ok (.iconst 1, 1) := by decide +kernel
theorem dX12_isHis_38 : decode cX12_isHis 38 = .ok (.if_icmp .ne 7, 3) := by decide +kernel
theorem dX12_isHis_41 : decode cX12_isHis 41 = .ok (.iconst 1, 1) := by decide +kernel
theorem dX12_isHis_42 : decode cX12_isHis 42 = .ok (.goto 4, 3) := by decide +kernel
theorem dX12_isHis_45 : decode cX12_isHis 45 = .ok (.iconst 0, 1) := by decide +kernel
theorem dX12_isHis_46 : decode cX12_isHis 46 = .ok (.ireturn, 1) := by decide +kernel
set_option maxHeartbeats 40000000 in
set_option maxRecDepth 100000 in
theorem s_X12_isHis (l : Launch) (g : GG) (sz : Nat) (h : Nat) (mtape : Nat) (mtext : Nat) (mtaped : Int32) (msize : Int32) (mfaultKind : Int32) (mfaultPlace : Int32) (mat : Int32) (mend : Int32) (mtoken : Int32) (mnumber : Int32) (mname : Int64) (mmen : Nat) (mkinds : Nat) (mreasons : Nat) (mtold : Nat) (munits : Nat) (mhonour : Nat) (mdraw : Nat) (mdies : Nat) (mcoin : Nat) (msonOf : Nat) (mkindOf : Nat) (mowner : Nat) (Fmowner : Nat → Int32) (mfirst : Nat) (mlast : Nat) (mrent : Nat) (msort : Nat) (mduelOne : Nat) (mduelOther : Nat) (mduelOn : Nat) (mruleFrom : Nat) (mruleTo : Nat) (mhasHonour : Nat) (mhasDraw : Nat) (mmName : Nat) (mkName : Nat) (mrName : Nat) (mdName : Nat) (mcode : Nat) (mcodeNumber : Nat) (meWhat : Nat) (meSign : Nat) (mpile : Nat) (mbank : Int32) (mrb : Int32) (mcodes : Int32) (mwithin : Int32) (mpiled : Int32) (munitsInRule : Int32) (maskDay : Int32) (maskUses : Int32) (maskSpent : Int32) (mall : Nat) (Fmall : Nat → Int32) (mwas : Nat) (macts : Int32) (mundone : Int32) (musedBy0 : Nat) (musedBy1 : Nat) (mmornings : Nat) (mcameFrom : Nat) (mcameBy : Nat) (mlevelAt : Nat) (mwins : Nat) (mslots : Nat) (mlevelOf : Nat) (mworthOf : Nat) (mstates : Int32) (mlevels : Int32) (mside0 : Int32) (mside1 : Int32) (mdeathDay : Int32) (maway : Int32) (mhires : Int32) (mhirer : Int32) (mslotFound : Int32) (misSpent : Int32) (mfound : Int32) (mlaid : Int32) (mlaidRow : Nat) (mgReason : Nat) (mgDay : Nat) (mgTold : Nat) (mgUntold : Nat) (msights : Int32) (mtime : Int32) (mboxAll : Nat) (misBoxed : Nat) (p0 : Int32) (p1 : Int32) (p2 : Int32) (p3 : Int32) (hh0 : 0 ≤ mtaped.toInt ∧ mtaped.toInt ≤ 1600) (hh1 : 0 ≤ msize.toInt ∧ msize.toInt ≤ 1600) (hh2 : 0 ≤ mat.toInt ∧ mat.toInt ≤ 1600) (hh3 : 0 ≤ mend.toInt ∧ mend.toInt ≤ 1600) (hh4 : 0 ≤ mtoken.toInt ∧ mtoken.toInt ≤ 5) (hh13 : Rg 16 (-1) 5 Fmowner) (hh18 : 0 ≤ mbank.toInt ∧ mbank.toInt ≤ 1) (hh19 : 0 ≤ mrb.toInt ∧ mrb.toInt ≤ 1) (hh20 : 0 ≤ mcodes.toInt ∧ mcodes.toInt ≤ 1120) (hh21 : 0 ≤ mpiled.toInt ∧ mpiled.toInt ≤ 90) (hh22 : 0 ≤ munitsInRule.toInt ∧ munitsInRule.toInt ≤ 30) (hh23 : Ia Fmall) (hh25 : 0 ≤ macts.toInt ∧ macts.toInt ≤ 40) (hh26 : 0 ≤ mundone.toInt ∧ mundone.toInt ≤ 40) (hh34 : 0 ≤ mstates.toInt ∧ mstates.toInt ≤ 3000) (hh35 : 0 ≤ mlevels.toInt ∧ mlevels.toInt ≤ 18) (hh36 : 0 ≤ mside0.toInt ∧ mside0.toInt ≤ 5) (hh37 : 0 ≤ mside1.toInt ∧ mside1.toInt ≤ 5) (hh38 : 0 ≤ mslotFound.toInt ∧ mslotFound.toInt ≤ 8191) (hh39 : 0 ≤ misSpent.toInt ∧ misSpent.toInt ≤ 1) (hh40 : 0 ≤ mlaid.toInt ∧ mlaid.toInt ≤ 16) (hh41 : 0 ≤ msights.toInt ∧ msights.toInt ≤ 30) (hh42 : 0 ≤ mtime.toInt ∧ mtime.toInt ≤ 100000) (hh44 : 0 ≤ p0.toInt ∧ p0.toInt ≤ 7) (hh45 : 0 ≤ p1.toInt ∧ p1.toInt ≤ 5) (hh46 : 0 ≤ p2.toInt ∧ p2.toInt ≤ 1) : Met l yX12_isHis (.code yX12_isHis cX12_isHis 5 (some .boolean) :: gT) ({ frames := 1, cells := 0, slots := 0, locals := 21 }) (va_Pc [.ref h, .int p0, .int p1, .int p2, .int p3] (Pst g sz [(h, .inr (12, [.ref mtape, .ref mtext, .int mtaped, .int msize, .int mfaultKind, .int mfaultPlace, .int mat, .int mend, .int mtoken, .int mnumber, .long mname, .ref mmen, .ref mkinds, .ref mreasons, .ref mtold, .ref munits, .ref mhonour, .ref mdraw, .ref mdies, .ref mcoin, .ref msonOf, .ref mkindOf, .ref mowner, .ref mfirst, .ref mlast, .ref mrent, .ref msort, .ref mduelOne, .ref mduelOther, .ref mduelOn, .ref mruleFrom, .ref mruleTo, .ref mhasHonour, .ref mhasDraw, .ref mmName, .ref mkName, .ref mrName, .ref mdName, .ref mcode, .ref mcodeNumber, .ref meWhat, .ref meSign, .ref mpile, .int mbank, .int mrb, .int mcodes, .int mwithin, .int mpiled, .int munitsInRule, .int maskDay, .int maskUses, .int maskSpent, .ref mall, .ref mwas, .int macts, .int mundone, .ref musedBy0, .ref musedBy1, .ref mmornings, .ref mcameFrom, .ref mcameBy, .ref mlevelAt, .ref mwins, .ref mslots, .ref mlevelOf, .ref mworthOf, .int mstates, .int mlevels, .int mside0, .int mside1, .int mdeathDay, .int maway, .int mhires, .int mhirer, .int mslotFound, .int misSpent, .int mfound, .int mlaid, .ref mlaidRow, .ref mgReason, .ref mgDay, .ref mgTold, .ref mgUntold, .int msights, .int mtime, .ref mboxAll, .ref misBoxed])), (mowner, aI g 16 Fmowner), (mall, aI g 374 Fmall)] nX)) (va_Qi (fun (r : Int32) => fun (_ : Unit) => 0 ≤ r.toInt ∧ r.toInt ≤ 1) (Qst g [] sz (fun _ => [])) (va_A [] sz)) 0 0 (va_A [] sz) := by
  refine Met.ofW (cc := cX12_isHis) (maxL := 5) (ret := (some .boolean)) (by decide) rfl ?_
  intro p e s m args below meth c s₁ B hml hv
  obtain ⟨rfl, hsz, hP, hK, hD0, hX⟩ := hv
  have hx := B.exec
  have hb := B.bytes
  have hr := B.returns
  have hT : ∀ w ∈ gT, w.before _ s = true := fun w h => atoms_spec (ws := .code yX12_isHis cX12_isHis 5 (some .boolean) :: gT) B.pre w (List.mem_cons_of_mem _ h)
  have hown : s.vm.findClass RX12 = some m.cls := findClass_of_methodNamed B.named
  have hlocks := B.notSynchronized
  subst hsz
  have hD := hD0
  generalize hAe : va_A [] s.heap.size = A at ⊢
  have hA : ∀ q : Nat, s.heap.size ≤ q → A q := fun q h => by rw [← hAe]; exact Or.inr h
  have hS : va_S A s.heap s.heap [] := va_S.rf
  have hl := lv_entry ([.ref h, .int p0, .int p1, .int p2, .int p3]) (n := 5) (Nat.le_of_ble_eq_true rfl)
  rw [lg_entry_eq]
  generalize (lg_sl ([.ref h, .int p0, .int p1, .int p2, .int p3]) ++ List.replicate (5 - (lg_sl ([.ref h, .int p0, .int p1, .int p2, .int p3])).length) Slot.unset).toArray = ls at hl ⊢
  have hl : lv_has ls 5 [(0, .ref h), (1, .int p0), (2, .int p1), (3, .int p2), (4, .int p3)] := hl
  refine p_nH (fun H hH => ?_)
  have hP : va_P g.1 vwCl [(h, .inr (12, [.ref mtape, .ref mtext, .int mtaped, .int msize, .int mfaultKind, .int mfaultPlace, .int mat, .int mend, .int mtoken, .int mnumber, .long mname, .ref mmen, .ref mkinds, .ref mreasons, .ref mtold, .ref munits, .ref mhonour, .ref mdraw, .ref mdies, .ref mcoin, .ref msonOf, .ref mkindOf, .ref mowner, .ref mfirst, .ref mlast, .ref mrent, .ref msort, .ref mduelOne, .ref mduelOther, .ref mduelOn, .ref mruleFrom, .ref mruleTo, .ref mhasHonour, .ref mhasDraw, .ref mmName, .ref mkName, .ref mrName, .ref mdName, .ref mcode, .ref mcodeNumber, .ref meWhat, .ref meSign, .ref mpile, .int mbank, .int mrb, .int mcodes, .int mwithin, .int mpiled, .int munitsInRule, .int maskDay, .int maskUses, .int maskSpent, .ref mall, .ref mwas, .int macts, .int mundone, .ref musedBy0, .ref musedBy1, .ref mmornings, .ref mcameFrom, .ref mcameBy, .ref mlevelAt, .ref mwins, .ref mslots, .ref mlevelOf, .ref mworthOf, .int mstates, .int mlevels, .int mside0, .int mside1, .int mdeathDay, .int maway, .int mhires, .int mhirer, .int mslotFound, .int misSpent, .int mfound, .int mlaid, .ref mlaidRow, .ref mgReason, .ref mgDay, .ref mgTold, .ref mgUntold, .int msights, .int mtime, .ref mboxAll, .ref misBoxed])), (mowner, aI g 16 Fmowner), (mall, aI g 374 Fmall)] H := by rw [hH]; exact hP
  have hS : va_S A s.heap H [] := by rw [hH]; exact hS
  refine lv_aload_n hx hb dX12_isHis_0 rfl (lv_at hl 0 rfl) ?_
  refine lv_iload_n hx hb dX12_isHis_1 rfl (lv_at hl 1 rfl) ?_
  refine k_iR (k_V (n := 1) ⟨hx, hb, hml, hown, hT⟩ hK hP hD [0, 1] rfl (by decide +kernel) (s_X12_ownerOf l g H.size h mtape mtext mtaped msize mfaultKind mfaultPlace mat mend mtoken mnumber mname mmen mkinds mreasons mtold munits mhonour mdraw mdies mcoin msonOf mkindOf mowner Fmowner mfirst mlast mrent msort mduelOne mduelOther mduelOn mruleFrom mruleTo mhasHonour mhasDraw mmName mkName mrName mdName mcode mcodeNumber meWhat meSign mpile mbank mrb mcodes mwithin mpiled munitsInRule maskDay maskUses maskSpent mall mwas macts mundone musedBy0 musedBy1 mmornings mcameFrom mcameBy mlevelAt mwins mslots mlevelOf mworthOf mstates mlevels mside0 mside1 mdeathDay maway mhires mhirer mslotFound misSpent mfound mlaid mlaidRow mgReason mgDay mgTold mgUntold msights mtime mboxAll misBoxed p0 (by first | with_reducible assumption | omega) (by first | with_reducible assumption | omega) (by first | with_reducible assumption | omega) (by first | with_reducible assumption | omega) (by first | with_reducible assumption | omega) hh13 (by first | with_reducible assumption | omega) (by first | with_reducible assumption | omega) (by first | with_reducible assumption | omega) (by first | with_reducible assumption | omega) (by first | with_reducible assumption | omega) (by first | with_reducible assumption | omega) (by first | with_reducible assumption | omega) (by first | with_reducible assumption | omega) (by first | with_reducible assumption | omega) (by first | with_reducible assumption | omega) (by first | with_reducible assumption | omega) (by first | with_reducible assumption | omega) (by first | with_reducible assumption | omega) (by first | with_reducible assumption | omega) (by first | with_reducible assumption | omega) (by first | with_reducible assumption | omega) (by first | with_reducible assumption | omega)) (gV bw_880 bw_881 bw_882 bw_840 bw_848) rfl rfl (by decide +kernel) ⟨by decide, by decide⟩ (ci := 12) (q0 := 0) rfl rfl (fun _ _ _ _ _ => trivial) (fun _ _ _ => trivial) rfl rfl hl.1 (Nat.le_of_ble_eq_true rfl) dX12_isHis_2 ⟨by decide, by decide⟩) hP hS hA (fun r_1 _ H locs hw0 hP hS => ?_)
  have hw : ((-1) ≤ r_1.toInt ∧ r_1.toInt ≤ 5) ∧ (r_1 = Fmowner (8 * mbank.toNatClampNeg + p0.toNatClampNeg)) := hw0
  clear hw0
  have w_2 := hw.1
  have w_3 := hw.2
  clear hw
  refine lv_if_lt (tgt := 41) hx hb dX12_isHis_5 (by decide) (fun c_4 => ?_) (fun c_4 => ?_)
  · have f_5 := E_lt (rfl : r_1.toInt = _) (by decide : (0 : Int32).toInt = 0) c_4
    refine lv_iconst (v := 1) hx hb dX12_isHis_41 (by decide) ?_
    refine lv_goto (tgt := 46) hx hb dX12_isHis_42 (by decide) ?_
    have hP9 : va_P g.1 vwCl [] H := hP.sub [] rfl
    have hD9 : va_D A [] := ⟨fun i j p q h => by simp at h, fun k q h => by simp at h⟩
    exact W.zret (v := 1) (ty := .boolean) hx hb hr rfl (fun t ht hW => ⟨⟨1, (), rfl, ⟨by decide, by decide⟩, by rw [ht]; exact hP9, by rw [hAe]; exact hD9⟩, hS.F ht⟩) hS.2.2 dX12_isHis_46
  · have f_6 := E_nlt (rfl : r_1.toInt = _) (by decide : (0 : Int32).toInt = 0) c_4
    refine lv_aload_n hx hb dX12_isHis_8 rfl (lv_at hl 0 rfl) ?_
    refine lv_iload_n hx hb dX12_isHis_9 rfl (lv_at hl 1 rfl) ?_
    refine k_iR (k_V (n := 1) ⟨hx, hb, hml, hown, hT⟩ hK hP hD [0, 1] rfl (by decide +kernel) (s_X12_ownerOf l g H.size h mtape mtext mtaped msize mfaultKind mfaultPlace mat mend mtoken mnumber mname mmen mkinds mreasons mtold munits mhonour mdraw mdies mcoin msonOf mkindOf mowner Fmowner mfirst mlast mrent msort mduelOne mduelOther mduelOn mruleFrom mruleTo mhasHonour mhasDraw mmName mkName mrName mdName mcode mcodeNumber meWhat meSign mpile mbank mrb mcodes mwithin mpiled munitsInRule maskDay maskUses maskSpent mall mwas macts mundone musedBy0 musedBy1 mmornings mcameFrom mcameBy mlevelAt mwins mslots mlevelOf mworthOf mstates mlevels mside0 mside1 mdeathDay maway mhires mhirer mslotFound misSpent mfound mlaid mlaidRow mgReason mgDay mgTold mgUntold msights mtime mboxAll misBoxed p0 (by first | with_reducible assumption | omega) (by first | with_reducible assumption | omega) (by first | with_reducible assumption | omega) (by first | with_reducible assumption | omega) (by first | with_reducible assumption | omega) hh13 (by first | with_reducible assumption | omega) (by first | with_reducible assumption | omega) (by first | with_reducible assumption | omega) (by first | with_reducible assumption | omega) (by first | with_reducible assumption | omega) (by first | with_reducible assumption | omega) (by first | with_reducible assumption | omega) (by first | with_reducible assumption | omega) (by first | with_reducible assumption | omega) (by first | with_reducible assumption | omega) (by first | with_reducible assumption | omega) (by first | with_reducible assumption | omega) (by first | with_reducible assumption | omega) (by first | with_reducible assumption | omega) (by first | with_reducible assumption | omega) (by first | with_reducible assumption | omega) (by first | with_reducible assumption | omega)) (gV bw_880 bw_881 bw_882 bw_840 bw_848) rfl rfl (by decide +kernel) ⟨by decide, by decide⟩ (ci := 12) (q0 := 0) rfl rfl (fun _ _ _ _ _ => trivial) (fun _ _ _ => trivial) rfl rfl hl.1 (Nat.le_of_ble_eq_true rfl) dX12_isHis_10 ⟨by decide, by decide⟩) hP hS hA (fun r_7 _ H locs hw0 hP hS => ?_)
    have hw : ((-1) ≤ r_7.toInt ∧ r_7.toInt ≤ 5) ∧ (r_7 = Fmowner (8 * mbank.toNatClampNeg + p0.toNatClampNeg)) := hw0
    clear hw0
    have w_8 := hw.1
    have w_9 := hw.2
    clear hw
    refine lv_iload_n hx hb dX12_isHis_13 rfl (lv_at hl 2 rfl) ?_
    refine lv_icmp_eq (tgt := 41) hx hb dX12_isHis_14 (by decide) (fun c_10 => ?_) (fun c_10 => ?_)
    · have f_11 := E_eq (rfl : r_7.toInt = _) (rfl : p1.toInt = _) c_10
      refine lv_iconst (v := 1) hx hb dX12_isHis_41 (by decide) ?_
      refine lv_goto (tgt := 46) hx hb dX12_isHis_42 (by decide) ?_
      have hP9 : va_P g.1 vwCl [] H := hP.sub [] rfl
      have hD9 : va_D A [] := ⟨fun i j p q h => by simp at h, fun k q h => by simp at h⟩
      exact W.zret (v := 1) (ty := .boolean) hx hb hr rfl (fun t ht hW => ⟨⟨1, (), rfl, ⟨by decide, by decide⟩, by rw [ht]; exact hP9, by rw [hAe]; exact hD9⟩, hS.F ht⟩) hS.2.2 dX12_isHis_46
    · have f_12 := E_ne (rfl : r_7.toInt = _) (rfl : p1.toInt = _) c_10
      refine lv_iload_n hx hb dX12_isHis_17 rfl (lv_at hl 3 rfl) ?_
      refine lv_if_eq (tgt := 41) hx hb dX12_isHis_18 (by decide) (fun c_13 => ?_) (fun c_13 => ?_)
      · have f_14 := E_eq (rfl : p2.toInt = _) (by decide : (0 : Int32).toInt = 0) c_13
        refine lv_iconst (v := 1) hx hb dX12_isHis_41 (by decide) ?_
        refine lv_goto (tgt := 46) hx hb dX12_isHis_42 (by decide) ?_
        have hP9 : va_P g.1 vwCl [] H := hP.sub [] rfl
        have hD9 : va_D A [] := ⟨fun i j p q h => by simp at h, fun k q h => by simp at h⟩
        exact W.zret (v := 1) (ty := .boolean) hx hb hr rfl (fun t ht hW => ⟨⟨1, (), rfl, ⟨by decide, by decide⟩, by rw [ht]; exact hP9, by rw [hAe]; exact hD9⟩, hS.F ht⟩) hS.2.2 dX12_isHis_46
      · have f_15 := E_ne (rfl : p2.toInt = _) (by decide : (0 : Int32).toInt = 0) c_13
        refine lv_aload_n hx hb dX12_isHis_21 rfl (lv_at hl 0 rfl) ?_
        refine va_get (D := g.1) (ci := 12) (v := .ref mall) (C := RX12) (T := TX12) (N := 87) hx hb hT inF_X12 hown hK.1 hP 0 rfl rfl 52 (by decide) (hT _ bw_832) (fun _ h9 => h9) rfl dX12_isHis_22 ?_
        refine lv_bipush (v := 7) hx hb dX12_isHis_25 (by decide) ?_
        refine lv_iload_n hx hb dX12_isHis_27 rfl (lv_at hl 2 rfl) ?_
        refine lv_iadd hx hb dX12_isHis_28 ?_
        refine lv_topi (fun x_16 ex_16 => ?_)
        have fx_16 : x_16.toInt = 7 + p1.toInt := by rw [ex_16]; exact I_add (by decide : (7 : Int32).toInt = 7) rfl (by omega) (by omega)
        have h_17 : vp_in x_16 374 := vp_in_iff.mpr (by omega)
        refine va_iald hx hb hK.1 hP 2 1 rfl rfl (i := x_16) h_17 dX12_isHis_29 ?_
        refine lv_topi (fun x_18 ex_18 => ?_)
        have cn_19 := clampI (x := x_16) (by omega)
        have mcn_19 : (x_16 : Int32).toNatClampNeg % 374 = (x_16 : Int32).toNatClampNeg := Nat.mod_eq_of_lt (by omega)
        have ux_18 := congrArg Int32.toInt ex_18
        have px_18 : In ((x_16 : Int32).toNatClampNeg % 374) x_18.toInt := Im.rd hh23 h_17 ex_18
        refine lv_iload hx hb dX12_isHis_30 (lv_at hl 4 rfl) ?_
        refine lv_ior hx hb dX12_isHis_32 ?_
        refine lv_topi (fun x_20 ex_20 => ?_)
        refine lv_iload_n hx hb dX12_isHis_33 rfl (lv_at hl 1 rfl) ?_
        refine lv_ishr hx hb dX12_isHis_34 ?_
        refine lv_topi (fun x_21 ex_21 => ?_)
        refine lv_iconst (v := 1) hx hb dX12_isHis_35 (by decide) ?_
        refine lv_iand hx hb dX12_isHis_36 ?_
        refine lv_topi (fun x_22 ex_22 => ?_)
        have fx_22 : 0 ≤ x_22.toInt ∧ x_22.toInt ≤ 1 := by rw [ex_22]; exact I_and (by decide) (by decide)
        refine lv_iconst (v := 1) hx hb dX12_isHis_37 (by decide) ?_
        refine lv_icmp_ne (tgt := 45) hx hb dX12_isHis_38 (by decide) (fun c_23 => ?_) (fun c_23 => ?_)
        · have f_24 := E_ne (rfl : x_22.toInt = _) (by decide : (1 : Int32).toInt = 1) c_23
          refine lv_iconst (v := 0) hx hb dX12_isHis_45 (by decide) ?_
          have hP9 : va_P g.1 vwCl [] H := hP.sub [] rfl
          have hD9 : va_D A [] := ⟨fun i j p q h => by simp at h, fun k q h => by simp at h⟩
          exact W.zret (v := 0) (ty := .boolean) hx hb hr rfl (fun t ht hW => ⟨⟨0, (), rfl, ⟨by decide, by decide⟩, by rw [ht]; exact hP9, by rw [hAe]; exact hD9⟩, hS.F ht⟩) hS.2.2 dX12_isHis_46
        · have f_25 := E_eq (rfl : x_22.toInt = _) (by decide : (1 : Int32).toInt = 1) c_23
          refine lv_iconst (v := 1) hx hb dX12_isHis_41 (by decide) ?_
          refine lv_goto (tgt := 46) hx hb dX12_isHis_42 (by decide) ?_
          have hP9 : va_P g.1 vwCl [] H := hP.sub [] rfl
          have hD9 : va_D A [] := ⟨fun i j p q h => by simp at h, fun k q h => by simp at h⟩
          exact W.zret (v := 1) (ty := .boolean) hx hb hr rfl (fun t ht hW => ⟨⟨1, (), rfl, ⟨by decide, by decide⟩, by rw [ht]; exact hP9, by rw [hAe]; exact hD9⟩, hS.F ht⟩) hS.2.2 dX12_isHis_46

theorem bw_884 : Cond.fieldLink RX12 57 "DuelDelaysModel" "first" "[I" ∈ gT := gT_tb 1328 (by decide +kernel) (by decide +kernel)
theorem bw_885 : Cond.fieldLink RX12 60 "DuelDelaysModel" "last" "[I" ∈ gT := gT_tb 1329 (by decide +kernel) (by decide +kernel)
theorem bw_886 : Cond.code yX12_isTime cX12_isTime 3 (some .boolean) ∈ gT := gT_tb 1822 (by decide +kernel) (by decide +kernel)
theorem dX12_isTime_0 : decode cX12_isTime 0 = .ok (.iload_n 2, 1) := by decide +kernel
theorem dX12_isTime_1 : decode cX12_isTime 1 = .ok (.aload_n 0, 1) := by decide +kernel
theorem dX12_isTime_2 : decode cX12_isTime 2 = .ok (.getfield 57, 3) := by decide +kernel
theorem dX12_isTime_5 : decode cX12_isTime 5 = .ok (.bipush 8, 2) := by decide +kernel
theorem dX12_isTime_7 : decode cX12_isTime 7 = .ok (.aload_n 0, 1) := by decide +kernel
theorem dX12_isTime_8 : decode cX12_isTime 8 = .ok (.getfield 308, 3) := by decide +kernel
theorem dX12_isTime_11 : decode cX12_isTime 11 = .ok (.imul, 1) := by decide +kernel
theorem dX12_isTime_12 : decode cX12_isTime 12 = .ok (.iload_n 1, 1) := by decide +kernel
theorem dX12_isTime_13 : decode cX12_isTime 13 = .ok (.iadd, 1) := by decide +kernel
theorem dX12_isTime_14 : decode cX12_isTime 14 = .ok (.iaload, 1) := by decide +kernel
theorem dX12_isTime_15 : decode cX12_isTime 15 = .ok (.aload_n 0, 1) := by decide +kernel
theorem dX12_isTime_16 : decode cX12_isTime 16 = .ok (.getfield 60, 3) := by decide +kernel
theorem dX12_isTime_19 : decode cX12_isTime 19 = .ok (.bipush 8, 2) := by decide +kernel
theorem dX12_isTime_21 : decode cX12_isTime 21 = .ok (.aload_n 0, 1) := by decide +kernel
theorem dX12_isTime_22 : decode cX12_isTime 22 = .ok (.getfield 308, 3) := by decide +kernel
theorem dX12_isTime_25 : decode cX12_isTime 25 = .ok (.imul, 1) := by decide +kernel
theorem dX12_isTime_26 : decode cX12_isTime 26 = .ok (.iload_n 1, 1) := by decide +kernel
theorem dX12_isTime_27 : decode cX12_isTime 27 = .ok (.iadd, 1) := by decide +kernel
theorem dX12_isTime_28 : decode cX12_isTime 28 = .ok (.iaload, 1) := by decide +kernel
theorem dX12_isTime_29 : decode cX12_isTime 29 = .ok (.invokestatic 411, 3) := by decide +kernel
theorem dX12_isTime_32 : decode cX12_isTime 32 = .ok (.ireturn, 1) := by decide +kernel
set_option maxHeartbeats 40000000 in
set_option maxRecDepth 100000 in
theorem s_X12_isTime (l : Launch) (g : GG) (sz : Nat) (h : Nat) (mtape : Nat) (mtext : Nat) (mtaped : Int32) (msize : Int32) (mfaultKind : Int32) (mfaultPlace : Int32) (mat : Int32) (mend : Int32) (mtoken : Int32) (mnumber : Int32) (mname : Int64) (mmen : Nat) (mkinds : Nat) (mreasons : Nat) (mtold : Nat) (munits : Nat) (mhonour : Nat) (mdraw : Nat) (mdies : Nat) (mcoin : Nat) (msonOf : Nat) (mkindOf : Nat) (mowner : Nat) (mfirst : Nat) (Fmfirst : Nat → Int32) (mlast : Nat) (Fmlast : Nat → Int32) (mrent : Nat) (msort : Nat) (mduelOne : Nat) (mduelOther : Nat) (mduelOn : Nat) (mruleFrom : Nat) (mruleTo : Nat) (mhasHonour : Nat) (mhasDraw : Nat) (mmName : Nat) (mkName : Nat) (mrName : Nat) (mdName : Nat) (mcode : Nat) (mcodeNumber : Nat) (meWhat : Nat) (meSign : Nat) (mpile : Nat) (mbank : Int32) (mrb : Int32) (mcodes : Int32) (mwithin : Int32) (mpiled : Int32) (munitsInRule : Int32) (maskDay : Int32) (maskUses : Int32) (maskSpent : Int32) (mall : Nat) (mwas : Nat) (macts : Int32) (mundone : Int32) (musedBy0 : Nat) (musedBy1 : Nat) (mmornings : Nat) (mcameFrom : Nat) (mcameBy : Nat) (mlevelAt : Nat) (mwins : Nat) (mslots : Nat) (mlevelOf : Nat) (mworthOf : Nat) (mstates : Int32) (mlevels : Int32) (mside0 : Int32) (mside1 : Int32) (mdeathDay : Int32) (maway : Int32) (mhires : Int32) (mhirer : Int32) (mslotFound : Int32) (misSpent : Int32) (mfound : Int32) (mlaid : Int32) (mlaidRow : Nat) (mgReason : Nat) (mgDay : Nat) (mgTold : Nat) (mgUntold : Nat) (msights : Int32) (mtime : Int32) (mboxAll : Nat) (misBoxed : Nat) (p0 : Int32) (p1 : Int32) (hh0 : 0 ≤ mtaped.toInt ∧ mtaped.toInt ≤ 1600) (hh1 : 0 ≤ msize.toInt ∧ msize.toInt ≤ 1600) (hh2 : 0 ≤ mat.toInt ∧ mat.toInt ≤ 1600) (hh3 : 0 ≤ mend.toInt ∧ mend.toInt ≤ 1600) (hh4 : 0 ≤ mtoken.toInt ∧ mtoken.toInt ≤ 5) (hh18 : 0 ≤ mbank.toInt ∧ mbank.toInt ≤ 1) (hh19 : 0 ≤ mrb.toInt ∧ mrb.toInt ≤ 1) (hh20 : 0 ≤ mcodes.toInt ∧ mcodes.toInt ≤ 1120) (hh21 : 0 ≤ mpiled.toInt ∧ mpiled.toInt ≤ 90) (hh22 : 0 ≤ munitsInRule.toInt ∧ munitsInRule.toInt ≤ 30) (hh25 : 0 ≤ macts.toInt ∧ macts.toInt ≤ 40) (hh26 : 0 ≤ mundone.toInt ∧ mundone.toInt ≤ 40) (hh34 : 0 ≤ mstates.toInt ∧ mstates.toInt ≤ 3000) (hh35 : 0 ≤ mlevels.toInt ∧ mlevels.toInt ≤ 18) (hh36 : 0 ≤ mside0.toInt ∧ mside0.toInt ≤ 5) (hh37 : 0 ≤ mside1.toInt ∧ mside1.toInt ≤ 5) (hh38 : 0 ≤ mslotFound.toInt ∧ mslotFound.toInt ≤ 8191) (hh39 : 0 ≤ misSpent.toInt ∧ misSpent.toInt ≤ 1) (hh40 : 0 ≤ mlaid.toInt ∧ mlaid.toInt ≤ 16) (hh41 : 0 ≤ msights.toInt ∧ msights.toInt ≤ 30) (hh42 : 0 ≤ mtime.toInt ∧ mtime.toInt ≤ 100000) (hh44 : 0 ≤ p0.toInt ∧ p0.toInt ≤ 7) : Met l yX12_isTime (.code yX12_isTime cX12_isTime 3 (some .boolean) :: gT) ({ frames := 1, cells := 0, slots := 0, locals := 22 }) (va_Pc [.ref h, .int p0, .int p1] (Pst g sz [(h, .inr (12, [.ref mtape, .ref mtext, .int mtaped, .int msize, .int mfaultKind, .int mfaultPlace, .int mat, .int mend, .int mtoken, .int mnumber, .long mname, .ref mmen, .ref mkinds, .ref mreasons, .ref mtold, .ref munits, .ref mhonour, .ref mdraw, .ref mdies, .ref mcoin, .ref msonOf, .ref mkindOf, .ref mowner, .ref mfirst, .ref mlast, .ref mrent, .ref msort, .ref mduelOne, .ref mduelOther, .ref mduelOn, .ref mruleFrom, .ref mruleTo, .ref mhasHonour, .ref mhasDraw, .ref mmName, .ref mkName, .ref mrName, .ref mdName, .ref mcode, .ref mcodeNumber, .ref meWhat, .ref meSign, .ref mpile, .int mbank, .int mrb, .int mcodes, .int mwithin, .int mpiled, .int munitsInRule, .int maskDay, .int maskUses, .int maskSpent, .ref mall, .ref mwas, .int macts, .int mundone, .ref musedBy0, .ref musedBy1, .ref mmornings, .ref mcameFrom, .ref mcameBy, .ref mlevelAt, .ref mwins, .ref mslots, .ref mlevelOf, .ref mworthOf, .int mstates, .int mlevels, .int mside0, .int mside1, .int mdeathDay, .int maway, .int mhires, .int mhirer, .int mslotFound, .int misSpent, .int mfound, .int mlaid, .ref mlaidRow, .ref mgReason, .ref mgDay, .ref mgTold, .ref mgUntold, .int msights, .int mtime, .ref mboxAll, .ref misBoxed])), (mfirst, aI g 16 Fmfirst), (mlast, aI g 16 Fmlast)] nX)) (va_Qi (fun (r : Int32) => fun (_ : Unit) => 0 ≤ r.toInt ∧ r.toInt ≤ 1) (Qst g [] sz (fun _ => [])) (va_A [] sz)) 0 0 (va_A [] sz) := by
  refine Met.ofW (cc := cX12_isTime) (maxL := 3) (ret := (some .boolean)) (by decide) rfl ?_
  intro p e s m args below meth c s₁ B hml hv
  obtain ⟨rfl, hsz, hP, hK, hD0, hX⟩ := hv
  have hx := B.exec
  have hb := B.bytes
  have hr := B.returns
  have hT : ∀ w ∈ gT, w.before _ s = true := fun w h => atoms_spec (ws := .code yX12_isTime cX12_isTime 3 (some .boolean) :: gT) B.pre w (List.mem_cons_of_mem _ h)
  have hown : s.vm.findClass RX12 = some m.cls := findClass_of_methodNamed B.named
  have hlocks := B.notSynchronized
  subst hsz
  have hD := hD0
  generalize hAe : va_A [] s.heap.size = A at ⊢
  have hA : ∀ q : Nat, s.heap.size ≤ q → A q := fun q h => by rw [← hAe]; exact Or.inr h
  have hS : va_S A s.heap s.heap [] := va_S.rf
  have hl := lv_entry ([.ref h, .int p0, .int p1]) (n := 3) (Nat.le_of_ble_eq_true rfl)
  rw [lg_entry_eq]
  generalize (lg_sl ([.ref h, .int p0, .int p1]) ++ List.replicate (3 - (lg_sl ([.ref h, .int p0, .int p1])).length) Slot.unset).toArray = ls at hl ⊢
  have hl : lv_has ls 3 [(0, .ref h), (1, .int p0), (2, .int p1)] := hl
  refine p_nH (fun H hH => ?_)
  have hP : va_P g.1 vwCl [(h, .inr (12, [.ref mtape, .ref mtext, .int mtaped, .int msize, .int mfaultKind, .int mfaultPlace, .int mat, .int mend, .int mtoken, .int mnumber, .long mname, .ref mmen, .ref mkinds, .ref mreasons, .ref mtold, .ref munits, .ref mhonour, .ref mdraw, .ref mdies, .ref mcoin, .ref msonOf, .ref mkindOf, .ref mowner, .ref mfirst, .ref mlast, .ref mrent, .ref msort, .ref mduelOne, .ref mduelOther, .ref mduelOn, .ref mruleFrom, .ref mruleTo, .ref mhasHonour, .ref mhasDraw, .ref mmName, .ref mkName, .ref mrName, .ref mdName, .ref mcode, .ref mcodeNumber, .ref meWhat, .ref meSign, .ref mpile, .int mbank, .int mrb, .int mcodes, .int mwithin, .int mpiled, .int munitsInRule, .int maskDay, .int maskUses, .int maskSpent, .ref mall, .ref mwas, .int macts, .int mundone, .ref musedBy0, .ref musedBy1, .ref mmornings, .ref mcameFrom, .ref mcameBy, .ref mlevelAt, .ref mwins, .ref mslots, .ref mlevelOf, .ref mworthOf, .int mstates, .int mlevels, .int mside0, .int mside1, .int mdeathDay, .int maway, .int mhires, .int mhirer, .int mslotFound, .int misSpent, .int mfound, .int mlaid, .ref mlaidRow, .ref mgReason, .ref mgDay, .ref mgTold, .ref mgUntold, .int msights, .int mtime, .ref mboxAll, .ref misBoxed])), (mfirst, aI g 16 Fmfirst), (mlast, aI g 16 Fmlast)] H := by rw [hH]; exact hP
  have hS : va_S A s.heap H [] := by rw [hH]; exact hS
  refine lv_iload_n hx hb dX12_isTime_0 rfl (lv_at hl 2 rfl) ?_
  refine lv_aload_n hx hb dX12_isTime_1 rfl (lv_at hl 0 rfl) ?_
  refine va_get (D := g.1) (ci := 12) (v := .ref mfirst) (C := RX12) (T := TX12) (N := 87) hx hb hT inF_X12 hown hK.1 hP 0 rfl rfl 23 (by decide) (hT _ bw_884) (fun _ h9 => h9) rfl dX12_isTime_2 ?_
  refine lv_bipush (v := 8) hx hb dX12_isTime_5 (by decide) ?_
  refine lv_aload_n hx hb dX12_isTime_7 rfl (lv_at hl 0 rfl) ?_
  refine va_get (D := g.1) (ci := 12) (v := .int mbank) (C := RX12) (T := TX12) (N := 87) hx hb hT inF_X12 hown hK.1 hP 0 rfl rfl 43 (by decide) (hT _ bw_825) (fun _ h9 => h9) rfl dX12_isTime_8 ?_
  refine lv_imul hx hb dX12_isTime_11 ?_
  refine lv_topi (fun x_1 ex_1 => ?_)
  have fx_1 : x_1.toInt = 8 * mbank.toInt := by rw [ex_1]; exact I_mul (by decide : (8 : Int32).toInt = 8) rfl (by omega) (by omega)
  refine lv_iload_n hx hb dX12_isTime_12 rfl (lv_at hl 1 rfl) ?_
  refine lv_iadd hx hb dX12_isTime_13 ?_
  refine lv_topi (fun x_2 ex_2 => ?_)
  have fx_2 : x_2.toInt = x_1.toInt + p0.toInt := by rw [ex_2]; exact I_add rfl rfl (by omega) (by omega)
  have h_3 : vp_in x_2 16 := vp_in_iff.mpr (by omega)
  refine va_iald hx hb hK.1 hP 1 1 rfl rfl (i := x_2) h_3 dX12_isTime_14 ?_
  refine lv_topi (fun x_4 ex_4 => ?_)
  have ux_4 := congrArg Int32.toInt ex_4
  refine lv_aload_n hx hb dX12_isTime_15 rfl (lv_at hl 0 rfl) ?_
  refine va_get (D := g.1) (ci := 12) (v := .ref mlast) (C := RX12) (T := TX12) (N := 87) hx hb hT inF_X12 hown hK.1 hP 0 rfl rfl 24 (by decide) (hT _ bw_885) (fun _ h9 => h9) rfl dX12_isTime_16 ?_
  refine lv_bipush (v := 8) hx hb dX12_isTime_19 (by decide) ?_
  refine lv_aload_n hx hb dX12_isTime_21 rfl (lv_at hl 0 rfl) ?_
  refine va_get (D := g.1) (ci := 12) (v := .int mbank) (C := RX12) (T := TX12) (N := 87) hx hb hT inF_X12 hown hK.1 hP 0 rfl rfl 43 (by decide) (hT _ bw_825) (fun _ h9 => h9) rfl dX12_isTime_22 ?_
  refine lv_imul hx hb dX12_isTime_25 ?_
  refine lv_topi (fun x_5 ex_5 => ?_)
  have fx_5 : x_5.toInt = 8 * mbank.toInt := by rw [ex_5]; exact I_mul (by decide : (8 : Int32).toInt = 8) rfl (by omega) (by omega)
  refine lv_iload_n hx hb dX12_isTime_26 rfl (lv_at hl 1 rfl) ?_
  refine lv_iadd hx hb dX12_isTime_27 ?_
  refine lv_topi (fun x_6 ex_6 => ?_)
  have fx_6 : x_6.toInt = x_5.toInt + p0.toInt := by rw [ex_6]; exact I_add rfl rfl (by omega) (by omega)
  have h_7 : vp_in x_6 16 := vp_in_iff.mpr (by omega)
  refine va_iald hx hb hK.1 hP 2 1 rfl rfl (i := x_6) h_7 dX12_isTime_28 ?_
  refine lv_topi (fun x_8 ex_8 => ?_)
  have ux_8 := congrArg Int32.toInt ex_8
  refine k_iR (k_S (n := 3) ⟨hx, hb, hml, hown, hT⟩ hK hP hD [] rfl (by decide +kernel) (s_X12_isIn l g H.size p1 x_4 x_8) (gS bw_826 bw_827 bw_828 bw_817) rfl rfl (by decide +kernel) ⟨by decide, by decide⟩ (fun _ _ _ _ _ => trivial) (fun _ _ _ => trivial) rfl rfl hl.1 (Nat.le_of_ble_eq_true rfl) dX12_isTime_29 ⟨by decide, by decide⟩) hP hS hA (fun r_9 _ H locs hw0 hP hS => ?_)
  have hw : (r_9 = 1 ∧ (x_4.toInt ≤ p1.toInt ∧ p1.toInt ≤ x_8.toInt)) ∨ (r_9 = 0 ∧ (p1.toInt < x_4.toInt ∨ x_8.toInt < p1.toInt)) := hw0
  clear hw0
  rcases hw with ⟨e_11, w_10⟩ | ⟨e_13, w_12⟩
  · subst e_11
    have hP9 : va_P g.1 vwCl [] H := hP.sub [] rfl
    have hD9 : va_D A [] := ⟨fun i j p q h => by simp at h, fun k q h => by simp at h⟩
    exact W.zret (v := 1) (ty := .boolean) hx hb hr rfl (fun t ht hW => ⟨⟨1, (), rfl, ⟨by decide, by decide⟩, by rw [ht]; exact hP9, by rw [hAe]; exact hD9⟩, hS.F ht⟩) hS.2.2 dX12_isTime_32
  · subst e_13
    have hP9 : va_P g.1 vwCl [] H := hP.sub [] rfl
    have hD9 : va_D A [] := ⟨fun i j p q h => by simp at h, fun k q h => by simp at h⟩
    exact W.zret (v := 0) (ty := .boolean) hx hb hr rfl (fun t ht hW => ⟨⟨0, (), rfl, ⟨by decide, by decide⟩, by rw [ht]; exact hP9, by rw [hAe]; exact hD9⟩, hS.F ht⟩) hS.2.2 dX12_isTime_32

theorem bw_887 : Cond.code yX12_elsewhere cX12_elsewhere 4 (some .int) ∈ gT := gT_tb 1834 (by decide +kernel) (by decide +kernel)
theorem dX12_elsewhere_0 : decode cX12_elsewhere 0 = .ok (.iconst 0, 1) := by decide +kernel
theorem dX12_elsewhere_1 : decode cX12_elsewhere 1 = .ok (.istore_n 2, 1) := by decide +kernel
theorem dX12_elsewhere_2 : decode cX12_elsewhere 2 = .ok (.iconst 0, 1) := by decide +kernel
theorem dX12_elsewhere_3 : decode cX12_elsewhere 3 = .ok (.istore_n 3, 1) := by decide +kernel
theorem dX12_elsewhere_4 : decode cX12_elsewhere 4 = .ok (.iload_n 3, 1) := by decide +kernel
theorem dX12_elsewhere_5 : decode cX12_elsewhere 5 = .ok (.aload_n 0, 1) := by decide +kernel
theorem dX12_elsewhere_6 : decode cX12_elsewhere 6 = .ok (.getfield 119, 3) := by decide +kernel
theorem dX12_elsewhere_9 : decode cX12_elsewhere 9 = .ok (.bipush 70, 2) := by decide +kernel
theorem dX12_elsewhere_11 : decode cX12_elsewhere 11 = .ok (.iaload, 1) := by decide +kernel
theorem dX12_elsewhere_12 : decode cX12_elsewhere 12 = .ok (.if_icmp .ge 31, 3) := by decide +kernel
theorem dX12_elsewhere_15 : decode cX12_elsewhere 15 = .ok (.iload_n 3, 1) := by decide +kernel
theorem dX12_elsewhere_16 : decode cX12_elsewhere 16 = .ok (.iload_n 1, 1) := by decide +kernel
theorem dX12_elsewhere_17 : decode cX12_elsewhere 17 = .ok (.if_icmp .eq 20, 3) := by decide +kernel
theorem dX12_elsewhere_20 : decode cX12_elsewhere 20 = .ok (.iload_n 2, 1) := by decide +kernel
theorem dX12_elsewhere_21 : decode cX12_elsewhere 21 = .ok (.aload_n 0, 1) := by decide +kernel
theorem dX12_elsewhere_22 : decode cX12_elsewhere 22 = .ok (.iload_n 3, 1) := by decide +kernel
theorem dX12_elsewhere_23 : decode cX12_elsewhere 23 = .ok (.iconst 5, 1) := by decide +kernel
theorem dX12_elsewhere_24 : decode cX12_elsewhere 24 = .ok (.invokevirtual 418, 3) := by decide +kernel
theorem dX12_elsewhere_27 : decode cX12_elsewhere 27 = .ok (.aload_n 0, 1) := by decide +kernel
theorem dX12_elsewhere_28 : decode cX12_elsewhere 28 = .ok (.iload_n 3, 1) := by decide +kernel
theorem dX12_elsewhere_29 : decode cX12_elsewhere 29 = .ok (.bipush 6, 2) := by decide +kernel
theorem dX12_elsewhere_31 : decode cX12_elsewhere 31 = .ok (.invokevirtual 418, 3) := by decide +kernel
theorem dX12_elsewhere_34 : decode cX12_elsewhere 34 = .ok (.ior, 1) := by decide +kernel
theorem dX12_elsewhere_35 : decode cX12_elsewhere 35 = .ok (.ior, 1) := by decide +kernel
theorem dX12_elsewhere_36 : decode cX12_elsewhere 36 = .ok (.istore_n 2, 1) := by decide +kernel
theorem dX12_elsewhere_37 : decode cX12_elsewhere 37 = .ok (.iinc 3 1, 3) := by decide +kernel
theorem dX12_elsewhere_40 : decode cX12_elsewhere 40 = .ok (.goto (-36), 3) := by decide +kernel
theorem dX12_elsewhere_43 : decode cX12_elsewhere 43 = .ok (.iload_n 2, 1) := by decide +kernel
theorem dX12_elsewhere_44 : decode cX12_elsewhere 44 = .ok (.ireturn, 1) := by decide +kernel
set_option maxHeartbeats 40000000 in
set_option maxRecDepth 100000 in
theorem s_X12_elsewhere (l : Launch) (g : GG) (sz : Nat) (h : Nat) (mtape : Nat) (mtext : Nat) (mtaped : Int32) (msize : Int32) (mfaultKind : Int32) (mfaultPlace : Int32) (mat : Int32) (mend : Int32) (mtoken : Int32) (mnumber : Int32) (mname : Int64) (mmen : Nat) (mkinds : Nat) (mreasons : Nat) (mtold : Nat) (munits : Nat) (mhonour : Nat) (mdraw : Nat) (mdies : Nat) (mcoin : Nat) (msonOf : Nat) (mkindOf : Nat) (mowner : Nat) (mfirst : Nat) (mlast : Nat) (mrent : Nat) (msort : Nat) (mduelOne : Nat) (mduelOther : Nat) (mduelOn : Nat) (mruleFrom : Nat) (mruleTo : Nat) (mhasHonour : Nat) (mhasDraw : Nat) (mmName : Nat) (mkName : Nat) (mrName : Nat) (mdName : Nat) (mcode : Nat) (mcodeNumber : Nat) (meWhat : Nat) (meSign : Nat) (mpile : Nat) (mbank : Int32) (mrb : Int32) (mcodes : Int32) (mwithin : Int32) (mpiled : Int32) (munitsInRule : Int32) (maskDay : Int32) (maskUses : Int32) (maskSpent : Int32) (mall : Nat) (Fmall : Nat → Int32) (mwas : Nat) (macts : Int32) (mundone : Int32) (musedBy0 : Nat) (musedBy1 : Nat) (mmornings : Nat) (mcameFrom : Nat) (mcameBy : Nat) (mlevelAt : Nat) (mwins : Nat) (mslots : Nat) (mlevelOf : Nat) (mworthOf : Nat) (mstates : Int32) (mlevels : Int32) (mside0 : Int32) (mside1 : Int32) (mdeathDay : Int32) (maway : Int32) (mhires : Int32) (mhirer : Int32) (mslotFound : Int32) (misSpent : Int32) (mfound : Int32) (mlaid : Int32) (mlaidRow : Nat) (mgReason : Nat) (mgDay : Nat) (mgTold : Nat) (mgUntold : Nat) (msights : Int32) (mtime : Int32) (mboxAll : Nat) (misBoxed : Nat) (p0 : Int32) (hh0 : 0 ≤ mtaped.toInt ∧ mtaped.toInt ≤ 1600) (hh1 : 0 ≤ msize.toInt ∧ msize.toInt ≤ 1600) (hh2 : 0 ≤ mat.toInt ∧ mat.toInt ≤ 1600) (hh3 : 0 ≤ mend.toInt ∧ mend.toInt ≤ 1600) (hh4 : 0 ≤ mtoken.toInt ∧ mtoken.toInt ≤ 5) (hh18 : 0 ≤ mbank.toInt ∧ mbank.toInt ≤ 1) (hh19 : 0 ≤ mrb.toInt ∧ mrb.toInt ≤ 1) (hh20 : 0 ≤ mcodes.toInt ∧ mcodes.toInt ≤ 1120) (hh21 : 0 ≤ mpiled.toInt ∧ mpiled.toInt ≤ 90) (hh22 : 0 ≤ munitsInRule.toInt ∧ munitsInRule.toInt ≤ 30) (hh23 : Ia Fmall) (hh25 : 0 ≤ macts.toInt ∧ macts.toInt ≤ 40) (hh26 : 0 ≤ mundone.toInt ∧ mundone.toInt ≤ 40) (hh34 : 0 ≤ mstates.toInt ∧ mstates.toInt ≤ 3000) (hh35 : 0 ≤ mlevels.toInt ∧ mlevels.toInt ≤ 18) (hh36 : 0 ≤ mside0.toInt ∧ mside0.toInt ≤ 5) (hh37 : 0 ≤ mside1.toInt ∧ mside1.toInt ≤ 5) (hh38 : 0 ≤ mslotFound.toInt ∧ mslotFound.toInt ≤ 8191) (hh39 : 0 ≤ misSpent.toInt ∧ misSpent.toInt ≤ 1) (hh40 : 0 ≤ mlaid.toInt ∧ mlaid.toInt ≤ 16) (hh41 : 0 ≤ msights.toInt ∧ msights.toInt ≤ 30) (hh42 : 0 ≤ mtime.toInt ∧ mtime.toInt ≤ 100000) : Met l yX12_elsewhere (.code yX12_elsewhere cX12_elsewhere 4 (some .int) :: gT) ({ frames := 1, cells := 0, slots := 0, locals := 22 }) (va_Pc [.ref h, .int p0] (Pst g sz [(h, .inr (12, [.ref mtape, .ref mtext, .int mtaped, .int msize, .int mfaultKind, .int mfaultPlace, .int mat, .int mend, .int mtoken, .int mnumber, .long mname, .ref mmen, .ref mkinds, .ref mreasons, .ref mtold, .ref munits, .ref mhonour, .ref mdraw, .ref mdies, .ref mcoin, .ref msonOf, .ref mkindOf, .ref mowner, .ref mfirst, .ref mlast, .ref mrent, .ref msort, .ref mduelOne, .ref mduelOther, .ref mduelOn, .ref mruleFrom, .ref mruleTo, .ref mhasHonour, .ref mhasDraw, .ref mmName, .ref mkName, .ref mrName, .ref mdName, .ref mcode, .ref mcodeNumber, .ref meWhat, .ref meSign, .ref mpile, .int mbank, .int mrb, .int mcodes, .int mwithin, .int mpiled, .int munitsInRule, .int maskDay, .int maskUses, .int maskSpent, .ref mall, .ref mwas, .int macts, .int mundone, .ref musedBy0, .ref musedBy1, .ref mmornings, .ref mcameFrom, .ref mcameBy, .ref mlevelAt, .ref mwins, .ref mslots, .ref mlevelOf, .ref mworthOf, .int mstates, .int mlevels, .int mside0, .int mside1, .int mdeathDay, .int maway, .int mhires, .int mhirer, .int mslotFound, .int misSpent, .int mfound, .int mlaid, .ref mlaidRow, .ref mgReason, .ref mgDay, .ref mgTold, .ref mgUntold, .int msights, .int mtime, .ref mboxAll, .ref misBoxed])), (mall, aI g 374 Fmall)] nX)) (va_Qi (fun (r : Int32) => fun (_ : Unit) => 0 ≤ r.toInt ∧ r.toInt ≤ 255) (Qst g [] sz (fun _ => [])) (va_A [] sz)) 0 0 (va_A [] sz) := by
  refine Met.ofW (cc := cX12_elsewhere) (maxL := 4) (ret := (some .int)) (by decide) rfl ?_
  intro p e s m args below meth c s₁ B hml hv
  obtain ⟨rfl, hsz, hP, hK, hD0, hX⟩ := hv
  have hx := B.exec
  have hb := B.bytes
  have hr := B.returns
  have hT : ∀ w ∈ gT, w.before _ s = true := fun w h => atoms_spec (ws := .code yX12_elsewhere cX12_elsewhere 4 (some .int) :: gT) B.pre w (List.mem_cons_of_mem _ h)
  have hown : s.vm.findClass RX12 = some m.cls := findClass_of_methodNamed B.named
  have hlocks := B.notSynchronized
  subst hsz
  have hD := hD0
  generalize hAe : va_A [] s.heap.size = A at ⊢
  have hA : ∀ q : Nat, s.heap.size ≤ q → A q := fun q h => by rw [← hAe]; exact Or.inr h
  have hS : va_S A s.heap s.heap [] := va_S.rf
  have hl := lv_entry ([.ref h, .int p0]) (n := 4) (Nat.le_of_ble_eq_true rfl)
  rw [lg_entry_eq]
  generalize (lg_sl ([.ref h, .int p0]) ++ List.replicate (4 - (lg_sl ([.ref h, .int p0])).length) Slot.unset).toArray = ls at hl ⊢
  have hl : lv_has ls 4 [(0, .ref h), (1, .int p0)] := hl
  refine p_nH (fun H hH => ?_)
  have hP : va_P g.1 vwCl [(h, .inr (12, [.ref mtape, .ref mtext, .int mtaped, .int msize, .int mfaultKind, .int mfaultPlace, .int mat, .int mend, .int mtoken, .int mnumber, .long mname, .ref mmen, .ref mkinds, .ref mreasons, .ref mtold, .ref munits, .ref mhonour, .ref mdraw, .ref mdies, .ref mcoin, .ref msonOf, .ref mkindOf, .ref mowner, .ref mfirst, .ref mlast, .ref mrent, .ref msort, .ref mduelOne, .ref mduelOther, .ref mduelOn, .ref mruleFrom, .ref mruleTo, .ref mhasHonour, .ref mhasDraw, .ref mmName, .ref mkName, .ref mrName, .ref mdName, .ref mcode, .ref mcodeNumber, .ref meWhat, .ref meSign, .ref mpile, .int mbank, .int mrb, .int mcodes, .int mwithin, .int mpiled, .int munitsInRule, .int maskDay, .int maskUses, .int maskSpent, .ref mall, .ref mwas, .int macts, .int mundone, .ref musedBy0, .ref musedBy1, .ref mmornings, .ref mcameFrom, .ref mcameBy, .ref mlevelAt, .ref mwins, .ref mslots, .ref mlevelOf, .ref mworthOf, .int mstates, .int mlevels, .int mside0, .int mside1, .int mdeathDay, .int maway, .int mhires, .int mhirer, .int mslotFound, .int misSpent, .int mfound, .int mlaid, .ref mlaidRow, .ref mgReason, .ref mgDay, .ref mgTold, .ref mgUntold, .int msights, .int mtime, .ref mboxAll, .ref misBoxed])), (mall, aI g 374 Fmall)] H := by rw [hH]; exact hP
  have hS : va_S A s.heap H [] := by rw [hH]; exact hS
  refine lv_iconst (v := 0) hx hb dX12_elsewhere_0 (by decide) ?_
  refine lv_istore_n (lv' := [(2, .int 0), (0, .ref h), (1, .int p0)]) hx hb dX12_elsewhere_1 rfl hl (by decide) rfl (fun ls hl => ?_)
  refine lv_iconst (v := 0) hx hb dX12_elsewhere_2 (by decide) ?_
  refine lv_istore_n (lv' := [(3, .int 0), (2, .int 0), (0, .ref h), (1, .int p0)]) hx hb dX12_elsewhere_3 rfl hl (by decide) rfl (fun ls hl => ?_)
  refine k_floop 4 (fun n H locs ls => ∃ (L_1 : Int32) (L_2 : Int32), (0 ≤ L_1.toInt ∧ L_1.toInt ≤ 8) ∧ (0 ≤ L_2.toInt ∧ L_2.toInt ≤ 255) ∧ 8 - L_1.toInt ≤ (n : Int) ∧ va_P g.1 vwCl [(h, .inr (12, [.ref mtape, .ref mtext, .int mtaped, .int msize, .int mfaultKind, .int mfaultPlace, .int mat, .int mend, .int mtoken, .int mnumber, .long mname, .ref mmen, .ref mkinds, .ref mreasons, .ref mtold, .ref munits, .ref mhonour, .ref mdraw, .ref mdies, .ref mcoin, .ref msonOf, .ref mkindOf, .ref mowner, .ref mfirst, .ref mlast, .ref mrent, .ref msort, .ref mduelOne, .ref mduelOther, .ref mduelOn, .ref mruleFrom, .ref mruleTo, .ref mhasHonour, .ref mhasDraw, .ref mmName, .ref mkName, .ref mrName, .ref mdName, .ref mcode, .ref mcodeNumber, .ref meWhat, .ref meSign, .ref mpile, .int mbank, .int mrb, .int mcodes, .int mwithin, .int mpiled, .int munitsInRule, .int maskDay, .int maskUses, .int maskSpent, .ref mall, .ref mwas, .int macts, .int mundone, .ref musedBy0, .ref musedBy1, .ref mmornings, .ref mcameFrom, .ref mcameBy, .ref mlevelAt, .ref mwins, .ref mslots, .ref mlevelOf, .ref mworthOf, .int mstates, .int mlevels, .int mside0, .int mside1, .int mdeathDay, .int maway, .int mhires, .int mhirer, .int mslotFound, .int misSpent, .int mfound, .int mlaid, .ref mlaidRow, .ref mgReason, .ref mgDay, .ref mgTold, .ref mgUntold, .int msights, .int mtime, .ref mboxAll, .ref misBoxed])), (mall, aI g 374 Fmall)] H ∧ va_S A s.heap H locs ∧ lv_has ls 4 [(3, .int L_1), (2, .int L_2), (0, .ref h), (1, .int p0)]) (fun n H locs ls hI ih => ?_) ((8 - 0 : Int)).toNat ⟨0, 0, by decide, by decide, by have k0 : (0 : Int32).toInt = 0 := (by decide); omega, hP, hS, hl⟩
  refine hI.elim (fun L_1 hI => hI.elim (fun L_2 hI => ?_))
  have g_3 := hI.1
  have g_4 := hI.2.1
  have hm_5 := hI.2.2.1
  have hP := hI.2.2.2.1
  have hS := hI.2.2.2.2.1
  have hl := hI.2.2.2.2.2
  clear hI
  refine lv_iload_n hx hb dX12_elsewhere_4 rfl (lv_at hl 0 rfl) ?_
  refine lv_aload_n hx hb dX12_elsewhere_5 rfl (lv_at hl 2 rfl) ?_
  refine va_get (D := g.1) (ci := 12) (v := .ref mall) (C := RX12) (T := TX12) (N := 87) hx hb hT inF_X12 hown hK.1 hP 0 rfl rfl 52 (by decide) (hT _ bw_832) (fun _ h9 => h9) rfl dX12_elsewhere_6 ?_
  refine lv_bipush (v := 70) hx hb dX12_elsewhere_9 (by decide) ?_
  have h_6 : vp_in 70 374 := vp_in_iff.mpr (by decide)
  refine va_iald hx hb hK.1 hP 1 1 rfl rfl (i := 70) h_6 dX12_elsewhere_11 ?_
  refine lv_topi (fun x_7 ex_7 => ?_)
  have cn_8 : (70 : Int32).toNatClampNeg = 70 := by decide
  have ux_7 := congrArg Int32.toInt ex_7
  have px_7 : In ((70 : Int32).toNatClampNeg % 374) x_7.toInt := Im.rd hh23 h_6 ex_7
  have fx_7 : 0 ≤ x_7.toInt ∧ x_7.toInt ≤ 8 := px_7.1 (by omega)
  refine lv_icmp_ge (tgt := 43) hx hb dX12_elsewhere_12 (by decide) (fun c_9 => ?_) (fun c_9 => ?_)
  · have f_10 := E_le (rfl : x_7.toInt = _) (rfl : L_1.toInt = _) c_9
    refine lv_iload_n hx hb dX12_elsewhere_43 rfl (lv_at hl 1 rfl) ?_
    have hP9 : va_P g.1 vwCl [] H := hP.sub [] rfl
    have hD9 : va_D A [] := ⟨fun i j p q h => by simp at h, fun k q h => by simp at h⟩
    exact W.iret (v := L_2) hx hb hr (fun t ht hW => ⟨⟨L_2, (), rfl, (by first | with_reducible assumption | omega), by rw [ht]; exact hP9, by rw [hAe]; exact hD9⟩, hS.F ht⟩) hS.2.2 dX12_elsewhere_44
  · have f_11 := E_nle (rfl : x_7.toInt = _) (rfl : L_1.toInt = _) c_9
    refine lv_iload_n hx hb dX12_elsewhere_15 rfl (lv_at hl 0 rfl) ?_
    refine lv_iload_n hx hb dX12_elsewhere_16 rfl (lv_at hl 3 rfl) ?_
    refine lv_icmp_eq (tgt := 37) hx hb dX12_elsewhere_17 (by decide) (fun c_12 => ?_) (fun c_12 => ?_)
    · have f_13 := E_eq (rfl : L_1.toInt = _) (rfl : p0.toInt = _) c_12
      obtain ⟨x_14, ex_14⟩ : ∃ y : Int32, y = L_1 + 1 := ⟨_, rfl⟩
      have fx_14 : x_14.toInt = L_1.toInt + 1 := by rw [ex_14]; exact I_add rfl (by decide) (by omega) (by omega)
      refine lv_iinc (v := x_14) (lv' := [(3, .int x_14), (2, .int L_2), (0, .ref h), (1, .int p0)]) hx hb dX12_elsewhere_37 hl (k := 0) rfl (by rw [ex_14]; rfl) (by decide) rfl (fun ls hl => ?_)
      refine lv_goto (tgt := 4) hx hb dX12_elsewhere_40 (by decide) ?_
      exact ih (n - 1) (by omega) H locs ls ⟨x_14, L_2, (by first | with_reducible assumption | omega), (by first | with_reducible assumption | omega), by omega, hP.sub [0, 1] rfl, hS, lv_sub hl [0, 1, 2, 3] rfl⟩
    · have f_15 := E_ne (rfl : L_1.toInt = _) (rfl : p0.toInt = _) c_12
      refine lv_iload_n hx hb dX12_elsewhere_20 rfl (lv_at hl 1 rfl) ?_
      refine lv_aload_n hx hb dX12_elsewhere_21 rfl (lv_at hl 2 rfl) ?_
      refine lv_iload_n hx hb dX12_elsewhere_22 rfl (lv_at hl 0 rfl) ?_
      refine lv_iconst (v := 5) hx hb dX12_elsewhere_23 (by decide) ?_
      refine k_iR (k_V (n := 2) ⟨hx, hb, hml, hown, hT⟩ hK hP hD [0, 1] rfl (by decide +kernel) (s_X12_of_5 l g H.size h mtape mtext mtaped msize mfaultKind mfaultPlace mat mend mtoken mnumber mname mmen mkinds mreasons mtold munits mhonour mdraw mdies mcoin msonOf mkindOf mowner mfirst mlast mrent msort mduelOne mduelOther mduelOn mruleFrom mruleTo mhasHonour mhasDraw mmName mkName mrName mdName mcode mcodeNumber meWhat meSign mpile mbank mrb mcodes mwithin mpiled munitsInRule maskDay maskUses maskSpent mall Fmall mwas macts mundone musedBy0 musedBy1 mmornings mcameFrom mcameBy mlevelAt mwins mslots mlevelOf mworthOf mstates mlevels mside0 mside1 mdeathDay maway mhires mhirer mslotFound misSpent mfound mlaid mlaidRow mgReason mgDay mgTold mgUntold msights mtime mboxAll misBoxed L_1 (by first | with_reducible assumption | omega) (by first | with_reducible assumption | omega) (by first | with_reducible assumption | omega) (by first | with_reducible assumption | omega) (by first | with_reducible assumption | omega) (by first | with_reducible assumption | omega) (by first | with_reducible assumption | omega) (by first | with_reducible assumption | omega) (by first | with_reducible assumption | omega) (by first | with_reducible assumption | omega) hh23 (by first | with_reducible assumption | omega) (by first | with_reducible assumption | omega) (by first | with_reducible assumption | omega) (by first | with_reducible assumption | omega) (by first | with_reducible assumption | omega) (by first | with_reducible assumption | omega) (by first | with_reducible assumption | omega) (by first | with_reducible assumption | omega) (by first | with_reducible assumption | omega) (by first | with_reducible assumption | omega) (by first | with_reducible assumption | omega) (by first | with_reducible assumption | omega)) (gV bw_841 bw_842 bw_843 bw_840 bw_836) rfl rfl (by decide +kernel) ⟨by decide, by decide⟩ (ci := 12) (q0 := 0) rfl rfl (fun _ _ _ _ _ => trivial) (fun _ _ _ => trivial) rfl rfl hl.1 (Nat.le_of_ble_eq_true rfl) dX12_elsewhere_24 ⟨by decide, by decide⟩) hP hS hA (fun r_16 _ H locs hw0 hP hS => ?_)
      have hw : 0 ≤ r_16.toInt ∧ r_16.toInt ≤ 255 := hw0
      clear hw0
      have w_17 := hw
      refine lv_aload_n hx hb dX12_elsewhere_27 rfl (lv_at hl 2 rfl) ?_
      refine lv_iload_n hx hb dX12_elsewhere_28 rfl (lv_at hl 0 rfl) ?_
      refine lv_bipush (v := 6) hx hb dX12_elsewhere_29 (by decide) ?_
      refine k_iR (k_V (n := 2) ⟨hx, hb, hml, hown, hT⟩ hK hP hD [0, 1] rfl (by decide +kernel) (s_X12_of_6 l g H.size h mtape mtext mtaped msize mfaultKind mfaultPlace mat mend mtoken mnumber mname mmen mkinds mreasons mtold munits mhonour mdraw mdies mcoin msonOf mkindOf mowner mfirst mlast mrent msort mduelOne mduelOther mduelOn mruleFrom mruleTo mhasHonour mhasDraw mmName mkName mrName mdName mcode mcodeNumber meWhat meSign mpile mbank mrb mcodes mwithin mpiled munitsInRule maskDay maskUses maskSpent mall Fmall mwas macts mundone musedBy0 musedBy1 mmornings mcameFrom mcameBy mlevelAt mwins mslots mlevelOf mworthOf mstates mlevels mside0 mside1 mdeathDay maway mhires mhirer mslotFound misSpent mfound mlaid mlaidRow mgReason mgDay mgTold mgUntold msights mtime mboxAll misBoxed L_1 (by first | with_reducible assumption | omega) (by first | with_reducible assumption | omega) (by first | with_reducible assumption | omega) (by first | with_reducible assumption | omega) (by first | with_reducible assumption | omega) (by first | with_reducible assumption | omega) (by first | with_reducible assumption | omega) (by first | with_reducible assumption | omega) (by first | with_reducible assumption | omega) (by first | with_reducible assumption | omega) hh23 (by first | with_reducible assumption | omega) (by first | with_reducible assumption | omega) (by first | with_reducible assumption | omega) (by first | with_reducible assumption | omega) (by first | with_reducible assumption | omega) (by first | with_reducible assumption | omega) (by first | with_reducible assumption | omega) (by first | with_reducible assumption | omega) (by first | with_reducible assumption | omega) (by first | with_reducible assumption | omega) (by first | with_reducible assumption | omega) (by first | with_reducible assumption | omega)) (gV bw_841 bw_842 bw_843 bw_840 bw_836) rfl rfl (by decide +kernel) ⟨by decide, by decide⟩ (ci := 12) (q0 := 0) rfl rfl (fun _ _ _ _ _ => trivial) (fun _ _ _ => trivial) rfl rfl hl.1 (Nat.le_of_ble_eq_true rfl) dX12_elsewhere_31 ⟨by decide, by decide⟩) hP hS hA (fun r_18 _ H locs hw0 hP hS => ?_)
      have hw : 0 ≤ r_18.toInt ∧ r_18.toInt ≤ 255 := hw0
      clear hw0
      have w_19 := hw
      refine lv_ior hx hb dX12_elsewhere_34 ?_
      refine lv_topi (fun x_20 ex_20 => ?_)
      have fx_20 : 0 ≤ x_20.toInt ∧ x_20.toInt < 256 := by rw [ex_20]; exact I_or 8 256 (by decide) (by decide) rfl rfl (by omega) (by omega)
      refine lv_ior hx hb dX12_elsewhere_35 ?_
      refine lv_topi (fun x_21 ex_21 => ?_)
      have fx_21 : 0 ≤ x_21.toInt ∧ x_21.toInt < 256 := by rw [ex_21]; exact I_or 8 256 (by decide) (by decide) rfl rfl (by omega) (by omega)
      refine lv_istore_n (lv' := [(2, .int x_21), (3, .int L_1), (0, .ref h), (1, .int p0)]) hx hb dX12_elsewhere_36 rfl hl (by decide) rfl (fun ls hl => ?_)
      obtain ⟨x_22, ex_22⟩ : ∃ y : Int32, y = L_1 + 1 := ⟨_, rfl⟩
      have fx_22 : x_22.toInt = L_1.toInt + 1 := by rw [ex_22]; exact I_add rfl (by decide) (by omega) (by omega)
      refine lv_iinc (v := x_22) (lv' := [(3, .int x_22), (2, .int x_21), (0, .ref h), (1, .int p0)]) hx hb dX12_elsewhere_37 hl (k := 1) rfl (by rw [ex_22]; rfl) (by decide) rfl (fun ls hl => ?_)
      refine lv_goto (tgt := 4) hx hb dX12_elsewhere_40 (by decide) ?_
      exact ih (n - 1) (by omega) H locs ls ⟨x_22, x_21, (by first | with_reducible assumption | omega), (by first | with_reducible assumption | omega), by omega, hP.sub [0, 1] rfl, hS, lv_sub hl [0, 1, 2, 3] rfl⟩

theorem bw_888 : Cond.methodLink RX12 461 yX12_isOpen ∈ gT := gT_tb 1815 (by decide +kernel) (by decide +kernel)
theorem bw_889 : Cond.instanceMethod yX12_isOpen ∈ gT := gT_tb 1817 (by decide +kernel) (by decide +kernel)
theorem bw_890 : Cond.selects RX12 yX12_isOpen yX12_isOpen ∈ gT := gT_sl 96 (by decide +kernel) (by decide +kernel)
theorem bw_891 : Cond.methodLink RX12 452 yX12_isStruck ∈ gT := gT_tb 1781 (by decide +kernel) (by decide +kernel)
theorem bw_892 : Cond.instanceMethod yX12_isStruck ∈ gT := gT_tb 1783 (by decide +kernel) (by decide +kernel)
theorem bw_893 : Cond.selects RX12 yX12_isStruck yX12_isStruck ∈ gT := gT_sl 91 (by decide +kernel) (by decide +kernel)
theorem bw_894 : Cond.methodLink RX12 464 yX12_isTime ∈ gT := gT_tb 1819 (by decide +kernel) (by decide +kernel)
theorem bw_895 : Cond.instanceMethod yX12_isTime ∈ gT := gT_tb 1821 (by decide +kernel) (by decide +kernel)
theorem bw_896 : Cond.selects RX12 yX12_isTime yX12_isTime ∈ gT := gT_sl 97 (by decide +kernel) (by decide +kernel)
theorem bw_897 : Cond.methodLink RX12 467 yX12_isHis ∈ gT := gT_tb 1827 (by decide +kernel) (by decide +kernel)
theorem bw_898 : Cond.instanceMethod yX12_isHis ∈ gT := gT_tb 1829 (by decide +kernel) (by decide +kernel)
theorem bw_899 : Cond.selects RX12 yX12_isHis yX12_isHis ∈ gT := gT_sl 99 (by decide +kernel) (by decide +kernel)
theorem bw_900 : Cond.methodLink RX12 471 yX12_elsewhere ∈ gT := gT_tb 1831 (by decide +kernel) (by decide +kernel)
theorem bw_901 : Cond.instanceMethod yX12_elsewhere ∈ gT := gT_tb 1833 (by decide +kernel) (by decide +kernel)
theorem bw_902 : Cond.selects RX12 yX12_elsewhere yX12_elsewhere ∈ gT := gT_sl 100 (by decide +kernel) (by decide +kernel)
theorem bw_903 : Cond.methodLink RX12 474 yX12_isNew ∈ gT := gT_tb 1835 (by decide +kernel) (by decide +kernel)
theorem bw_904 : Cond.instanceMethod yX12_isNew ∈ gT := gT_tb 1837 (by decide +kernel) (by decide +kernel)
theorem bw_905 : Cond.selects RX12 yX12_isNew yX12_isNew ∈ gT := gT_sl 101 (by decide +kernel) (by decide +kernel)
theorem bw_906 : Cond.methodLink RX12 440 yX12_isAlive ∈ gT := gT_tb 1750 (by decide +kernel) (by decide +kernel)
theorem bw_907 : Cond.instanceMethod yX12_isAlive ∈ gT := gT_tb 1752 (by decide +kernel) (by decide +kernel)
theorem bw_908 : Cond.selects RX12 yX12_isAlive yX12_isAlive ∈ gT := gT_sl 86 (by decide +kernel) (by decide +kernel)
theorem bw_909 : Cond.code yX12_mayToday cX12_mayToday 5 (some .boolean) ∈ gT := gT_tb 1814 (by decide +kernel) (by decide +kernel)
theorem dX12_mayToday_0 : decode cX12_mayToday 0 = .ok (.aload_n 0, 1) := by decide +kernel
theorem dX12_mayToday_1 : decode cX12_mayToday 1 = .ok (.iload_n 1, 1) := by decide +kernel
theorem dX12_mayToday_2 : decode cX12_mayToday 2 = .ok (.invokevirtual 461, 3) := by decide +kernel
theorem dX12_mayToday_5 : decode cX12_mayToday 5 = .ok (.ifCond .eq 42, 3) := by decide +kernel
theorem dX12_mayToday_8 : decode cX12_mayToday 8 = .ok (.aload_n 0, 1) := by decide +kernel
theorem dX12_mayToday_9 : decode cX12_mayToday 9 = .ok (.getfield 119, 3) := by decide +kernel
theorem dX12_mayToday_12 : decode cX12_mayToday 12 = .ok (.bipush 72, 2) := by decide +kernel
theorem dX12_mayToday_14 : decode cX12_mayToday 14 = .ok (.iaload, 1) := by decide +kernel
theorem dX12_mayToday_15 : decode cX12_mayToday 15 = .ok (.aload_n 0, 1) := by decide +kernel
theorem dX12_mayToday_16 : decode cX12_mayToday 16 = .ok (.iload_n 1, 1) := by decide +kernel
theorem dX12_mayToday_17 : decode cX12_mayToday 17 = .ok (.iconst 2, 1) := by decide +kernel
theorem dX12_mayToday_18 : decode cX12_mayToday 18 = .ok (.invokevirtual 418, 3) := by decide +kernel
theorem dX12_mayToday_21 : decode cX12_mayToday 21 = .ok (.if_icmp .gt 26, 3) := by decide +kernel
theorem dX12_mayToday_24 : decode cX12_mayToday 24 = .ok (.aload_n 0, 1) := by decide +kernel
theorem dX12_mayToday_25 : decode cX12_mayToday 25 = .ok (.iload_n 3, 1) := by decide +kernel
theorem dX12_mayToday_26 : decode cX12_mayToday 26 = .ok (.invokevirtual 452, 3) := by decide +kernel
theorem dX12_mayToday_29 : decode cX12_mayToday 29 = .ok (.ifCond .ne 18, 3) := by decide +kernel
theorem dX12_mayToday_32 : decode cX12_mayToday 32 = .ok (.aload_n 0, 1) := by decide +kernel
theorem dX12_mayToday_33 : decode cX12_mayToday 33 = .ok (.iload_n 3, 1) := by decide +kernel
theorem dX12_mayToday_34 : decode cX12_mayToday 34 = .ok (.aload_n 0, 1) := by decide +kernel
theorem dX12_mayToday_35 : decode cX12_mayToday 35 = .ok (.getfield 119, 3) := by decide +kernel
theorem dX12_mayToday_38 : decode cX12_mayToday 38 = .ok (.bipush 72, 2) := by decide +kernel
theorem dX12_mayToday_40 : decode cX12_mayToday 40 = .ok (.iaload, 1) := by decide +kernel
theorem dX12_mayToday_41 : decode cX12_mayToday 41 = .ok (.invokevirtual 464, 3) := by decide +kernel
theorem dX12_mayToday_44 : decode cX12_mayToday 44 = .ok (.ifCond .ne 5, 3) := by decide +kernel
theorem dX12_mayToday_47 : decode cX12_mayToday 47 = .ok (.iconst 0, 1) := by decide +kernel
theorem dX12_mayToday_48 : decode cX12_mayToday 48 = .ok (.ireturn, 1) := by decide +kernel
theorem dX12_mayToday_49 : decode cX12_mayToday 49 = .ok (.aload_n 0, 1) := by decide +kernel
theorem dX12_mayToday_50 : decode cX12_mayToday 50 = .ok (.iload_n 3, 1) := by decide +kernel
theorem dX12_mayToday_51 : decode cX12_mayToday 51 = .ok (.invokevirtual 458, 3) := by decide +kernel
theorem dX12_mayToday_54 : decode cX12_mayToday 54 = .ok (.ifCond .lt 19, 3) := by decide +kernel
theorem dX12_mayToday_57 : decode cX12_mayToday 57 = .ok (.aload_n 0, 1) := by decide +kernel
theorem dX12_mayToday_58 : decode cX12_mayToday 58 = .ok (.aload_n 0, 1) := by decide +kernel
theorem dX12_mayToday_59 : decode cX12_mayToday 59 = .ok (.iload_n 3, 1) := by decide +kernel
theorem dX12_mayToday_60 : decode cX12_mayToday 60 = .ok (.invokevirtual 458, 3) := by decide +kernel
theorem dX12_mayToday_63 : decode cX12_mayToday 63 = .ok (.invokevirtual 440, 3) := by decide +kernel
theorem dX12_mayToday_66 : decode cX12_mayToday 66 = .ok (.ifCond .eq 7, 3) := by decide +kernel
theorem dX12_mayToday_69 : decode cX12_mayToday 69 = .ok (.iconst 1, 1) := by decide +kernel
theorem dX12_mayToday_70 : decode cX12_mayToday 70 = .ok (.goto 4, 3) := by decide +kernel
theorem dX12_mayToday_73 : decode cX12_mayToday 73 = .ok (.iconst 0, 1) := by decide +kernel
theorem dX12_mayToday_74 : decode cX12_mayToday 74 = .ok (.istore 4, 2) := by decide +kernel
theorem dX12_mayToday_76 : decode cX12_mayToday 76 = .ok (.aload_n 0, 1) := by decide +kernel
theorem dX12_mayToday_77 : decode cX12_mayToday 77 = .ok (.iload_n 3, 1) := by decide +kernel
theorem dX12_mayToday_78 : decode cX12_mayToday 78 = .ok (.aload_n 0, 1) := by decide +kernel
theorem dX12_mayToday_79 : decode cX12_mayToday 79 = .ok (.iload_n 1, 1) := by decide +kernel
theorem dX12_mayToday_80 : decode cX12_mayToday 80 = .ok (.iload_n 2, 1) := by decide +kernel
theorem dX12_mayToday_81 : decode cX12_mayToday 81 = .ok (.invokevirtual 418, 3) := by decide +kernel
theorem dX12_mayToday_84 : decode cX12_mayToday 84 = .ok (.iload 4, 2) := by decide +kernel
theorem dX12_mayToday_86 : decode cX12_mayToday 86 = .ok (.iconst 0, 1) := by decide +kernel
theorem dX12_mayToday_87 : decode cX12_mayToday 87 = .ok (.invokevirtual 467, 3) := by decide +kernel
theorem dX12_mayToday_90 : decode cX12_mayToday 90 = .ok (.ifCond .eq 37, 3) := by decide +kernel
theorem dX12_mayToday_93 : decode cX12_mayToday 93 = .ok (.aload_n 0, 1) := by decide +kernel
theorem dX12_mayToday_94 : decode cX12_mayToday 94 = .ok (.iload_n 3, 1) := by decide +kernel
theorem dX12_mayToday_95 : decode cX12_mayToday 95 = .ok (.aload_n 0, 1) := by decide +kernel
theorem dX12_mayToday_96 : decode cX12_mayToday 96 = .ok (.iload_n 1, 1) := by decide +kernel
theorem dX12_mayToday_97 : decode cX12_mayToday 97 = .ok (.iconst 5, 1) := by decide +kernel
theorem dX12_mayToday_98 : decode cX12_mayToday 98 = .ok (.iload_n 2, 1) := by decide +kernel
theorem dX12_mayToday_99 : decode cX12_mayToday 99 = .ok (.iadd, 1) := by decide +kernel
theorem dX12_mayToday_100 : decode cX12_mayToday 100 = .ok (.invokevirtual 418, 3) := by decide +kernel
theorem dX12_mayToday_103 : decode cX12_mayToday 103 = .ok (.aload_n 0, 1) := by decide +kernel
theorem dX12_mayToday_104 : decode cX12_mayToday 104 = .ok (.iload_n 1, 1) := by decide +kernel
theorem dX12_mayToday_105 : decode cX12_mayToday 105 = .ok (.bipush 6, 2) := by decide +kernel
theorem dX12_mayToday_107 : decode cX12_mayToday 107 = .ok (.iload_n 2, 1) := by decide +kernel
theorem dX12_mayToday_108 : decode cX12_mayToday 108 = .ok (.isub, 1) := by decide +kernel
theorem dX12_mayToday_109 : decode cX12_mayToday 109 = .ok (.invokevirtual 418, 3) := by decide +kernel
theorem dX12_mayToday_112 : decode cX12_mayToday 112 = .ok (.aload_n 0, 1) := by decide +kernel
theorem dX12_mayToday_113 : decode cX12_mayToday 113 = .ok (.iload_n 1, 1) := by decide +kernel
theorem dX12_mayToday_114 : decode cX12_mayToday 114 = .ok (.invokevirtual 471, 3) := by decide +kernel
theorem dX12_mayToday_117 : decode cX12_mayToday 117 = .ok (.invokevirtual 474, 3) := by decide +kernel
theorem dX12_mayToday_120 : decode cX12_mayToday 120 = .ok (.ifCond .eq 7, 3) := by decide +kernel
theorem dX12_mayToday_123 : decode cX12_mayToday 123 = .ok (.iconst 1, 1) := by decide +kernel
theorem dX12_mayToday_124 : decode cX12_mayToday 124 = .ok (.goto 4, 3) := by decide +kernel
theorem dX12_mayToday_127 : decode cX12_mayToday 127 = .ok (.iconst 0, 1) := by decide +kernel
theorem dX12_mayToday_128 : decode cX12_mayToday 128 = .ok (.ireturn, 1) := by decide +kernel
set_option maxHeartbeats 40000000 in
set_option maxRecDepth 100000 in
theorem s_X12_mayToday (l : Launch) (g : GG) (sz : Nat) (h : Nat) (mtape : Nat) (mtext : Nat) (mtaped : Int32) (msize : Int32) (mfaultKind : Int32) (mfaultPlace : Int32) (mat : Int32) (mend : Int32) (mtoken : Int32) (mnumber : Int32) (mname : Int64) (mmen : Nat) (mkinds : Nat) (mreasons : Nat) (mtold : Nat) (munits : Nat) (mhonour : Nat) (mdraw : Nat) (mdies : Nat) (mcoin : Nat) (msonOf : Nat) (mkindOf : Nat) (mowner : Nat) (Fmowner : Nat → Int32) (mfirst : Nat) (Fmfirst : Nat → Int32) (mlast : Nat) (Fmlast : Nat → Int32) (mrent : Nat) (msort : Nat) (Fmsort : Nat → Int32) (mduelOne : Nat) (mduelOther : Nat) (mduelOn : Nat) (mruleFrom : Nat) (mruleTo : Nat) (mhasHonour : Nat) (mhasDraw : Nat) (mmName : Nat) (mkName : Nat) (mrName : Nat) (mdName : Nat) (mcode : Nat) (mcodeNumber : Nat) (meWhat : Nat) (meSign : Nat) (mpile : Nat) (mbank : Int32) (mrb : Int32) (mcodes : Int32) (mwithin : Int32) (mpiled : Int32) (munitsInRule : Int32) (maskDay : Int32) (maskUses : Int32) (maskSpent : Int32) (mall : Nat) (Fmall : Nat → Int32) (mwas : Nat) (macts : Int32) (mundone : Int32) (musedBy0 : Nat) (musedBy1 : Nat) (mmornings : Nat) (mcameFrom : Nat) (mcameBy : Nat) (mlevelAt : Nat) (mwins : Nat) (mslots : Nat) (mlevelOf : Nat) (mworthOf : Nat) (mstates : Int32) (mlevels : Int32) (mside0 : Int32) (mside1 : Int32) (mdeathDay : Int32) (maway : Int32) (mhires : Int32) (mhirer : Int32) (mslotFound : Int32) (misSpent : Int32) (mfound : Int32) (mlaid : Int32) (mlaidRow : Nat) (mgReason : Nat) (mgDay : Nat) (mgTold : Nat) (mgUntold : Nat) (msights : Int32) (mtime : Int32) (mboxAll : Nat) (misBoxed : Nat) (p0 : Int32) (p1 : Int32) (p2 : Int32) (hh0 : 0 ≤ mtaped.toInt ∧ mtaped.toInt ≤ 1600) (hh1 : 0 ≤ msize.toInt ∧ msize.toInt ≤ 1600) (hh2 : 0 ≤ mat.toInt ∧ mat.toInt ≤ 1600) (hh3 : 0 ≤ mend.toInt ∧ mend.toInt ≤ 1600) (hh4 : 0 ≤ mtoken.toInt ∧ mtoken.toInt ≤ 5) (hh13 : Rg 16 (-1) 5 Fmowner) (hh18 : 0 ≤ mbank.toInt ∧ mbank.toInt ≤ 1) (hh19 : 0 ≤ mrb.toInt ∧ mrb.toInt ≤ 1) (hh20 : 0 ≤ mcodes.toInt ∧ mcodes.toInt ≤ 1120) (hh21 : 0 ≤ mpiled.toInt ∧ mpiled.toInt ≤ 90) (hh22 : 0 ≤ munitsInRule.toInt ∧ munitsInRule.toInt ≤ 30) (hh23 : Ia Fmall) (hh25 : 0 ≤ macts.toInt ∧ macts.toInt ≤ 40) (hh26 : 0 ≤ mundone.toInt ∧ mundone.toInt ≤ 40) (hh34 : 0 ≤ mstates.toInt ∧ mstates.toInt ≤ 3000) (hh35 : 0 ≤ mlevels.toInt ∧ mlevels.toInt ≤ 18) (hh36 : 0 ≤ mside0.toInt ∧ mside0.toInt ≤ 5) (hh37 : 0 ≤ mside1.toInt ∧ mside1.toInt ≤ 5) (hh38 : 0 ≤ mslotFound.toInt ∧ mslotFound.toInt ≤ 8191) (hh39 : 0 ≤ misSpent.toInt ∧ misSpent.toInt ≤ 1) (hh40 : 0 ≤ mlaid.toInt ∧ mlaid.toInt ≤ 16) (hh41 : 0 ≤ msights.toInt ∧ msights.toInt ≤ 30) (hh42 : 0 ≤ mtime.toInt ∧ mtime.toInt ≤ 100000) (hh44 : 0 ≤ p1.toInt ∧ p1.toInt ≤ 1) (hh45 : 0 ≤ p2.toInt ∧ p2.toInt ≤ 7) : Met l yX12_mayToday (.code yX12_mayToday cX12_mayToday 5 (some .boolean) :: gT) ({ frames := 3, cells := 0, slots := 0, locals := 64 }) (va_Pc [.ref h, .int p0, .int p1, .int p2] (Pst g sz [(h, .inr (12, [.ref mtape, .ref mtext, .int mtaped, .int msize, .int mfaultKind, .int mfaultPlace, .int mat, .int mend, .int mtoken, .int mnumber, .long mname, .ref mmen, .ref mkinds, .ref mreasons, .ref mtold, .ref munits, .ref mhonour, .ref mdraw, .ref mdies, .ref mcoin, .ref msonOf, .ref mkindOf, .ref mowner, .ref mfirst, .ref mlast, .ref mrent, .ref msort, .ref mduelOne, .ref mduelOther, .ref mduelOn, .ref mruleFrom, .ref mruleTo, .ref mhasHonour, .ref mhasDraw, .ref mmName, .ref mkName, .ref mrName, .ref mdName, .ref mcode, .ref mcodeNumber, .ref meWhat, .ref meSign, .ref mpile, .int mbank, .int mrb, .int mcodes, .int mwithin, .int mpiled, .int munitsInRule, .int maskDay, .int maskUses, .int maskSpent, .ref mall, .ref mwas, .int macts, .int mundone, .ref musedBy0, .ref musedBy1, .ref mmornings, .ref mcameFrom, .ref mcameBy, .ref mlevelAt, .ref mwins, .ref mslots, .ref mlevelOf, .ref mworthOf, .int mstates, .int mlevels, .int mside0, .int mside1, .int mdeathDay, .int maway, .int mhires, .int mhirer, .int mslotFound, .int misSpent, .int mfound, .int mlaid, .ref mlaidRow, .ref mgReason, .ref mgDay, .ref mgTold, .ref mgUntold, .int msights, .int mtime, .ref mboxAll, .ref misBoxed])), (mowner, aI g 16 Fmowner), (mfirst, aI g 16 Fmfirst), (mlast, aI g 16 Fmlast), (msort, aI g 16 Fmsort), (mall, aI g 374 Fmall)] nX)) (va_Qi (fun (r : Int32) => fun (_ : Unit) => (r = 1 ∧ (0 ≤ p0.toInt ∧ p0.toInt ≤ 7)) ∨ (r = 0)) (Qst g [] sz (fun _ => [])) (va_A [] sz)) 0 0 (va_A [] sz) := by
  refine Met.ofW (cc := cX12_mayToday) (maxL := 5) (ret := (some .boolean)) (by decide) rfl ?_
  intro p e s m args below meth c s₁ B hml hv
  obtain ⟨rfl, hsz, hP, hK, hD0, hX⟩ := hv
  have hx := B.exec
  have hb := B.bytes
  have hr := B.returns
  have hT : ∀ w ∈ gT, w.before _ s = true := fun w h => atoms_spec (ws := .code yX12_mayToday cX12_mayToday 5 (some .boolean) :: gT) B.pre w (List.mem_cons_of_mem _ h)
  have hown : s.vm.findClass RX12 = some m.cls := findClass_of_methodNamed B.named
  have hlocks := B.notSynchronized
  subst hsz
  have hD := hD0
  generalize hAe : va_A [] s.heap.size = A at ⊢
  have hA : ∀ q : Nat, s.heap.size ≤ q → A q := fun q h => by rw [← hAe]; exact Or.inr h
  have hS : va_S A s.heap s.heap [] := va_S.rf
  have hl := lv_entry ([.ref h, .int p0, .int p1, .int p2]) (n := 5) (Nat.le_of_ble_eq_true rfl)
  rw [lg_entry_eq]
  generalize (lg_sl ([.ref h, .int p0, .int p1, .int p2]) ++ List.replicate (5 - (lg_sl ([.ref h, .int p0, .int p1, .int p2])).length) Slot.unset).toArray = ls at hl ⊢
  have hl : lv_has ls 5 [(0, .ref h), (1, .int p0), (2, .int p1), (3, .int p2)] := hl
  refine p_nH (fun H hH => ?_)
  have hP : va_P g.1 vwCl [(h, .inr (12, [.ref mtape, .ref mtext, .int mtaped, .int msize, .int mfaultKind, .int mfaultPlace, .int mat, .int mend, .int mtoken, .int mnumber, .long mname, .ref mmen, .ref mkinds, .ref mreasons, .ref mtold, .ref munits, .ref mhonour, .ref mdraw, .ref mdies, .ref mcoin, .ref msonOf, .ref mkindOf, .ref mowner, .ref mfirst, .ref mlast, .ref mrent, .ref msort, .ref mduelOne, .ref mduelOther, .ref mduelOn, .ref mruleFrom, .ref mruleTo, .ref mhasHonour, .ref mhasDraw, .ref mmName, .ref mkName, .ref mrName, .ref mdName, .ref mcode, .ref mcodeNumber, .ref meWhat, .ref meSign, .ref mpile, .int mbank, .int mrb, .int mcodes, .int mwithin, .int mpiled, .int munitsInRule, .int maskDay, .int maskUses, .int maskSpent, .ref mall, .ref mwas, .int macts, .int mundone, .ref musedBy0, .ref musedBy1, .ref mmornings, .ref mcameFrom, .ref mcameBy, .ref mlevelAt, .ref mwins, .ref mslots, .ref mlevelOf, .ref mworthOf, .int mstates, .int mlevels, .int mside0, .int mside1, .int mdeathDay, .int maway, .int mhires, .int mhirer, .int mslotFound, .int misSpent, .int mfound, .int mlaid, .ref mlaidRow, .ref mgReason, .ref mgDay, .ref mgTold, .ref mgUntold, .int msights, .int mtime, .ref mboxAll, .ref misBoxed])), (mowner, aI g 16 Fmowner), (mfirst, aI g 16 Fmfirst), (mlast, aI g 16 Fmlast), (msort, aI g 16 Fmsort), (mall, aI g 374 Fmall)] H := by rw [hH]; exact hP
  have hS : va_S A s.heap H [] := by rw [hH]; exact hS
  refine lv_aload_n hx hb dX12_mayToday_0 rfl (lv_at hl 0 rfl) ?_
  refine lv_iload_n hx hb dX12_mayToday_1 rfl (lv_at hl 1 rfl) ?_
  refine k_iR (k_V (n := 1) ⟨hx, hb, hml, hown, hT⟩ hK hP hD [0, 5] rfl (by decide +kernel) (s_X12_isOpen l g H.size h mtape mtext mtaped msize mfaultKind mfaultPlace mat mend mtoken mnumber mname mmen mkinds mreasons mtold munits mhonour mdraw mdies mcoin msonOf mkindOf mowner mfirst mlast mrent msort mduelOne mduelOther mduelOn mruleFrom mruleTo mhasHonour mhasDraw mmName mkName mrName mdName mcode mcodeNumber meWhat meSign mpile mbank mrb mcodes mwithin mpiled munitsInRule maskDay maskUses maskSpent mall Fmall mwas macts mundone musedBy0 musedBy1 mmornings mcameFrom mcameBy mlevelAt mwins mslots mlevelOf mworthOf mstates mlevels mside0 mside1 mdeathDay maway mhires mhirer mslotFound misSpent mfound mlaid mlaidRow mgReason mgDay mgTold mgUntold msights mtime mboxAll misBoxed p0 (by first | with_reducible assumption | omega) (by first | with_reducible assumption | omega) (by first | with_reducible assumption | omega) (by first | with_reducible assumption | omega) (by first | with_reducible assumption | omega) (by first | with_reducible assumption | omega) (by first | with_reducible assumption | omega) (by first | with_reducible assumption | omega) (by first | with_reducible assumption | omega) (by first | with_reducible assumption | omega) hh23 (by first | with_reducible assumption | omega) (by first | with_reducible assumption | omega) (by first | with_reducible assumption | omega) (by first | with_reducible assumption | omega) (by first | with_reducible assumption | omega) (by first | with_reducible assumption | omega) (by first | with_reducible assumption | omega) (by first | with_reducible assumption | omega) (by first | with_reducible assumption | omega) (by first | with_reducible assumption | omega) (by first | with_reducible assumption | omega)) (gV bw_888 bw_889 bw_890 bw_840 bw_844) rfl rfl (by decide +kernel) ⟨by decide, by decide⟩ (ci := 12) (q0 := 0) rfl rfl (fun _ _ _ _ _ => trivial) (fun _ _ _ => trivial) rfl rfl hl.1 (Nat.le_of_ble_eq_true rfl) dX12_mayToday_2 ⟨by decide, by decide⟩) hP hS hA (fun r_1 _ H locs hw0 hP hS => ?_)
  have hw : (r_1 = 1 ∧ (0 ≤ p0.toInt ∧ p0.toInt ≤ 7)) ∨ (r_1 = 0) := hw0
  clear hw0
  rcases hw with ⟨e_3, w_2⟩ | e_4
  · subst e_3
    refine lv_if_eq (tgt := 47) hx hb dX12_mayToday_5 (by decide) (fun c9 => absurd c9 (by decide)) (fun _ => ?_)
    refine lv_aload_n hx hb dX12_mayToday_8 rfl (lv_at hl 0 rfl) ?_
    refine va_get (D := g.1) (ci := 12) (v := .ref mall) (C := RX12) (T := TX12) (N := 87) hx hb hT inF_X12 hown hK.1 hP 0 rfl rfl 52 (by decide) (hT _ bw_832) (fun _ h9 => h9) rfl dX12_mayToday_9 ?_
    refine lv_bipush (v := 72) hx hb dX12_mayToday_12 (by decide) ?_
    have h_5 : vp_in 72 374 := vp_in_iff.mpr (by decide)
    refine va_iald hx hb hK.1 hP 5 1 rfl rfl (i := 72) h_5 dX12_mayToday_14 ?_
    refine lv_topi (fun x_6 ex_6 => ?_)
    have cn_7 : (72 : Int32).toNatClampNeg = 72 := by decide
    have ux_6 := congrArg Int32.toInt ex_6
    have px_6 : In ((72 : Int32).toNatClampNeg % 374) x_6.toInt := Im.rd hh23 h_5 ex_6
    refine lv_aload_n hx hb dX12_mayToday_15 rfl (lv_at hl 0 rfl) ?_
    refine lv_iload_n hx hb dX12_mayToday_16 rfl (lv_at hl 1 rfl) ?_
    refine lv_iconst (v := 2) hx hb dX12_mayToday_17 (by decide) ?_
    refine k_iR (k_V (n := 2) ⟨hx, hb, hml, hown, hT⟩ hK hP hD [0, 5] rfl (by decide +kernel) (s_X12_of_2 l g H.size h mtape mtext mtaped msize mfaultKind mfaultPlace mat mend mtoken mnumber mname mmen mkinds mreasons mtold munits mhonour mdraw mdies mcoin msonOf mkindOf mowner mfirst mlast mrent msort mduelOne mduelOther mduelOn mruleFrom mruleTo mhasHonour mhasDraw mmName mkName mrName mdName mcode mcodeNumber meWhat meSign mpile mbank mrb mcodes mwithin mpiled munitsInRule maskDay maskUses maskSpent mall Fmall mwas macts mundone musedBy0 musedBy1 mmornings mcameFrom mcameBy mlevelAt mwins mslots mlevelOf mworthOf mstates mlevels mside0 mside1 mdeathDay maway mhires mhirer mslotFound misSpent mfound mlaid mlaidRow mgReason mgDay mgTold mgUntold msights mtime mboxAll misBoxed p0 (by first | with_reducible assumption | omega) (by first | with_reducible assumption | omega) (by first | with_reducible assumption | omega) (by first | with_reducible assumption | omega) (by first | with_reducible assumption | omega) (by first | with_reducible assumption | omega) (by first | with_reducible assumption | omega) (by first | with_reducible assumption | omega) (by first | with_reducible assumption | omega) (by first | with_reducible assumption | omega) hh23 (by first | with_reducible assumption | omega) (by first | with_reducible assumption | omega) (by first | with_reducible assumption | omega) (by first | with_reducible assumption | omega) (by first | with_reducible assumption | omega) (by first | with_reducible assumption | omega) (by first | with_reducible assumption | omega) (by first | with_reducible assumption | omega) (by first | with_reducible assumption | omega) (by first | with_reducible assumption | omega) (by first | with_reducible assumption | omega) (by first | with_reducible assumption | omega)) (gV bw_841 bw_842 bw_843 bw_840 bw_836) rfl rfl (by decide +kernel) ⟨by decide, by decide⟩ (ci := 12) (q0 := 0) rfl rfl (fun _ _ _ _ _ => trivial) (fun _ _ _ => trivial) rfl rfl hl.1 (Nat.le_of_ble_eq_true rfl) dX12_mayToday_18 ⟨by decide, by decide⟩) hP hS hA (fun r_8 _ H locs hw0 hP hS => ?_)
    refine lv_icmp_gt (tgt := 47) hx hb dX12_mayToday_21 (by decide) (fun c_9 => ?_) (fun c_9 => ?_)
    · have f_10 := E_lt (rfl : r_8.toInt = _) (rfl : x_6.toInt = _) c_9
      refine lv_iconst (v := 0) hx hb dX12_mayToday_47 (by decide) ?_
      have hP9 : va_P g.1 vwCl [] H := hP.sub [] rfl
      have hD9 : va_D A [] := ⟨fun i j p q h => by simp at h, fun k q h => by simp at h⟩
      exact W.zret (v := 0) (ty := .boolean) hx hb hr rfl (fun t ht hW => ⟨⟨0, (), rfl, (Or.inr (rfl)), by rw [ht]; exact hP9, by rw [hAe]; exact hD9⟩, hS.F ht⟩) hS.2.2 dX12_mayToday_48
    · have f_11 := E_nlt (rfl : r_8.toInt = _) (rfl : x_6.toInt = _) c_9
      refine lv_aload_n hx hb dX12_mayToday_24 rfl (lv_at hl 0 rfl) ?_
      refine lv_iload_n hx hb dX12_mayToday_25 rfl (lv_at hl 3 rfl) ?_
      refine k_iR (k_V (n := 1) ⟨hx, hb, hml, hown, hT⟩ hK hP hD [0, 5] rfl (by decide +kernel) (s_X12_isStruck l g H.size h mtape mtext mtaped msize mfaultKind mfaultPlace mat mend mtoken mnumber mname mmen mkinds mreasons mtold munits mhonour mdraw mdies mcoin msonOf mkindOf mowner mfirst mlast mrent msort mduelOne mduelOther mduelOn mruleFrom mruleTo mhasHonour mhasDraw mmName mkName mrName mdName mcode mcodeNumber meWhat meSign mpile mbank mrb mcodes mwithin mpiled munitsInRule maskDay maskUses maskSpent mall Fmall mwas macts mundone musedBy0 musedBy1 mmornings mcameFrom mcameBy mlevelAt mwins mslots mlevelOf mworthOf mstates mlevels mside0 mside1 mdeathDay maway mhires mhirer mslotFound misSpent mfound mlaid mlaidRow mgReason mgDay mgTold mgUntold msights mtime mboxAll misBoxed p2 (by first | with_reducible assumption | omega) (by first | with_reducible assumption | omega) (by first | with_reducible assumption | omega) (by first | with_reducible assumption | omega) (by first | with_reducible assumption | omega) (by first | with_reducible assumption | omega) (by first | with_reducible assumption | omega) (by first | with_reducible assumption | omega) (by first | with_reducible assumption | omega) (by first | with_reducible assumption | omega) hh23 (by first | with_reducible assumption | omega) (by first | with_reducible assumption | omega) (by first | with_reducible assumption | omega) (by first | with_reducible assumption | omega) (by first | with_reducible assumption | omega) (by first | with_reducible assumption | omega) (by first | with_reducible assumption | omega) (by first | with_reducible assumption | omega) (by first | with_reducible assumption | omega) (by first | with_reducible assumption | omega) (by first | with_reducible assumption | omega)) (gV bw_891 bw_892 bw_893 bw_840 bw_835) rfl rfl (by decide +kernel) ⟨by decide, by decide⟩ (ci := 12) (q0 := 0) rfl rfl (fun _ _ _ _ _ => trivial) (fun _ _ _ => trivial) rfl rfl hl.1 (Nat.le_of_ble_eq_true rfl) dX12_mayToday_26 ⟨by decide, by decide⟩) hP hS hA (fun r_12 _ H locs hw0 hP hS => ?_)
      have hw : 0 ≤ r_12.toInt ∧ r_12.toInt ≤ 1 := hw0
      clear hw0
      have w_13 := hw
      refine lv_if_ne (tgt := 47) hx hb dX12_mayToday_29 (by decide) (fun c_14 => ?_) (fun c_14 => ?_)
      · have f_15 := E_ne (rfl : r_12.toInt = _) (by decide : (0 : Int32).toInt = 0) c_14
        refine lv_iconst (v := 0) hx hb dX12_mayToday_47 (by decide) ?_
        have hP9 : va_P g.1 vwCl [] H := hP.sub [] rfl
        have hD9 : va_D A [] := ⟨fun i j p q h => by simp at h, fun k q h => by simp at h⟩
        exact W.zret (v := 0) (ty := .boolean) hx hb hr rfl (fun t ht hW => ⟨⟨0, (), rfl, (Or.inr (rfl)), by rw [ht]; exact hP9, by rw [hAe]; exact hD9⟩, hS.F ht⟩) hS.2.2 dX12_mayToday_48
      · have f_16 := E_eq (rfl : r_12.toInt = _) (by decide : (0 : Int32).toInt = 0) c_14
        refine lv_aload_n hx hb dX12_mayToday_32 rfl (lv_at hl 0 rfl) ?_
        refine lv_iload_n hx hb dX12_mayToday_33 rfl (lv_at hl 3 rfl) ?_
        refine lv_aload_n hx hb dX12_mayToday_34 rfl (lv_at hl 0 rfl) ?_
        refine va_get (D := g.1) (ci := 12) (v := .ref mall) (C := RX12) (T := TX12) (N := 87) hx hb hT inF_X12 hown hK.1 hP 0 rfl rfl 52 (by decide) (hT _ bw_832) (fun _ h9 => h9) rfl dX12_mayToday_35 ?_
        refine lv_bipush (v := 72) hx hb dX12_mayToday_38 (by decide) ?_
        have h_17 : vp_in 72 374 := vp_in_iff.mpr (by decide)
        refine va_iald hx hb hK.1 hP 5 1 rfl rfl (i := 72) h_17 dX12_mayToday_40 ?_
        refine lv_topi (fun x_18 ex_18 => ?_)
        have cn_19 : (72 : Int32).toNatClampNeg = 72 := by decide
        have ux_18 := congrArg Int32.toInt ex_18
        have px_18 : In ((72 : Int32).toNatClampNeg % 374) x_18.toInt := Im.rd hh23 h_17 ex_18
        refine k_iR (k_V (n := 2) ⟨hx, hb, hml, hown, hT⟩ hK hP hD [0, 2, 3] rfl (by decide +kernel) (s_X12_isTime l g H.size h mtape mtext mtaped msize mfaultKind mfaultPlace mat mend mtoken mnumber mname mmen mkinds mreasons mtold munits mhonour mdraw mdies mcoin msonOf mkindOf mowner mfirst Fmfirst mlast Fmlast mrent msort mduelOne mduelOther mduelOn mruleFrom mruleTo mhasHonour mhasDraw mmName mkName mrName mdName mcode mcodeNumber meWhat meSign mpile mbank mrb mcodes mwithin mpiled munitsInRule maskDay maskUses maskSpent mall mwas macts mundone musedBy0 musedBy1 mmornings mcameFrom mcameBy mlevelAt mwins mslots mlevelOf mworthOf mstates mlevels mside0 mside1 mdeathDay maway mhires mhirer mslotFound misSpent mfound mlaid mlaidRow mgReason mgDay mgTold mgUntold msights mtime mboxAll misBoxed p2 x_18 (by first | with_reducible assumption | omega) (by first | with_reducible assumption | omega) (by first | with_reducible assumption | omega) (by first | with_reducible assumption | omega) (by first | with_reducible assumption | omega) (by first | with_reducible assumption | omega) (by first | with_reducible assumption | omega) (by first | with_reducible assumption | omega) (by first | with_reducible assumption | omega) (by first | with_reducible assumption | omega) (by first | with_reducible assumption | omega) (by first | with_reducible assumption | omega) (by first | with_reducible assumption | omega) (by first | with_reducible assumption | omega) (by first | with_reducible assumption | omega) (by first | with_reducible assumption | omega) (by first | with_reducible assumption | omega) (by first | with_reducible assumption | omega) (by first | with_reducible assumption | omega) (by first | with_reducible assumption | omega) (by first | with_reducible assumption | omega) (by first | with_reducible assumption | omega)) (gV bw_894 bw_895 bw_896 bw_840 bw_886) rfl rfl (by decide +kernel) ⟨by decide, by decide⟩ (ci := 12) (q0 := 0) rfl rfl (fun _ _ _ _ _ => trivial) (fun _ _ _ => trivial) rfl rfl hl.1 (Nat.le_of_ble_eq_true rfl) dX12_mayToday_41 ⟨by decide, by decide⟩) hP hS hA (fun r_20 _ H locs hw0 hP hS => ?_)
        have hw : 0 ≤ r_20.toInt ∧ r_20.toInt ≤ 1 := hw0
        clear hw0
        have w_21 := hw
        refine lv_if_ne (tgt := 49) hx hb dX12_mayToday_44 (by decide) (fun c_22 => ?_) (fun c_22 => ?_)
        · have f_23 := E_ne (rfl : r_20.toInt = _) (by decide : (0 : Int32).toInt = 0) c_22
          refine lv_aload_n hx hb dX12_mayToday_49 rfl (lv_at hl 0 rfl) ?_
          refine lv_iload_n hx hb dX12_mayToday_50 rfl (lv_at hl 3 rfl) ?_
          refine k_iR (k_V (n := 1) ⟨hx, hb, hml, hown, hT⟩ hK hP hD [0, 1] rfl (by decide +kernel) (s_X12_ownerOf l g H.size h mtape mtext mtaped msize mfaultKind mfaultPlace mat mend mtoken mnumber mname mmen mkinds mreasons mtold munits mhonour mdraw mdies mcoin msonOf mkindOf mowner Fmowner mfirst mlast mrent msort mduelOne mduelOther mduelOn mruleFrom mruleTo mhasHonour mhasDraw mmName mkName mrName mdName mcode mcodeNumber meWhat meSign mpile mbank mrb mcodes mwithin mpiled munitsInRule maskDay maskUses maskSpent mall mwas macts mundone musedBy0 musedBy1 mmornings mcameFrom mcameBy mlevelAt mwins mslots mlevelOf mworthOf mstates mlevels mside0 mside1 mdeathDay maway mhires mhirer mslotFound misSpent mfound mlaid mlaidRow mgReason mgDay mgTold mgUntold msights mtime mboxAll misBoxed p2 (by first | with_reducible assumption | omega) (by first | with_reducible assumption | omega) (by first | with_reducible assumption | omega) (by first | with_reducible assumption | omega) (by first | with_reducible assumption | omega) hh13 (by first | with_reducible assumption | omega) (by first | with_reducible assumption | omega) (by first | with_reducible assumption | omega) (by first | with_reducible assumption | omega) (by first | with_reducible assumption | omega) (by first | with_reducible assumption | omega) (by first | with_reducible assumption | omega) (by first | with_reducible assumption | omega) (by first | with_reducible assumption | omega) (by first | with_reducible assumption | omega) (by first | with_reducible assumption | omega) (by first | with_reducible assumption | omega) (by first | with_reducible assumption | omega) (by first | with_reducible assumption | omega) (by first | with_reducible assumption | omega) (by first | with_reducible assumption | omega) (by first | with_reducible assumption | omega)) (gV bw_880 bw_881 bw_882 bw_840 bw_848) rfl rfl (by decide +kernel) ⟨by decide, by decide⟩ (ci := 12) (q0 := 0) rfl rfl (fun _ _ _ _ _ => trivial) (fun _ _ _ => trivial) rfl rfl hl.1 (Nat.le_of_ble_eq_true rfl) dX12_mayToday_51 ⟨by decide, by decide⟩) hP hS hA (fun r_24 _ H locs hw0 hP hS => ?_)
          have hw : ((-1) ≤ r_24.toInt ∧ r_24.toInt ≤ 5) ∧ (r_24 = Fmowner (8 * mbank.toNatClampNeg + p2.toNatClampNeg)) := hw0
          clear hw0
          have w_25 := hw.1
          have w_26 := hw.2
          clear hw
          refine lv_if_lt (tgt := 73) hx hb dX12_mayToday_54 (by decide) (fun c_27 => ?_) (fun c_27 => ?_)
          · have f_28 := E_lt (rfl : r_24.toInt = _) (by decide : (0 : Int32).toInt = 0) c_27
            refine lv_iconst (v := 0) hx hb dX12_mayToday_73 (by decide) ?_
            refine lv_istore (lv' := [(4, .int 0), (0, .ref h), (1, .int p0), (2, .int p1), (3, .int p2)]) hx hb dX12_mayToday_74 hl (by decide) rfl (fun ls hl => ?_)
            refine lv_aload_n hx hb dX12_mayToday_76 rfl (lv_at hl 1 rfl) ?_
            refine lv_iload_n hx hb dX12_mayToday_77 rfl (lv_at hl 4 rfl) ?_
            refine lv_aload_n hx hb dX12_mayToday_78 rfl (lv_at hl 1 rfl) ?_
            refine lv_iload_n hx hb dX12_mayToday_79 rfl (lv_at hl 2 rfl) ?_
            refine lv_iload_n hx hb dX12_mayToday_80 rfl (lv_at hl 3 rfl) ?_
            refine k_iR (k_V (n := 2) ⟨hx, hb, hml, hown, hT⟩ hK hP hD [0, 5] rfl (by decide +kernel) (s_X12_of_s l g H.size h mtape mtext mtaped msize mfaultKind mfaultPlace mat mend mtoken mnumber mname mmen mkinds mreasons mtold munits mhonour mdraw mdies mcoin msonOf mkindOf mowner mfirst mlast mrent msort mduelOne mduelOther mduelOn mruleFrom mruleTo mhasHonour mhasDraw mmName mkName mrName mdName mcode mcodeNumber meWhat meSign mpile mbank mrb mcodes mwithin mpiled munitsInRule maskDay maskUses maskSpent mall Fmall mwas macts mundone musedBy0 musedBy1 mmornings mcameFrom mcameBy mlevelAt mwins mslots mlevelOf mworthOf mstates mlevels mside0 mside1 mdeathDay maway mhires mhirer mslotFound misSpent mfound mlaid mlaidRow mgReason mgDay mgTold mgUntold msights mtime mboxAll misBoxed p0 p1 (by first | with_reducible assumption | omega) (by first | with_reducible assumption | omega) (by first | with_reducible assumption | omega) (by first | with_reducible assumption | omega) (by first | with_reducible assumption | omega) (by first | with_reducible assumption | omega) (by first | with_reducible assumption | omega) (by first | with_reducible assumption | omega) (by first | with_reducible assumption | omega) (by first | with_reducible assumption | omega) hh23 (by first | with_reducible assumption | omega) (by first | with_reducible assumption | omega) (by first | with_reducible assumption | omega) (by first | with_reducible assumption | omega) (by first | with_reducible assumption | omega) (by first | with_reducible assumption | omega) (by first | with_reducible assumption | omega) (by first | with_reducible assumption | omega) (by first | with_reducible assumption | omega) (by first | with_reducible assumption | omega) (by first | with_reducible assumption | omega) (by first | with_reducible assumption | omega) (by first | with_reducible assumption | omega)) (gV bw_841 bw_842 bw_843 bw_840 bw_836) rfl rfl (by decide +kernel) ⟨by decide, by decide⟩ (ci := 12) (q0 := 0) rfl rfl (fun _ _ _ _ _ => trivial) (fun _ _ _ => trivial) rfl rfl hl.1 (Nat.le_of_ble_eq_true rfl) dX12_mayToday_81 ⟨by decide, by decide⟩) hP hS hA (fun r_29 _ H locs hw0 hP hS => ?_)
            have hw : 0 ≤ r_29.toInt ∧ r_29.toInt ≤ 5 := hw0
            clear hw0
            have w_30 := hw
            refine lv_iload hx hb dX12_mayToday_84 (lv_at hl 0 rfl) ?_
            refine lv_iconst (v := 0) hx hb dX12_mayToday_86 (by decide) ?_
            refine k_iR (k_V (n := 4) ⟨hx, hb, hml, hown, hT⟩ hK hP hD [0, 1, 5] rfl (by decide +kernel) (s_X12_isHis l g H.size h mtape mtext mtaped msize mfaultKind mfaultPlace mat mend mtoken mnumber mname mmen mkinds mreasons mtold munits mhonour mdraw mdies mcoin msonOf mkindOf mowner Fmowner mfirst mlast mrent msort mduelOne mduelOther mduelOn mruleFrom mruleTo mhasHonour mhasDraw mmName mkName mrName mdName mcode mcodeNumber meWhat meSign mpile mbank mrb mcodes mwithin mpiled munitsInRule maskDay maskUses maskSpent mall Fmall mwas macts mundone musedBy0 musedBy1 mmornings mcameFrom mcameBy mlevelAt mwins mslots mlevelOf mworthOf mstates mlevels mside0 mside1 mdeathDay maway mhires mhirer mslotFound misSpent mfound mlaid mlaidRow mgReason mgDay mgTold mgUntold msights mtime mboxAll misBoxed p2 r_29 0 0 (by first | with_reducible assumption | omega) (by first | with_reducible assumption | omega) (by first | with_reducible assumption | omega) (by first | with_reducible assumption | omega) (by first | with_reducible assumption | omega) hh13 (by first | with_reducible assumption | omega) (by first | with_reducible assumption | omega) (by first | with_reducible assumption | omega) (by first | with_reducible assumption | omega) (by first | with_reducible assumption | omega) hh23 (by first | with_reducible assumption | omega) (by first | with_reducible assumption | omega) (by first | with_reducible assumption | omega) (by first | with_reducible assumption | omega) (by first | with_reducible assumption | omega) (by first | with_reducible assumption | omega) (by first | with_reducible assumption | omega) (by first | with_reducible assumption | omega) (by first | with_reducible assumption | omega) (by first | with_reducible assumption | omega) (by first | with_reducible assumption | omega) (by first | with_reducible assumption | omega) (by first | with_reducible assumption | omega) (by decide)) (gV bw_897 bw_898 bw_899 bw_840 bw_883) rfl rfl (by decide +kernel) ⟨by decide, by decide⟩ (ci := 12) (q0 := 0) rfl rfl (fun _ _ _ _ _ => trivial) (fun _ _ _ => trivial) rfl rfl hl.1 (Nat.le_of_ble_eq_true rfl) dX12_mayToday_87 ⟨by decide, by decide⟩) hP hS hA (fun r_31 _ H locs hw0 hP hS => ?_)
            have hw : 0 ≤ r_31.toInt ∧ r_31.toInt ≤ 1 := hw0
            clear hw0
            have w_32 := hw
            refine lv_if_eq (tgt := 127) hx hb dX12_mayToday_90 (by decide) (fun c_33 => ?_) (fun c_33 => ?_)
            · have f_34 := E_eq (rfl : r_31.toInt = _) (by decide : (0 : Int32).toInt = 0) c_33
              refine lv_iconst (v := 0) hx hb dX12_mayToday_127 (by decide) ?_
              have hP9 : va_P g.1 vwCl [] H := hP.sub [] rfl
              have hD9 : va_D A [] := ⟨fun i j p q h => by simp at h, fun k q h => by simp at h⟩
              exact W.zret (v := 0) (ty := .boolean) hx hb hr rfl (fun t ht hW => ⟨⟨0, (), rfl, (Or.inr (rfl)), by rw [ht]; exact hP9, by rw [hAe]; exact hD9⟩, hS.F ht⟩) hS.2.2 dX12_mayToday_128
            · have f_35 := E_ne (rfl : r_31.toInt = _) (by decide : (0 : Int32).toInt = 0) c_33
              refine lv_aload_n hx hb dX12_mayToday_93 rfl (lv_at hl 1 rfl) ?_
              refine lv_iload_n hx hb dX12_mayToday_94 rfl (lv_at hl 4 rfl) ?_
              refine lv_aload_n hx hb dX12_mayToday_95 rfl (lv_at hl 1 rfl) ?_
              refine lv_iload_n hx hb dX12_mayToday_96 rfl (lv_at hl 2 rfl) ?_
              refine lv_iconst (v := 5) hx hb dX12_mayToday_97 (by decide) ?_
              refine lv_iload_n hx hb dX12_mayToday_98 rfl (lv_at hl 3 rfl) ?_
              refine lv_iadd hx hb dX12_mayToday_99 ?_
              refine lv_topi (fun x_36 ex_36 => ?_)
              have fx_36 : x_36.toInt = 5 + p1.toInt := by rw [ex_36]; exact I_add (by decide : (5 : Int32).toInt = 5) rfl (by omega) (by omega)
              refine k_iR (k_V (n := 2) ⟨hx, hb, hml, hown, hT⟩ hK hP hD [0, 5] rfl (by decide +kernel) (s_X12_of_u l g H.size h mtape mtext mtaped msize mfaultKind mfaultPlace mat mend mtoken mnumber mname mmen mkinds mreasons mtold munits mhonour mdraw mdies mcoin msonOf mkindOf mowner mfirst mlast mrent msort mduelOne mduelOther mduelOn mruleFrom mruleTo mhasHonour mhasDraw mmName mkName mrName mdName mcode mcodeNumber meWhat meSign mpile mbank mrb mcodes mwithin mpiled munitsInRule maskDay maskUses maskSpent mall Fmall mwas macts mundone musedBy0 musedBy1 mmornings mcameFrom mcameBy mlevelAt mwins mslots mlevelOf mworthOf mstates mlevels mside0 mside1 mdeathDay maway mhires mhirer mslotFound misSpent mfound mlaid mlaidRow mgReason mgDay mgTold mgUntold msights mtime mboxAll misBoxed p0 x_36 (by first | with_reducible assumption | omega) (by first | with_reducible assumption | omega) (by first | with_reducible assumption | omega) (by first | with_reducible assumption | omega) (by first | with_reducible assumption | omega) (by first | with_reducible assumption | omega) (by first | with_reducible assumption | omega) (by first | with_reducible assumption | omega) (by first | with_reducible assumption | omega) (by first | with_reducible assumption | omega) hh23 (by first | with_reducible assumption | omega) (by first | with_reducible assumption | omega) (by first | with_reducible assumption | omega) (by first | with_reducible assumption | omega) (by first | with_reducible assumption | omega) (by first | with_reducible assumption | omega) (by first | with_reducible assumption | omega) (by first | with_reducible assumption | omega) (by first | with_reducible assumption | omega) (by first | with_reducible assumption | omega) (by first | with_reducible assumption | omega) (by first | with_reducible assumption | omega) (by first | with_reducible assumption | omega)) (gV bw_841 bw_842 bw_843 bw_840 bw_836) rfl rfl (by decide +kernel) ⟨by decide, by decide⟩ (ci := 12) (q0 := 0) rfl rfl (fun _ _ _ _ _ => trivial) (fun _ _ _ => trivial) rfl rfl hl.1 (Nat.le_of_ble_eq_true rfl) dX12_mayToday_100 ⟨by decide, by decide⟩) hP hS hA (fun r_37 _ H locs hw0 hP hS => ?_)
              have hw : 0 ≤ r_37.toInt ∧ r_37.toInt ≤ 255 := hw0
              clear hw0
              have w_38 := hw
              refine lv_aload_n hx hb dX12_mayToday_103 rfl (lv_at hl 1 rfl) ?_
              refine lv_iload_n hx hb dX12_mayToday_104 rfl (lv_at hl 2 rfl) ?_
              refine lv_bipush (v := 6) hx hb dX12_mayToday_105 (by decide) ?_
              refine lv_iload_n hx hb dX12_mayToday_107 rfl (lv_at hl 3 rfl) ?_
              refine lv_isub hx hb dX12_mayToday_108 ?_
              refine lv_topi (fun x_39 ex_39 => ?_)
              have fx_39 : x_39.toInt = 6 - p1.toInt := by rw [ex_39]; exact I_sub (by decide : (6 : Int32).toInt = 6) rfl (by omega) (by omega)
              refine k_iR (k_V (n := 2) ⟨hx, hb, hml, hown, hT⟩ hK hP hD [0, 5] rfl (by decide +kernel) (s_X12_of_u l g H.size h mtape mtext mtaped msize mfaultKind mfaultPlace mat mend mtoken mnumber mname mmen mkinds mreasons mtold munits mhonour mdraw mdies mcoin msonOf mkindOf mowner mfirst mlast mrent msort mduelOne mduelOther mduelOn mruleFrom mruleTo mhasHonour mhasDraw mmName mkName mrName mdName mcode mcodeNumber meWhat meSign mpile mbank mrb mcodes mwithin mpiled munitsInRule maskDay maskUses maskSpent mall Fmall mwas macts mundone musedBy0 musedBy1 mmornings mcameFrom mcameBy mlevelAt mwins mslots mlevelOf mworthOf mstates mlevels mside0 mside1 mdeathDay maway mhires mhirer mslotFound misSpent mfound mlaid mlaidRow mgReason mgDay mgTold mgUntold msights mtime mboxAll misBoxed p0 x_39 (by first | with_reducible assumption | omega) (by first | with_reducible assumption | omega) (by first | with_reducible assumption | omega) (by first | with_reducible assumption | omega) (by first | with_reducible assumption | omega) (by first | with_reducible assumption | omega) (by first | with_reducible assumption | omega) (by first | with_reducible assumption | omega) (by first | with_reducible assumption | omega) (by first | with_reducible assumption | omega) hh23 (by first | with_reducible assumption | omega) (by first | with_reducible assumption | omega) (by first | with_reducible assumption | omega) (by first | with_reducible assumption | omega) (by first | with_reducible assumption | omega) (by first | with_reducible assumption | omega) (by first | with_reducible assumption | omega) (by first | with_reducible assumption | omega) (by first | with_reducible assumption | omega) (by first | with_reducible assumption | omega) (by first | with_reducible assumption | omega) (by first | with_reducible assumption | omega) (by first | with_reducible assumption | omega)) (gV bw_841 bw_842 bw_843 bw_840 bw_836) rfl rfl (by decide +kernel) ⟨by decide, by decide⟩ (ci := 12) (q0 := 0) rfl rfl (fun _ _ _ _ _ => trivial) (fun _ _ _ => trivial) rfl rfl hl.1 (Nat.le_of_ble_eq_true rfl) dX12_mayToday_109 ⟨by decide, by decide⟩) hP hS hA (fun r_40 _ H locs hw0 hP hS => ?_)
              have hw : 0 ≤ r_40.toInt ∧ r_40.toInt ≤ 255 := hw0
              clear hw0
              have w_41 := hw
              refine lv_aload_n hx hb dX12_mayToday_112 rfl (lv_at hl 1 rfl) ?_
              refine lv_iload_n hx hb dX12_mayToday_113 rfl (lv_at hl 2 rfl) ?_
              refine k_iR (k_V (n := 1) ⟨hx, hb, hml, hown, hT⟩ hK hP hD [0, 5] rfl (by decide +kernel) (s_X12_elsewhere l g H.size h mtape mtext mtaped msize mfaultKind mfaultPlace mat mend mtoken mnumber mname mmen mkinds mreasons mtold munits mhonour mdraw mdies mcoin msonOf mkindOf mowner mfirst mlast mrent msort mduelOne mduelOther mduelOn mruleFrom mruleTo mhasHonour mhasDraw mmName mkName mrName mdName mcode mcodeNumber meWhat meSign mpile mbank mrb mcodes mwithin mpiled munitsInRule maskDay maskUses maskSpent mall Fmall mwas macts mundone musedBy0 musedBy1 mmornings mcameFrom mcameBy mlevelAt mwins mslots mlevelOf mworthOf mstates mlevels mside0 mside1 mdeathDay maway mhires mhirer mslotFound misSpent mfound mlaid mlaidRow mgReason mgDay mgTold mgUntold msights mtime mboxAll misBoxed p0 (by first | with_reducible assumption | omega) (by first | with_reducible assumption | omega) (by first | with_reducible assumption | omega) (by first | with_reducible assumption | omega) (by first | with_reducible assumption | omega) (by first | with_reducible assumption | omega) (by first | with_reducible assumption | omega) (by first | with_reducible assumption | omega) (by first | with_reducible assumption | omega) (by first | with_reducible assumption | omega) hh23 (by first | with_reducible assumption | omega) (by first | with_reducible assumption | omega) (by first | with_reducible assumption | omega) (by first | with_reducible assumption | omega) (by first | with_reducible assumption | omega) (by first | with_reducible assumption | omega) (by first | with_reducible assumption | omega) (by first | with_reducible assumption | omega) (by first | with_reducible assumption | omega) (by first | with_reducible assumption | omega) (by first | with_reducible assumption | omega)) (gV bw_900 bw_901 bw_902 bw_840 bw_887) rfl rfl (by decide +kernel) ⟨by decide, by decide⟩ (ci := 12) (q0 := 0) rfl rfl (fun _ _ _ _ _ => trivial) (fun _ _ _ => trivial) rfl rfl hl.1 (Nat.le_of_ble_eq_true rfl) dX12_mayToday_114 ⟨by decide, by decide⟩) hP hS hA (fun r_42 _ H locs hw0 hP hS => ?_)
              have hw : 0 ≤ r_42.toInt ∧ r_42.toInt ≤ 255 := hw0
              clear hw0
              have w_43 := hw
              refine k_iR (k_V (n := 4) ⟨hx, hb, hml, hown, hT⟩ hK hP hD [0, 4] rfl (by decide +kernel) (s_X12_isNew l g H.size h mtape mtext mtaped msize mfaultKind mfaultPlace mat mend mtoken mnumber mname mmen mkinds mreasons mtold munits mhonour mdraw mdies mcoin msonOf mkindOf mowner mfirst mlast mrent msort Fmsort mduelOne mduelOther mduelOn mruleFrom mruleTo mhasHonour mhasDraw mmName mkName mrName mdName mcode mcodeNumber meWhat meSign mpile mbank mrb mcodes mwithin mpiled munitsInRule maskDay maskUses maskSpent mall mwas macts mundone musedBy0 musedBy1 mmornings mcameFrom mcameBy mlevelAt mwins mslots mlevelOf mworthOf mstates mlevels mside0 mside1 mdeathDay maway mhires mhirer mslotFound misSpent mfound mlaid mlaidRow mgReason mgDay mgTold mgUntold msights mtime mboxAll misBoxed p2 r_37 r_40 r_42 (by first | with_reducible assumption | omega) (by first | with_reducible assumption | omega) (by first | with_reducible assumption | omega) (by first | with_reducible assumption | omega) (by first | with_reducible assumption | omega) (by first | with_reducible assumption | omega) (by first | with_reducible assumption | omega) (by first | with_reducible assumption | omega) (by first | with_reducible assumption | omega) (by first | with_reducible assumption | omega) (by first | with_reducible assumption | omega) (by first | with_reducible assumption | omega) (by first | with_reducible assumption | omega) (by first | with_reducible assumption | omega) (by first | with_reducible assumption | omega) (by first | with_reducible assumption | omega) (by first | with_reducible assumption | omega) (by first | with_reducible assumption | omega) (by first | with_reducible assumption | omega) (by first | with_reducible assumption | omega) (by first | with_reducible assumption | omega) (by first | with_reducible assumption | omega)) (gV bw_903 bw_904 bw_905 bw_840 bw_879) rfl rfl (by decide +kernel) ⟨by decide, by decide⟩ (ci := 12) (q0 := 0) rfl rfl (fun _ _ _ _ _ => trivial) (fun _ _ _ => trivial) rfl rfl hl.1 (Nat.le_of_ble_eq_true rfl) dX12_mayToday_117 ⟨by decide, by decide⟩) hP hS hA (fun r_44 _ H locs hw0 hP hS => ?_)
              have hw : (r_44 = 1 ∧ (Bz r_37 p2)) ∨ (r_44 = 0) := hw0
              clear hw0
              rcases hw with ⟨e_46, w_45⟩ | e_47
              · subst e_46
                refine lv_if_eq (tgt := 127) hx hb dX12_mayToday_120 (by decide) (fun c9 => absurd c9 (by decide)) (fun _ => ?_)
                refine lv_iconst (v := 1) hx hb dX12_mayToday_123 (by decide) ?_
                refine lv_goto (tgt := 128) hx hb dX12_mayToday_124 (by decide) ?_
                have hP9 : va_P g.1 vwCl [] H := hP.sub [] rfl
                have hD9 : va_D A [] := ⟨fun i j p q h => by simp at h, fun k q h => by simp at h⟩
                exact W.zret (v := 1) (ty := .boolean) hx hb hr rfl (fun t ht hW => ⟨⟨1, (), rfl, (Or.inl ⟨rfl, w_2⟩), by rw [ht]; exact hP9, by rw [hAe]; exact hD9⟩, hS.F ht⟩) hS.2.2 dX12_mayToday_128
              · subst e_47
                refine lv_if_eq (tgt := 127) hx hb dX12_mayToday_120 (by decide) (fun _ => ?_) (fun c9 => absurd (by decide) c9)
                refine lv_iconst (v := 0) hx hb dX12_mayToday_127 (by decide) ?_
                have hP9 : va_P g.1 vwCl [] H := hP.sub [] rfl
                have hD9 : va_D A [] := ⟨fun i j p q h => by simp at h, fun k q h => by simp at h⟩
                exact W.zret (v := 0) (ty := .boolean) hx hb hr rfl (fun t ht hW => ⟨⟨0, (), rfl, (Or.inr (rfl)), by rw [ht]; exact hP9, by rw [hAe]; exact hD9⟩, hS.F ht⟩) hS.2.2 dX12_mayToday_128
          · have f_48 := E_nlt (rfl : r_24.toInt = _) (by decide : (0 : Int32).toInt = 0) c_27
            refine lv_aload_n hx hb dX12_mayToday_57 rfl (lv_at hl 0 rfl) ?_
            refine lv_aload_n hx hb dX12_mayToday_58 rfl (lv_at hl 0 rfl) ?_
            refine lv_iload_n hx hb dX12_mayToday_59 rfl (lv_at hl 3 rfl) ?_
            refine k_iR (k_V (n := 1) ⟨hx, hb, hml, hown, hT⟩ hK hP hD [0, 1] rfl (by decide +kernel) (s_X12_ownerOf l g H.size h mtape mtext mtaped msize mfaultKind mfaultPlace mat mend mtoken mnumber mname mmen mkinds mreasons mtold munits mhonour mdraw mdies mcoin msonOf mkindOf mowner Fmowner mfirst mlast mrent msort mduelOne mduelOther mduelOn mruleFrom mruleTo mhasHonour mhasDraw mmName mkName mrName mdName mcode mcodeNumber meWhat meSign mpile mbank mrb mcodes mwithin mpiled munitsInRule maskDay maskUses maskSpent mall mwas macts mundone musedBy0 musedBy1 mmornings mcameFrom mcameBy mlevelAt mwins mslots mlevelOf mworthOf mstates mlevels mside0 mside1 mdeathDay maway mhires mhirer mslotFound misSpent mfound mlaid mlaidRow mgReason mgDay mgTold mgUntold msights mtime mboxAll misBoxed p2 (by first | with_reducible assumption | omega) (by first | with_reducible assumption | omega) (by first | with_reducible assumption | omega) (by first | with_reducible assumption | omega) (by first | with_reducible assumption | omega) hh13 (by first | with_reducible assumption | omega) (by first | with_reducible assumption | omega) (by first | with_reducible assumption | omega) (by first | with_reducible assumption | omega) (by first | with_reducible assumption | omega) (by first | with_reducible assumption | omega) (by first | with_reducible assumption | omega) (by first | with_reducible assumption | omega) (by first | with_reducible assumption | omega) (by first | with_reducible assumption | omega) (by first | with_reducible assumption | omega) (by first | with_reducible assumption | omega) (by first | with_reducible assumption | omega) (by first | with_reducible assumption | omega) (by first | with_reducible assumption | omega) (by first | with_reducible assumption | omega) (by first | with_reducible assumption | omega)) (gV bw_880 bw_881 bw_882 bw_840 bw_848) rfl rfl (by decide +kernel) ⟨by decide, by decide⟩ (ci := 12) (q0 := 0) rfl rfl (fun _ _ _ _ _ => trivial) (fun _ _ _ => trivial) rfl rfl hl.1 (Nat.le_of_ble_eq_true rfl) dX12_mayToday_60 ⟨by decide, by decide⟩) hP hS hA (fun r_49 _ H locs hw0 hP hS => ?_)
            have hw : ((-1) ≤ r_49.toInt ∧ r_49.toInt ≤ 5) ∧ (r_49 = Fmowner (8 * mbank.toNatClampNeg + p2.toNatClampNeg)) := hw0
            clear hw0
            have w_50 := hw.1
            have w_51 := hw.2
            clear hw
            refine k_iR (k_V (n := 1) ⟨hx, hb, hml, hown, hT⟩ hK hP hD [0, 5] rfl (by decide +kernel) (s_X12_isAlive l g H.size h mtape mtext mtaped msize mfaultKind mfaultPlace mat mend mtoken mnumber mname mmen mkinds mreasons mtold munits mhonour mdraw mdies mcoin msonOf mkindOf mowner mfirst mlast mrent msort mduelOne mduelOther mduelOn mruleFrom mruleTo mhasHonour mhasDraw mmName mkName mrName mdName mcode mcodeNumber meWhat meSign mpile mbank mrb mcodes mwithin mpiled munitsInRule maskDay maskUses maskSpent mall Fmall mwas macts mundone musedBy0 musedBy1 mmornings mcameFrom mcameBy mlevelAt mwins mslots mlevelOf mworthOf mstates mlevels mside0 mside1 mdeathDay maway mhires mhirer mslotFound misSpent mfound mlaid mlaidRow mgReason mgDay mgTold mgUntold msights mtime mboxAll misBoxed r_49 (by first | with_reducible assumption | omega) (by first | with_reducible assumption | omega) (by first | with_reducible assumption | omega) (by first | with_reducible assumption | omega) (by first | with_reducible assumption | omega) (by first | with_reducible assumption | omega) (by first | with_reducible assumption | omega) (by first | with_reducible assumption | omega) (by first | with_reducible assumption | omega) (by first | with_reducible assumption | omega) hh23 (by first | with_reducible assumption | omega) (by first | with_reducible assumption | omega) (by first | with_reducible assumption | omega) (by first | with_reducible assumption | omega) (by first | with_reducible assumption | omega) (by first | with_reducible assumption | omega) (by first | with_reducible assumption | omega) (by first | with_reducible assumption | omega) (by first | with_reducible assumption | omega) (by first | with_reducible assumption | omega) (by first | with_reducible assumption | omega)) (gV bw_906 bw_907 bw_908 bw_840 bw_834) rfl rfl (by decide +kernel) ⟨by decide, by decide⟩ (ci := 12) (q0 := 0) rfl rfl (fun _ _ _ _ _ => trivial) (fun _ _ _ => trivial) rfl rfl hl.1 (Nat.le_of_ble_eq_true rfl) dX12_mayToday_63 ⟨by decide, by decide⟩) hP hS hA (fun r_52 _ H locs hw0 hP hS => ?_)
            have hw : 0 ≤ r_52.toInt ∧ r_52.toInt ≤ 1 := hw0
            clear hw0
            have w_53 := hw
            refine lv_if_eq (tgt := 73) hx hb dX12_mayToday_66 (by decide) (fun c_54 => ?_) (fun c_54 => ?_)
            · have f_55 := E_eq (rfl : r_52.toInt = _) (by decide : (0 : Int32).toInt = 0) c_54
              refine lv_iconst (v := 0) hx hb dX12_mayToday_73 (by decide) ?_
              refine lv_istore (lv' := [(4, .int 0), (0, .ref h), (1, .int p0), (2, .int p1), (3, .int p2)]) hx hb dX12_mayToday_74 hl (by decide) rfl (fun ls hl => ?_)
              refine lv_aload_n hx hb dX12_mayToday_76 rfl (lv_at hl 1 rfl) ?_
              refine lv_iload_n hx hb dX12_mayToday_77 rfl (lv_at hl 4 rfl) ?_
              refine lv_aload_n hx hb dX12_mayToday_78 rfl (lv_at hl 1 rfl) ?_
              refine lv_iload_n hx hb dX12_mayToday_79 rfl (lv_at hl 2 rfl) ?_
              refine lv_iload_n hx hb dX12_mayToday_80 rfl (lv_at hl 3 rfl) ?_
              refine k_iR (k_V (n := 2) ⟨hx, hb, hml, hown, hT⟩ hK hP hD [0, 5] rfl (by decide +kernel) (s_X12_of_s l g H.size h mtape mtext mtaped msize mfaultKind mfaultPlace mat mend mtoken mnumber mname mmen mkinds mreasons mtold munits mhonour mdraw mdies mcoin msonOf mkindOf mowner mfirst mlast mrent msort mduelOne mduelOther mduelOn mruleFrom mruleTo mhasHonour mhasDraw mmName mkName mrName mdName mcode mcodeNumber meWhat meSign mpile mbank mrb mcodes mwithin mpiled munitsInRule maskDay maskUses maskSpent mall Fmall mwas macts mundone musedBy0 musedBy1 mmornings mcameFrom mcameBy mlevelAt mwins mslots mlevelOf mworthOf mstates mlevels mside0 mside1 mdeathDay maway mhires mhirer mslotFound misSpent mfound mlaid mlaidRow mgReason mgDay mgTold mgUntold msights mtime mboxAll misBoxed p0 p1 (by first | with_reducible assumption | omega) (by first | with_reducible assumption | omega) (by first | with_reducible assumption | omega) (by first | with_reducible assumption | omega) (by first | with_reducible assumption | omega) (by first | with_reducible assumption | omega) (by first | with_reducible assumption | omega) (by first | with_reducible assumption | omega) (by first | with_reducible assumption | omega) (by first | with_reducible assumption | omega) hh23 (by first | with_reducible assumption | omega) (by first | with_reducible assumption | omega) (by first | with_reducible assumption | omega) (by first | with_reducible assumption | omega) (by first | with_reducible assumption | omega) (by first | with_reducible assumption | omega) (by first | with_reducible assumption | omega) (by first | with_reducible assumption | omega) (by first | with_reducible assumption | omega) (by first | with_reducible assumption | omega) (by first | with_reducible assumption | omega) (by first | with_reducible assumption | omega) (by first | with_reducible assumption | omega)) (gV bw_841 bw_842 bw_843 bw_840 bw_836) rfl rfl (by decide +kernel) ⟨by decide, by decide⟩ (ci := 12) (q0 := 0) rfl rfl (fun _ _ _ _ _ => trivial) (fun _ _ _ => trivial) rfl rfl hl.1 (Nat.le_of_ble_eq_true rfl) dX12_mayToday_81 ⟨by decide, by decide⟩) hP hS hA (fun r_56 _ H locs hw0 hP hS => ?_)
              have hw : 0 ≤ r_56.toInt ∧ r_56.toInt ≤ 5 := hw0
              clear hw0
              have w_57 := hw
              refine lv_iload hx hb dX12_mayToday_84 (lv_at hl 0 rfl) ?_
              refine lv_iconst (v := 0) hx hb dX12_mayToday_86 (by decide) ?_
              refine k_iR (k_V (n := 4) ⟨hx, hb, hml, hown, hT⟩ hK hP hD [0, 1, 5] rfl (by decide +kernel) (s_X12_isHis l g H.size h mtape mtext mtaped msize mfaultKind mfaultPlace mat mend mtoken mnumber mname mmen mkinds mreasons mtold munits mhonour mdraw mdies mcoin msonOf mkindOf mowner Fmowner mfirst mlast mrent msort mduelOne mduelOther mduelOn mruleFrom mruleTo mhasHonour mhasDraw mmName mkName mrName mdName mcode mcodeNumber meWhat meSign mpile mbank mrb mcodes mwithin mpiled munitsInRule maskDay maskUses maskSpent mall Fmall mwas macts mundone musedBy0 musedBy1 mmornings mcameFrom mcameBy mlevelAt mwins mslots mlevelOf mworthOf mstates mlevels mside0 mside1 mdeathDay maway mhires mhirer mslotFound misSpent mfound mlaid mlaidRow mgReason mgDay mgTold mgUntold msights mtime mboxAll misBoxed p2 r_56 0 0 (by first | with_reducible assumption | omega) (by first | with_reducible assumption | omega) (by first | with_reducible assumption | omega) (by first | with_reducible assumption | omega) (by first | with_reducible assumption | omega) hh13 (by first | with_reducible assumption | omega) (by first | with_reducible assumption | omega) (by first | with_reducible assumption | omega) (by first | with_reducible assumption | omega) (by first | with_reducible assumption | omega) hh23 (by first | with_reducible assumption | omega) (by first | with_reducible assumption | omega) (by first | with_reducible assumption | omega) (by first | with_reducible assumption | omega) (by first | with_reducible assumption | omega) (by first | with_reducible assumption | omega) (by first | with_reducible assumption | omega) (by first | with_reducible assumption | omega) (by first | with_reducible assumption | omega) (by first | with_reducible assumption | omega) (by first | with_reducible assumption | omega) (by first | with_reducible assumption | omega) (by first | with_reducible assumption | omega) (by decide)) (gV bw_897 bw_898 bw_899 bw_840 bw_883) rfl rfl (by decide +kernel) ⟨by decide, by decide⟩ (ci := 12) (q0 := 0) rfl rfl (fun _ _ _ _ _ => trivial) (fun _ _ _ => trivial) rfl rfl hl.1 (Nat.le_of_ble_eq_true rfl) dX12_mayToday_87 ⟨by decide, by decide⟩) hP hS hA (fun r_58 _ H locs hw0 hP hS => ?_)
              have hw : 0 ≤ r_58.toInt ∧ r_58.toInt ≤ 1 := hw0
              clear hw0
              have w_59 := hw
              refine lv_if_eq (tgt := 127) hx hb dX12_mayToday_90 (by decide) (fun c_60 => ?_) (fun c_60 => ?_)
              · have f_61 := E_eq (rfl : r_58.toInt = _) (by decide : (0 : Int32).toInt = 0) c_60
                refine lv_iconst (v := 0) hx hb dX12_mayToday_127 (by decide) ?_
                have hP9 : va_P g.1 vwCl [] H := hP.sub [] rfl
                have hD9 : va_D A [] := ⟨fun i j p q h => by simp at h, fun k q h => by simp at h⟩
                exact W.zret (v := 0) (ty := .boolean) hx hb hr rfl (fun t ht hW => ⟨⟨0, (), rfl, (Or.inr (rfl)), by rw [ht]; exact hP9, by rw [hAe]; exact hD9⟩, hS.F ht⟩) hS.2.2 dX12_mayToday_128
              · have f_62 := E_ne (rfl : r_58.toInt = _) (by decide : (0 : Int32).toInt = 0) c_60
                refine lv_aload_n hx hb dX12_mayToday_93 rfl (lv_at hl 1 rfl) ?_
                refine lv_iload_n hx hb dX12_mayToday_94 rfl (lv_at hl 4 rfl) ?_
                refine lv_aload_n hx hb dX12_mayToday_95 rfl (lv_at hl 1 rfl) ?_
                refine lv_iload_n hx hb dX12_mayToday_96 rfl (lv_at hl 2 rfl) ?_
                refine lv_iconst (v := 5) hx hb dX12_mayToday_97 (by decide) ?_
                refine lv_iload_n hx hb dX12_mayToday_98 rfl (lv_at hl 3 rfl) ?_
                refine lv_iadd hx hb dX12_mayToday_99 ?_
                refine lv_topi (fun x_63 ex_63 => ?_)
                have fx_63 : x_63.toInt = 5 + p1.toInt := by rw [ex_63]; exact I_add (by decide : (5 : Int32).toInt = 5) rfl (by omega) (by omega)
                refine k_iR (k_V (n := 2) ⟨hx, hb, hml, hown, hT⟩ hK hP hD [0, 5] rfl (by decide +kernel) (s_X12_of_u l g H.size h mtape mtext mtaped msize mfaultKind mfaultPlace mat mend mtoken mnumber mname mmen mkinds mreasons mtold munits mhonour mdraw mdies mcoin msonOf mkindOf mowner mfirst mlast mrent msort mduelOne mduelOther mduelOn mruleFrom mruleTo mhasHonour mhasDraw mmName mkName mrName mdName mcode mcodeNumber meWhat meSign mpile mbank mrb mcodes mwithin mpiled munitsInRule maskDay maskUses maskSpent mall Fmall mwas macts mundone musedBy0 musedBy1 mmornings mcameFrom mcameBy mlevelAt mwins mslots mlevelOf mworthOf mstates mlevels mside0 mside1 mdeathDay maway mhires mhirer mslotFound misSpent mfound mlaid mlaidRow mgReason mgDay mgTold mgUntold msights mtime mboxAll misBoxed p0 x_63 (by first | with_reducible assumption | omega) (by first | with_reducible assumption | omega) (by first | with_reducible assumption | omega) (by first | with_reducible assumption | omega) (by first | with_reducible assumption | omega) (by first | with_reducible assumption | omega) (by first | with_reducible assumption | omega) (by first | with_reducible assumption | omega) (by first | with_reducible assumption | omega) (by first | with_reducible assumption | omega) hh23 (by first | with_reducible assumption | omega) (by first | with_reducible assumption | omega) (by first | with_reducible assumption | omega) (by first | with_reducible assumption | omega) (by first | with_reducible assumption | omega) (by first | with_reducible assumption | omega) (by first | with_reducible assumption | omega) (by first | with_reducible assumption | omega) (by first | with_reducible assumption | omega) (by first | with_reducible assumption | omega) (by first | with_reducible assumption | omega) (by first | with_reducible assumption | omega) (by first | with_reducible assumption | omega)) (gV bw_841 bw_842 bw_843 bw_840 bw_836) rfl rfl (by decide +kernel) ⟨by decide, by decide⟩ (ci := 12) (q0 := 0) rfl rfl (fun _ _ _ _ _ => trivial) (fun _ _ _ => trivial) rfl rfl hl.1 (Nat.le_of_ble_eq_true rfl) dX12_mayToday_100 ⟨by decide, by decide⟩) hP hS hA (fun r_64 _ H locs hw0 hP hS => ?_)
                have hw : 0 ≤ r_64.toInt ∧ r_64.toInt ≤ 255 := hw0
                clear hw0
                have w_65 := hw
                refine lv_aload_n hx hb dX12_mayToday_103 rfl (lv_at hl 1 rfl) ?_
                refine lv_iload_n hx hb dX12_mayToday_104 rfl (lv_at hl 2 rfl) ?_
                refine lv_bipush (v := 6) hx hb dX12_mayToday_105 (by decide) ?_
                refine lv_iload_n hx hb dX12_mayToday_107 rfl (lv_at hl 3 rfl) ?_
                refine lv_isub hx hb dX12_mayToday_108 ?_
                refine lv_topi (fun x_66 ex_66 => ?_)
                have fx_66 : x_66.toInt = 6 - p1.toInt := by rw [ex_66]; exact I_sub (by decide : (6 : Int32).toInt = 6) rfl (by omega) (by omega)
                refine k_iR (k_V (n := 2) ⟨hx, hb, hml, hown, hT⟩ hK hP hD [0, 5] rfl (by decide +kernel) (s_X12_of_u l g H.size h mtape mtext mtaped msize mfaultKind mfaultPlace mat mend mtoken mnumber mname mmen mkinds mreasons mtold munits mhonour mdraw mdies mcoin msonOf mkindOf mowner mfirst mlast mrent msort mduelOne mduelOther mduelOn mruleFrom mruleTo mhasHonour mhasDraw mmName mkName mrName mdName mcode mcodeNumber meWhat meSign mpile mbank mrb mcodes mwithin mpiled munitsInRule maskDay maskUses maskSpent mall Fmall mwas macts mundone musedBy0 musedBy1 mmornings mcameFrom mcameBy mlevelAt mwins mslots mlevelOf mworthOf mstates mlevels mside0 mside1 mdeathDay maway mhires mhirer mslotFound misSpent mfound mlaid mlaidRow mgReason mgDay mgTold mgUntold msights mtime mboxAll misBoxed p0 x_66 (by first | with_reducible assumption | omega) (by first | with_reducible assumption | omega) (by first | with_reducible assumption | omega) (by first | with_reducible assumption | omega) (by first | with_reducible assumption | omega) (by first | with_reducible assumption | omega) (by first | with_reducible assumption | omega) (by first | with_reducible assumption | omega) (by first | with_reducible assumption | omega) (by first | with_reducible assumption | omega) hh23 (by first | with_reducible assumption | omega) (by first | with_reducible assumption | omega) (by first | with_reducible assumption | omega) (by first | with_reducible assumption | omega) (by first | with_reducible assumption | omega) (by first | with_reducible assumption | omega) (by first | with_reducible assumption | omega) (by first | with_reducible assumption | omega) (by first | with_reducible assumption | omega) (by first | with_reducible assumption | omega) (by first | with_reducible assumption | omega) (by first | with_reducible assumption | omega) (by first | with_reducible assumption | omega)) (gV bw_841 bw_842 bw_843 bw_840 bw_836) rfl rfl (by decide +kernel) ⟨by decide, by decide⟩ (ci := 12) (q0 := 0) rfl rfl (fun _ _ _ _ _ => trivial) (fun _ _ _ => trivial) rfl rfl hl.1 (Nat.le_of_ble_eq_true rfl) dX12_mayToday_109 ⟨by decide, by decide⟩) hP hS hA (fun r_67 _ H locs hw0 hP hS => ?_)
                have hw : 0 ≤ r_67.toInt ∧ r_67.toInt ≤ 255 := hw0
                clear hw0
                have w_68 := hw
                refine lv_aload_n hx hb dX12_mayToday_112 rfl (lv_at hl 1 rfl) ?_
                refine lv_iload_n hx hb dX12_mayToday_113 rfl (lv_at hl 2 rfl) ?_
                refine k_iR (k_V (n := 1) ⟨hx, hb, hml, hown, hT⟩ hK hP hD [0, 5] rfl (by decide +kernel) (s_X12_elsewhere l g H.size h mtape mtext mtaped msize mfaultKind mfaultPlace mat mend mtoken mnumber mname mmen mkinds mreasons mtold munits mhonour mdraw mdies mcoin msonOf mkindOf mowner mfirst mlast mrent msort mduelOne mduelOther mduelOn mruleFrom mruleTo mhasHonour mhasDraw mmName mkName mrName mdName mcode mcodeNumber meWhat meSign mpile mbank mrb mcodes mwithin mpiled munitsInRule maskDay maskUses maskSpent mall Fmall mwas macts mundone musedBy0 musedBy1 mmornings mcameFrom mcameBy mlevelAt mwins mslots mlevelOf mworthOf mstates mlevels mside0 mside1 mdeathDay maway mhires mhirer mslotFound misSpent mfound mlaid mlaidRow mgReason mgDay mgTold mgUntold msights mtime mboxAll misBoxed p0 (by first | with_reducible assumption | omega) (by first | with_reducible assumption | omega) (by first | with_reducible assumption | omega) (by first | with_reducible assumption | omega) (by first | with_reducible assumption | omega) (by first | with_reducible assumption | omega) (by first | with_reducible assumption | omega) (by first | with_reducible assumption | omega) (by first | with_reducible assumption | omega) (by first | with_reducible assumption | omega) hh23 (by first | with_reducible assumption | omega) (by first | with_reducible assumption | omega) (by first | with_reducible assumption | omega) (by first | with_reducible assumption | omega) (by first | with_reducible assumption | omega) (by first | with_reducible assumption | omega) (by first | with_reducible assumption | omega) (by first | with_reducible assumption | omega) (by first | with_reducible assumption | omega) (by first | with_reducible assumption | omega) (by first | with_reducible assumption | omega)) (gV bw_900 bw_901 bw_902 bw_840 bw_887) rfl rfl (by decide +kernel) ⟨by decide, by decide⟩ (ci := 12) (q0 := 0) rfl rfl (fun _ _ _ _ _ => trivial) (fun _ _ _ => trivial) rfl rfl hl.1 (Nat.le_of_ble_eq_true rfl) dX12_mayToday_114 ⟨by decide, by decide⟩) hP hS hA (fun r_69 _ H locs hw0 hP hS => ?_)
                have hw : 0 ≤ r_69.toInt ∧ r_69.toInt ≤ 255 := hw0
                clear hw0
                have w_70 := hw
                refine k_iR (k_V (n := 4) ⟨hx, hb, hml, hown, hT⟩ hK hP hD [0, 4] rfl (by decide +kernel) (s_X12_isNew l g H.size h mtape mtext mtaped msize mfaultKind mfaultPlace mat mend mtoken mnumber mname mmen mkinds mreasons mtold munits mhonour mdraw mdies mcoin msonOf mkindOf mowner mfirst mlast mrent msort Fmsort mduelOne mduelOther mduelOn mruleFrom mruleTo mhasHonour mhasDraw mmName mkName mrName mdName mcode mcodeNumber meWhat meSign mpile mbank mrb mcodes mwithin mpiled munitsInRule maskDay maskUses maskSpent mall mwas macts mundone musedBy0 musedBy1 mmornings mcameFrom mcameBy mlevelAt mwins mslots mlevelOf mworthOf mstates mlevels mside0 mside1 mdeathDay maway mhires mhirer mslotFound misSpent mfound mlaid mlaidRow mgReason mgDay mgTold mgUntold msights mtime mboxAll misBoxed p2 r_64 r_67 r_69 (by first | with_reducible assumption | omega) (by first | with_reducible assumption | omega) (by first | with_reducible assumption | omega) (by first | with_reducible assumption | omega) (by first | with_reducible assumption | omega) (by first | with_reducible assumption | omega) (by first | with_reducible assumption | omega) (by first | with_reducible assumption | omega) (by first | with_reducible assumption | omega) (by first | with_reducible assumption | omega) (by first | with_reducible assumption | omega) (by first | with_reducible assumption | omega) (by first | with_reducible assumption | omega) (by first | with_reducible assumption | omega) (by first | with_reducible assumption | omega) (by first | with_reducible assumption | omega) (by first | with_reducible assumption | omega) (by first | with_reducible assumption | omega) (by first | with_reducible assumption | omega) (by first | with_reducible assumption | omega) (by first | with_reducible assumption | omega) (by first | with_reducible assumption | omega)) (gV bw_903 bw_904 bw_905 bw_840 bw_879) rfl rfl (by decide +kernel) ⟨by decide, by decide⟩ (ci := 12) (q0 := 0) rfl rfl (fun _ _ _ _ _ => trivial) (fun _ _ _ => trivial) rfl rfl hl.1 (Nat.le_of_ble_eq_true rfl) dX12_mayToday_117 ⟨by decide, by decide⟩) hP hS hA (fun r_71 _ H locs hw0 hP hS => ?_)
                have hw : (r_71 = 1 ∧ (Bz r_64 p2)) ∨ (r_71 = 0) := hw0
                clear hw0
                rcases hw with ⟨e_73, w_72⟩ | e_74
                · subst e_73
                  refine lv_if_eq (tgt := 127) hx hb dX12_mayToday_120 (by decide) (fun c9 => absurd c9 (by decide)) (fun _ => ?_)
                  refine lv_iconst (v := 1) hx hb dX12_mayToday_123 (by decide) ?_
                  refine lv_goto (tgt := 128) hx hb dX12_mayToday_124 (by decide) ?_
                  have hP9 : va_P g.1 vwCl [] H := hP.sub [] rfl
                  have hD9 : va_D A [] := ⟨fun i j p q h => by simp at h, fun k q h => by simp at h⟩
                  exact W.zret (v := 1) (ty := .boolean) hx hb hr rfl (fun t ht hW => ⟨⟨1, (), rfl, (Or.inl ⟨rfl, w_2⟩), by rw [ht]; exact hP9, by rw [hAe]; exact hD9⟩, hS.F ht⟩) hS.2.2 dX12_mayToday_128
                · subst e_74
                  refine lv_if_eq (tgt := 127) hx hb dX12_mayToday_120 (by decide) (fun _ => ?_) (fun c9 => absurd (by decide) c9)
                  refine lv_iconst (v := 0) hx hb dX12_mayToday_127 (by decide) ?_
                  have hP9 : va_P g.1 vwCl [] H := hP.sub [] rfl
                  have hD9 : va_D A [] := ⟨fun i j p q h => by simp at h, fun k q h => by simp at h⟩
                  exact W.zret (v := 0) (ty := .boolean) hx hb hr rfl (fun t ht hW => ⟨⟨0, (), rfl, (Or.inr (rfl)), by rw [ht]; exact hP9, by rw [hAe]; exact hD9⟩, hS.F ht⟩) hS.2.2 dX12_mayToday_128
            · have f_75 := E_ne (rfl : r_52.toInt = _) (by decide : (0 : Int32).toInt = 0) c_54
              refine lv_iconst (v := 1) hx hb dX12_mayToday_69 (by decide) ?_
              refine lv_goto (tgt := 74) hx hb dX12_mayToday_70 (by decide) ?_
              refine lv_istore (lv' := [(4, .int 1), (0, .ref h), (1, .int p0), (2, .int p1), (3, .int p2)]) hx hb dX12_mayToday_74 hl (by decide) rfl (fun ls hl => ?_)
              refine lv_aload_n hx hb dX12_mayToday_76 rfl (lv_at hl 1 rfl) ?_
              refine lv_iload_n hx hb dX12_mayToday_77 rfl (lv_at hl 4 rfl) ?_
              refine lv_aload_n hx hb dX12_mayToday_78 rfl (lv_at hl 1 rfl) ?_
              refine lv_iload_n hx hb dX12_mayToday_79 rfl (lv_at hl 2 rfl) ?_
              refine lv_iload_n hx hb dX12_mayToday_80 rfl (lv_at hl 3 rfl) ?_
              refine k_iR (k_V (n := 2) ⟨hx, hb, hml, hown, hT⟩ hK hP hD [0, 5] rfl (by decide +kernel) (s_X12_of_s l g H.size h mtape mtext mtaped msize mfaultKind mfaultPlace mat mend mtoken mnumber mname mmen mkinds mreasons mtold munits mhonour mdraw mdies mcoin msonOf mkindOf mowner mfirst mlast mrent msort mduelOne mduelOther mduelOn mruleFrom mruleTo mhasHonour mhasDraw mmName mkName mrName mdName mcode mcodeNumber meWhat meSign mpile mbank mrb mcodes mwithin mpiled munitsInRule maskDay maskUses maskSpent mall Fmall mwas macts mundone musedBy0 musedBy1 mmornings mcameFrom mcameBy mlevelAt mwins mslots mlevelOf mworthOf mstates mlevels mside0 mside1 mdeathDay maway mhires mhirer mslotFound misSpent mfound mlaid mlaidRow mgReason mgDay mgTold mgUntold msights mtime mboxAll misBoxed p0 p1 (by first | with_reducible assumption | omega) (by first | with_reducible assumption | omega) (by first | with_reducible assumption | omega) (by first | with_reducible assumption | omega) (by first | with_reducible assumption | omega) (by first | with_reducible assumption | omega) (by first | with_reducible assumption | omega) (by first | with_reducible assumption | omega) (by first | with_reducible assumption | omega) (by first | with_reducible assumption | omega) hh23 (by first | with_reducible assumption | omega) (by first | with_reducible assumption | omega) (by first | with_reducible assumption | omega) (by first | with_reducible assumption | omega) (by first | with_reducible assumption | omega) (by first | with_reducible assumption | omega) (by first | with_reducible assumption | omega) (by first | with_reducible assumption | omega) (by first | with_reducible assumption | omega) (by first | with_reducible assumption | omega) (by first | with_reducible assumption | omega) (by first | with_reducible assumption | omega) (by first | with_reducible assumption | omega)) (gV bw_841 bw_842 bw_843 bw_840 bw_836) rfl rfl (by decide +kernel) ⟨by decide, by decide⟩ (ci := 12) (q0 := 0) rfl rfl (fun _ _ _ _ _ => trivial) (fun _ _ _ => trivial) rfl rfl hl.1 (Nat.le_of_ble_eq_true rfl) dX12_mayToday_81 ⟨by decide, by decide⟩) hP hS hA (fun r_76 _ H locs hw0 hP hS => ?_)
              have hw : 0 ≤ r_76.toInt ∧ r_76.toInt ≤ 5 := hw0
              clear hw0
              have w_77 := hw
              refine lv_iload hx hb dX12_mayToday_84 (lv_at hl 0 rfl) ?_
              refine lv_iconst (v := 0) hx hb dX12_mayToday_86 (by decide) ?_
              refine k_iR (k_V (n := 4) ⟨hx, hb, hml, hown, hT⟩ hK hP hD [0, 1, 5] rfl (by decide +kernel) (s_X12_isHis l g H.size h mtape mtext mtaped msize mfaultKind mfaultPlace mat mend mtoken mnumber mname mmen mkinds mreasons mtold munits mhonour mdraw mdies mcoin msonOf mkindOf mowner Fmowner mfirst mlast mrent msort mduelOne mduelOther mduelOn mruleFrom mruleTo mhasHonour mhasDraw mmName mkName mrName mdName mcode mcodeNumber meWhat meSign mpile mbank mrb mcodes mwithin mpiled munitsInRule maskDay maskUses maskSpent mall Fmall mwas macts mundone musedBy0 musedBy1 mmornings mcameFrom mcameBy mlevelAt mwins mslots mlevelOf mworthOf mstates mlevels mside0 mside1 mdeathDay maway mhires mhirer mslotFound misSpent mfound mlaid mlaidRow mgReason mgDay mgTold mgUntold msights mtime mboxAll misBoxed p2 r_76 1 0 (by first | with_reducible assumption | omega) (by first | with_reducible assumption | omega) (by first | with_reducible assumption | omega) (by first | with_reducible assumption | omega) (by first | with_reducible assumption | omega) hh13 (by first | with_reducible assumption | omega) (by first | with_reducible assumption | omega) (by first | with_reducible assumption | omega) (by first | with_reducible assumption | omega) (by first | with_reducible assumption | omega) hh23 (by first | with_reducible assumption | omega) (by first | with_reducible assumption | omega) (by first | with_reducible assumption | omega) (by first | with_reducible assumption | omega) (by first | with_reducible assumption | omega) (by first | with_reducible assumption | omega) (by first | with_reducible assumption | omega) (by first | with_reducible assumption | omega) (by first | with_reducible assumption | omega) (by first | with_reducible assumption | omega) (by first | with_reducible assumption | omega) (by first | with_reducible assumption | omega) (by first | with_reducible assumption | omega) (by decide)) (gV bw_897 bw_898 bw_899 bw_840 bw_883) rfl rfl (by decide +kernel) ⟨by decide, by decide⟩ (ci := 12) (q0 := 0) rfl rfl (fun _ _ _ _ _ => trivial) (fun _ _ _ => trivial) rfl rfl hl.1 (Nat.le_of_ble_eq_true rfl) dX12_mayToday_87 ⟨by decide, by decide⟩) hP hS hA (fun r_78 _ H locs hw0 hP hS => ?_)
              have hw : 0 ≤ r_78.toInt ∧ r_78.toInt ≤ 1 := hw0
              clear hw0
              have w_79 := hw
              refine lv_if_eq (tgt := 127) hx hb dX12_mayToday_90 (by decide) (fun c_80 => ?_) (fun c_80 => ?_)
              · have f_81 := E_eq (rfl : r_78.toInt = _) (by decide : (0 : Int32).toInt = 0) c_80
                refine lv_iconst (v := 0) hx hb dX12_mayToday_127 (by decide) ?_
                have hP9 : va_P g.1 vwCl [] H := hP.sub [] rfl
                have hD9 : va_D A [] := ⟨fun i j p q h => by simp at h, fun k q h => by simp at h⟩
                exact W.zret (v := 0) (ty := .boolean) hx hb hr rfl (fun t ht hW => ⟨⟨0, (), rfl, (Or.inr (rfl)), by rw [ht]; exact hP9, by rw [hAe]; exact hD9⟩, hS.F ht⟩) hS.2.2 dX12_mayToday_128
              · have f_82 := E_ne (rfl : r_78.toInt = _) (by decide : (0 : Int32).toInt = 0) c_80
                refine lv_aload_n hx hb dX12_mayToday_93 rfl (lv_at hl 1 rfl) ?_
                refine lv_iload_n hx hb dX12_mayToday_94 rfl (lv_at hl 4 rfl) ?_
                refine lv_aload_n hx hb dX12_mayToday_95 rfl (lv_at hl 1 rfl) ?_
                refine lv_iload_n hx hb dX12_mayToday_96 rfl (lv_at hl 2 rfl) ?_
                refine lv_iconst (v := 5) hx hb dX12_mayToday_97 (by decide) ?_
                refine lv_iload_n hx hb dX12_mayToday_98 rfl (lv_at hl 3 rfl) ?_
                refine lv_iadd hx hb dX12_mayToday_99 ?_
                refine lv_topi (fun x_83 ex_83 => ?_)
                have fx_83 : x_83.toInt = 5 + p1.toInt := by rw [ex_83]; exact I_add (by decide : (5 : Int32).toInt = 5) rfl (by omega) (by omega)
                refine k_iR (k_V (n := 2) ⟨hx, hb, hml, hown, hT⟩ hK hP hD [0, 5] rfl (by decide +kernel) (s_X12_of_u l g H.size h mtape mtext mtaped msize mfaultKind mfaultPlace mat mend mtoken mnumber mname mmen mkinds mreasons mtold munits mhonour mdraw mdies mcoin msonOf mkindOf mowner mfirst mlast mrent msort mduelOne mduelOther mduelOn mruleFrom mruleTo mhasHonour mhasDraw mmName mkName mrName mdName mcode mcodeNumber meWhat meSign mpile mbank mrb mcodes mwithin mpiled munitsInRule maskDay maskUses maskSpent mall Fmall mwas macts mundone musedBy0 musedBy1 mmornings mcameFrom mcameBy mlevelAt mwins mslots mlevelOf mworthOf mstates mlevels mside0 mside1 mdeathDay maway mhires mhirer mslotFound misSpent mfound mlaid mlaidRow mgReason mgDay mgTold mgUntold msights mtime mboxAll misBoxed p0 x_83 (by first | with_reducible assumption | omega) (by first | with_reducible assumption | omega) (by first | with_reducible assumption | omega) (by first | with_reducible assumption | omega) (by first | with_reducible assumption | omega) (by first | with_reducible assumption | omega) (by first | with_reducible assumption | omega) (by first | with_reducible assumption | omega) (by first | with_reducible assumption | omega) (by first | with_reducible assumption | omega) hh23 (by first | with_reducible assumption | omega) (by first | with_reducible assumption | omega) (by first | with_reducible assumption | omega) (by first | with_reducible assumption | omega) (by first | with_reducible assumption | omega) (by first | with_reducible assumption | omega) (by first | with_reducible assumption | omega) (by first | with_reducible assumption | omega) (by first | with_reducible assumption | omega) (by first | with_reducible assumption | omega) (by first | with_reducible assumption | omega) (by first | with_reducible assumption | omega) (by first | with_reducible assumption | omega)) (gV bw_841 bw_842 bw_843 bw_840 bw_836) rfl rfl (by decide +kernel) ⟨by decide, by decide⟩ (ci := 12) (q0 := 0) rfl rfl (fun _ _ _ _ _ => trivial) (fun _ _ _ => trivial) rfl rfl hl.1 (Nat.le_of_ble_eq_true rfl) dX12_mayToday_100 ⟨by decide, by decide⟩) hP hS hA (fun r_84 _ H locs hw0 hP hS => ?_)
                have hw : 0 ≤ r_84.toInt ∧ r_84.toInt ≤ 255 := hw0
                clear hw0
                have w_85 := hw
                refine lv_aload_n hx hb dX12_mayToday_103 rfl (lv_at hl 1 rfl) ?_
                refine lv_iload_n hx hb dX12_mayToday_104 rfl (lv_at hl 2 rfl) ?_
                refine lv_bipush (v := 6) hx hb dX12_mayToday_105 (by decide) ?_
                refine lv_iload_n hx hb dX12_mayToday_107 rfl (lv_at hl 3 rfl) ?_
                refine lv_isub hx hb dX12_mayToday_108 ?_
                refine lv_topi (fun x_86 ex_86 => ?_)
                have fx_86 : x_86.toInt = 6 - p1.toInt := by rw [ex_86]; exact I_sub (by decide : (6 : Int32).toInt = 6) rfl (by omega) (by omega)
                refine k_iR (k_V (n := 2) ⟨hx, hb, hml, hown, hT⟩ hK hP hD [0, 5] rfl (by decide +kernel) (s_X12_of_u l g H.size h mtape mtext mtaped msize mfaultKind mfaultPlace mat mend mtoken mnumber mname mmen mkinds mreasons mtold munits mhonour mdraw mdies mcoin msonOf mkindOf mowner mfirst mlast mrent msort mduelOne mduelOther mduelOn mruleFrom mruleTo mhasHonour mhasDraw mmName mkName mrName mdName mcode mcodeNumber meWhat meSign mpile mbank mrb mcodes mwithin mpiled munitsInRule maskDay maskUses maskSpent mall Fmall mwas macts mundone musedBy0 musedBy1 mmornings mcameFrom mcameBy mlevelAt mwins mslots mlevelOf mworthOf mstates mlevels mside0 mside1 mdeathDay maway mhires mhirer mslotFound misSpent mfound mlaid mlaidRow mgReason mgDay mgTold mgUntold msights mtime mboxAll misBoxed p0 x_86 (by first | with_reducible assumption | omega) (by first | with_reducible assumption | omega) (by first | with_reducible assumption | omega) (by first | with_reducible assumption | omega) (by first | with_reducible assumption | omega) (by first | with_reducible assumption | omega) (by first | with_reducible assumption | omega) (by first | with_reducible assumption | omega) (by first | with_reducible assumption | omega) (by first | with_reducible assumption | omega) hh23 (by first | with_reducible assumption | omega) (by first | with_reducible assumption | omega) (by first | with_reducible assumption | omega) (by first | with_reducible assumption | omega) (by first | with_reducible assumption | omega) (by first | with_reducible assumption | omega) (by first | with_reducible assumption | omega) (by first | with_reducible assumption | omega) (by first | with_reducible assumption | omega) (by first | with_reducible assumption | omega) (by first | with_reducible assumption | omega) (by first | with_reducible assumption | omega) (by first | with_reducible assumption | omega)) (gV bw_841 bw_842 bw_843 bw_840 bw_836) rfl rfl (by decide +kernel) ⟨by decide, by decide⟩ (ci := 12) (q0 := 0) rfl rfl (fun _ _ _ _ _ => trivial) (fun _ _ _ => trivial) rfl rfl hl.1 (Nat.le_of_ble_eq_true rfl) dX12_mayToday_109 ⟨by decide, by decide⟩) hP hS hA (fun r_87 _ H locs hw0 hP hS => ?_)
                have hw : 0 ≤ r_87.toInt ∧ r_87.toInt ≤ 255 := hw0
                clear hw0
                have w_88 := hw
                refine lv_aload_n hx hb dX12_mayToday_112 rfl (lv_at hl 1 rfl) ?_
                refine lv_iload_n hx hb dX12_mayToday_113 rfl (lv_at hl 2 rfl) ?_
                refine k_iR (k_V (n := 1) ⟨hx, hb, hml, hown, hT⟩ hK hP hD [0, 5] rfl (by decide +kernel) (s_X12_elsewhere l g H.size h mtape mtext mtaped msize mfaultKind mfaultPlace mat mend mtoken mnumber mname mmen mkinds mreasons mtold munits mhonour mdraw mdies mcoin msonOf mkindOf mowner mfirst mlast mrent msort mduelOne mduelOther mduelOn mruleFrom mruleTo mhasHonour mhasDraw mmName mkName mrName mdName mcode mcodeNumber meWhat meSign mpile mbank mrb mcodes mwithin mpiled munitsInRule maskDay maskUses maskSpent mall Fmall mwas macts mundone musedBy0 musedBy1 mmornings mcameFrom mcameBy mlevelAt mwins mslots mlevelOf mworthOf mstates mlevels mside0 mside1 mdeathDay maway mhires mhirer mslotFound misSpent mfound mlaid mlaidRow mgReason mgDay mgTold mgUntold msights mtime mboxAll misBoxed p0 (by first | with_reducible assumption | omega) (by first | with_reducible assumption | omega) (by first | with_reducible assumption | omega) (by first | with_reducible assumption | omega) (by first | with_reducible assumption | omega) (by first | with_reducible assumption | omega) (by first | with_reducible assumption | omega) (by first | with_reducible assumption | omega) (by first | with_reducible assumption | omega) (by first | with_reducible assumption | omega) hh23 (by first | with_reducible assumption | omega) (by first | with_reducible assumption | omega) (by first | with_reducible assumption | omega) (by first | with_reducible assumption | omega) (by first | with_reducible assumption | omega) (by first | with_reducible assumption | omega) (by first | with_reducible assumption | omega) (by first | with_reducible assumption | omega) (by first | with_reducible assumption | omega) (by first | with_reducible assumption | omega) (by first | with_reducible assumption | omega)) (gV bw_900 bw_901 bw_902 bw_840 bw_887) rfl rfl (by decide +kernel) ⟨by decide, by decide⟩ (ci := 12) (q0 := 0) rfl rfl (fun _ _ _ _ _ => trivial) (fun _ _ _ => trivial) rfl rfl hl.1 (Nat.le_of_ble_eq_true rfl) dX12_mayToday_114 ⟨by decide, by decide⟩) hP hS hA (fun r_89 _ H locs hw0 hP hS => ?_)
                have hw : 0 ≤ r_89.toInt ∧ r_89.toInt ≤ 255 := hw0
                clear hw0
                have w_90 := hw
                refine k_iR (k_V (n := 4) ⟨hx, hb, hml, hown, hT⟩ hK hP hD [0, 4] rfl (by decide +kernel) (s_X12_isNew l g H.size h mtape mtext mtaped msize mfaultKind mfaultPlace mat mend mtoken mnumber mname mmen mkinds mreasons mtold munits mhonour mdraw mdies mcoin msonOf mkindOf mowner mfirst mlast mrent msort Fmsort mduelOne mduelOther mduelOn mruleFrom mruleTo mhasHonour mhasDraw mmName mkName mrName mdName mcode mcodeNumber meWhat meSign mpile mbank mrb mcodes mwithin mpiled munitsInRule maskDay maskUses maskSpent mall mwas macts mundone musedBy0 musedBy1 mmornings mcameFrom mcameBy mlevelAt mwins mslots mlevelOf mworthOf mstates mlevels mside0 mside1 mdeathDay maway mhires mhirer mslotFound misSpent mfound mlaid mlaidRow mgReason mgDay mgTold mgUntold msights mtime mboxAll misBoxed p2 r_84 r_87 r_89 (by first | with_reducible assumption | omega) (by first | with_reducible assumption | omega) (by first | with_reducible assumption | omega) (by first | with_reducible assumption | omega) (by first | with_reducible assumption | omega) (by first | with_reducible assumption | omega) (by first | with_reducible assumption | omega) (by first | with_reducible assumption | omega) (by first | with_reducible assumption | omega) (by first | with_reducible assumption | omega) (by first | with_reducible assumption | omega) (by first | with_reducible assumption | omega) (by first | with_reducible assumption | omega) (by first | with_reducible assumption | omega) (by first | with_reducible assumption | omega) (by first | with_reducible assumption | omega) (by first | with_reducible assumption | omega) (by first | with_reducible assumption | omega) (by first | with_reducible assumption | omega) (by first | with_reducible assumption | omega) (by first | with_reducible assumption | omega) (by first | with_reducible assumption | omega)) (gV bw_903 bw_904 bw_905 bw_840 bw_879) rfl rfl (by decide +kernel) ⟨by decide, by decide⟩ (ci := 12) (q0 := 0) rfl rfl (fun _ _ _ _ _ => trivial) (fun _ _ _ => trivial) rfl rfl hl.1 (Nat.le_of_ble_eq_true rfl) dX12_mayToday_117 ⟨by decide, by decide⟩) hP hS hA (fun r_91 _ H locs hw0 hP hS => ?_)
                have hw : (r_91 = 1 ∧ (Bz r_84 p2)) ∨ (r_91 = 0) := hw0
                clear hw0
                rcases hw with ⟨e_93, w_92⟩ | e_94
                · subst e_93
                  refine lv_if_eq (tgt := 127) hx hb dX12_mayToday_120 (by decide) (fun c9 => absurd c9 (by decide)) (fun _ => ?_)
                  refine lv_iconst (v := 1) hx hb dX12_mayToday_123 (by decide) ?_
                  refine lv_goto (tgt := 128) hx hb dX12_mayToday_124 (by decide) ?_
                  have hP9 : va_P g.1 vwCl [] H := hP.sub [] rfl
                  have hD9 : va_D A [] := ⟨fun i j p q h => by simp at h, fun k q h => by simp at h⟩
                  exact W.zret (v := 1) (ty := .boolean) hx hb hr rfl (fun t ht hW => ⟨⟨1, (), rfl, (Or.inl ⟨rfl, w_2⟩), by rw [ht]; exact hP9, by rw [hAe]; exact hD9⟩, hS.F ht⟩) hS.2.2 dX12_mayToday_128
                · subst e_94
                  refine lv_if_eq (tgt := 127) hx hb dX12_mayToday_120 (by decide) (fun _ => ?_) (fun c9 => absurd (by decide) c9)
                  refine lv_iconst (v := 0) hx hb dX12_mayToday_127 (by decide) ?_
                  have hP9 : va_P g.1 vwCl [] H := hP.sub [] rfl
                  have hD9 : va_D A [] := ⟨fun i j p q h => by simp at h, fun k q h => by simp at h⟩
                  exact W.zret (v := 0) (ty := .boolean) hx hb hr rfl (fun t ht hW => ⟨⟨0, (), rfl, (Or.inr (rfl)), by rw [ht]; exact hP9, by rw [hAe]; exact hD9⟩, hS.F ht⟩) hS.2.2 dX12_mayToday_128
        · have f_95 := E_eq (rfl : r_20.toInt = _) (by decide : (0 : Int32).toInt = 0) c_22
          refine lv_iconst (v := 0) hx hb dX12_mayToday_47 (by decide) ?_
          have hP9 : va_P g.1 vwCl [] H := hP.sub [] rfl
          have hD9 : va_D A [] := ⟨fun i j p q h => by simp at h, fun k q h => by simp at h⟩
          exact W.zret (v := 0) (ty := .boolean) hx hb hr rfl (fun t ht hW => ⟨⟨0, (), rfl, (Or.inr (rfl)), by rw [ht]; exact hP9, by rw [hAe]; exact hD9⟩, hS.F ht⟩) hS.2.2 dX12_mayToday_48
  · subst e_4
    refine lv_if_eq (tgt := 47) hx hb dX12_mayToday_5 (by decide) (fun _ => ?_) (fun c9 => absurd (by decide) c9)
    refine lv_iconst (v := 0) hx hb dX12_mayToday_47 (by decide) ?_
    have hP9 : va_P g.1 vwCl [] H := hP.sub [] rfl
    have hD9 : va_D A [] := ⟨fun i j p q h => by simp at h, fun k q h => by simp at h⟩
    exact W.zret (v := 0) (ty := .boolean) hx hb hr rfl (fun t ht hW => ⟨⟨0, (), rfl, (Or.inr (rfl)), by rw [ht]; exact hP9, by rw [hAe]; exact hD9⟩, hS.F ht⟩) hS.2.2 dX12_mayToday_48

theorem bw_910 : Cond.methodLink RX12 437 yX12_isMan ∈ gT := gT_tb 1743 (by decide +kernel) (by decide +kernel)
theorem bw_911 : Cond.instanceMethod yX12_isMan ∈ gT := gT_tb 1745 (by decide +kernel) (by decide +kernel)
theorem bw_912 : Cond.selects RX12 yX12_isMan yX12_isMan ∈ gT := gT_sl 85 (by decide +kernel) (by decide +kernel)
theorem bw_913 : Cond.fieldLink RX12 48 "DuelDelaysModel" "sonOf" "[I" ∈ gT := gT_tb 1325 (by decide +kernel) (by decide +kernel)
theorem bw_914 : Cond.methodLink RX12 443 yX12_diesOn ∈ gT := gT_tb 1754 (by decide +kernel) (by decide +kernel)
theorem bw_915 : Cond.instanceMethod yX12_diesOn ∈ gT := gT_tb 1756 (by decide +kernel) (by decide +kernel)
theorem bw_916 : Cond.selects RX12 yX12_diesOn yX12_diesOn ∈ gT := gT_sl 87 (by decide +kernel) (by decide +kernel)
theorem bw_917 : Cond.code yX12_man cX12_man 3 (some .int) ∈ gT := gT_tb 1742 (by decide +kernel) (by decide +kernel)
theorem dX12_man_0 : decode cX12_man 0 = .ok (.aload_n 0, 1) := by decide +kernel
theorem dX12_man_1 : decode cX12_man 1 = .ok (.iload_n 1, 1) := by decide +kernel
theorem dX12_man_2 : decode cX12_man 2 = .ok (.invokevirtual 437, 3) := by decide +kernel
theorem dX12_man_5 : decode cX12_man 5 = .ok (.ifCond .ne 6, 3) := by decide +kernel
theorem dX12_man_8 : decode cX12_man 8 = .ok (.bipush (-2), 2) := by decide +kernel
theorem dX12_man_10 : decode cX12_man 10 = .ok (.ireturn, 1) := by decide +kernel
theorem dX12_man_11 : decode cX12_man 11 = .ok (.iload_n 2, 1) := by decide +kernel
theorem dX12_man_12 : decode cX12_man 12 = .ok (.tableswitch 90 0 4 #[36, 50, 59, 74, 80], 36) := by decide +kernel
theorem dX12_man_48 : decode cX12_man 48 = .ok (.aload_n 0, 1) := by decide +kernel
theorem dX12_man_49 : decode cX12_man 49 = .ok (.iload_n 1, 1) := by decide +kernel
theorem dX12_man_50 : decode cX12_man 50 = .ok (.invokevirtual 440, 3) := by decide +kernel
theorem dX12_man_53 : decode cX12_man 53 = .ok (.ifCond .eq 7, 3) := by decide +kernel
theorem dX12_man_56 : decode cX12_man 56 = .ok (.iconst 1, 1) := by decide +kernel
theorem dX12_man_57 : decode cX12_man 57 = .ok (.goto 4, 3) := by decide +kernel
theorem dX12_man_60 : decode cX12_man 60 = .ok (.iconst 0, 1) := by decide +kernel
theorem dX12_man_61 : decode cX12_man 61 = .ok (.ireturn, 1) := by decide +kernel
theorem dX12_man_62 : decode cX12_man 62 = .ok (.aload_n 0, 1) := by decide +kernel
theorem dX12_man_63 : decode cX12_man 63 = .ok (.getfield 119, 3) := by decide +kernel
theorem dX12_man_66 : decode cX12_man 66 = .ok (.iconst 1, 1) := by decide +kernel
theorem dX12_man_67 : decode cX12_man 67 = .ok (.iload_n 1, 1) := by decide +kernel
theorem dX12_man_68 : decode cX12_man 68 = .ok (.iadd, 1) := by decide +kernel
theorem dX12_man_69 : decode cX12_man 69 = .ok (.iaload, 1) := by decide +kernel
theorem dX12_man_70 : decode cX12_man 70 = .ok (.ireturn, 1) := by decide +kernel
theorem dX12_man_71 : decode cX12_man 71 = .ok (.aload_n 0, 1) := by decide +kernel
theorem dX12_man_72 : decode cX12_man 72 = .ok (.getfield 48, 3) := by decide +kernel
theorem dX12_man_75 : decode cX12_man 75 = .ok (.bipush 6, 2) := by decide +kernel
theorem dX12_man_77 : decode cX12_man 77 = .ok (.aload_n 0, 1) := by decide +kernel
theorem dX12_man_78 : decode cX12_man 78 = .ok (.getfield 308, 3) := by decide +kernel
theorem dX12_man_81 : decode cX12_man 81 = .ok (.imul, 1) := by decide +kernel
theorem dX12_man_82 : decode cX12_man 82 = .ok (.iload_n 1, 1) := by decide +kernel
theorem dX12_man_83 : decode cX12_man 83 = .ok (.iadd, 1) := by decide +kernel
theorem dX12_man_84 : decode cX12_man 84 = .ok (.iaload, 1) := by decide +kernel
theorem dX12_man_85 : decode cX12_man 85 = .ok (.ireturn, 1) := by decide +kernel
theorem dX12_man_86 : decode cX12_man 86 = .ok (.aload_n 0, 1) := by decide +kernel
theorem dX12_man_87 : decode cX12_man 87 = .ok (.iload_n 1, 1) := by decide +kernel
theorem dX12_man_88 : decode cX12_man 88 = .ok (.invokevirtual 443, 3) := by decide +kernel
theorem dX12_man_91 : decode cX12_man 91 = .ok (.ireturn, 1) := by decide +kernel
theorem dX12_man_92 : decode cX12_man 92 = .ok (.aload_n 0, 1) := by decide +kernel
theorem dX12_man_93 : decode cX12_man 93 = .ok (.getfield 119, 3) := by decide +kernel
theorem dX12_man_96 : decode cX12_man 96 = .ok (.bipush 7, 2) := by decide +kernel
theorem dX12_man_98 : decode cX12_man 98 = .ok (.iload_n 1, 1) := by decide +kernel
theorem dX12_man_99 : decode cX12_man 99 = .ok (.iadd, 1) := by decide +kernel
theorem dX12_man_100 : decode cX12_man 100 = .ok (.iaload, 1) := by decide +kernel
theorem dX12_man_101 : decode cX12_man 101 = .ok (.ireturn, 1) := by decide +kernel
theorem dX12_man_102 : decode cX12_man 102 = .ok (.bipush (-2), 2) := by decide +kernel
theorem dX12_man_104 : decode cX12_man 104 = .ok (.ireturn, 1) := by decide +kernel
set_option maxHeartbeats 40000000 in
set_option maxRecDepth 100000 in
theorem s_X12_man (l : Launch) (g : GG) (sz : Nat) (h : Nat) (mtape : Nat) (mtext : Nat) (mtaped : Int32) (msize : Int32) (mfaultKind : Int32) (mfaultPlace : Int32) (mat : Int32) (mend : Int32) (mtoken : Int32) (mnumber : Int32) (mname : Int64) (mmen : Nat) (Fmmen : Nat → Int32) (mkinds : Nat) (mreasons : Nat) (mtold : Nat) (munits : Nat) (mhonour : Nat) (mdraw : Nat) (mdies : Nat) (Fmdies : Nat → Int32) (mcoin : Nat) (msonOf : Nat) (FmsonOf : Nat → Int32) (mkindOf : Nat) (mowner : Nat) (mfirst : Nat) (mlast : Nat) (mrent : Nat) (msort : Nat) (mduelOne : Nat) (mduelOther : Nat) (mduelOn : Nat) (mruleFrom : Nat) (mruleTo : Nat) (mhasHonour : Nat) (mhasDraw : Nat) (mmName : Nat) (mkName : Nat) (mrName : Nat) (mdName : Nat) (mcode : Nat) (mcodeNumber : Nat) (meWhat : Nat) (meSign : Nat) (mpile : Nat) (mbank : Int32) (mrb : Int32) (mcodes : Int32) (mwithin : Int32) (mpiled : Int32) (munitsInRule : Int32) (maskDay : Int32) (maskUses : Int32) (maskSpent : Int32) (mall : Nat) (Fmall : Nat → Int32) (mwas : Nat) (macts : Int32) (mundone : Int32) (musedBy0 : Nat) (musedBy1 : Nat) (mmornings : Nat) (mcameFrom : Nat) (mcameBy : Nat) (mlevelAt : Nat) (mwins : Nat) (mslots : Nat) (mlevelOf : Nat) (mworthOf : Nat) (mstates : Int32) (mlevels : Int32) (mside0 : Int32) (mside1 : Int32) (mdeathDay : Int32) (maway : Int32) (mhires : Int32) (mhirer : Int32) (mslotFound : Int32) (misSpent : Int32) (mfound : Int32) (mlaid : Int32) (mlaidRow : Nat) (mgReason : Nat) (mgDay : Nat) (mgTold : Nat) (mgUntold : Nat) (msights : Int32) (mtime : Int32) (mboxAll : Nat) (misBoxed : Nat) (p0 : Int32) (p1 : Int32) (hh0 : 0 ≤ mtaped.toInt ∧ mtaped.toInt ≤ 1600) (hh1 : 0 ≤ msize.toInt ∧ msize.toInt ≤ 1600) (hh2 : 0 ≤ mat.toInt ∧ mat.toInt ≤ 1600) (hh3 : 0 ≤ mend.toInt ∧ mend.toInt ≤ 1600) (hh4 : 0 ≤ mtoken.toInt ∧ mtoken.toInt ≤ 5) (hh5 : Rg 2 0 6 Fmmen) (hh11 : Rg 12 (-1) 5 FmsonOf) (hh18 : 0 ≤ mbank.toInt ∧ mbank.toInt ≤ 1) (hh19 : 0 ≤ mrb.toInt ∧ mrb.toInt ≤ 1) (hh20 : 0 ≤ mcodes.toInt ∧ mcodes.toInt ≤ 1120) (hh21 : 0 ≤ mpiled.toInt ∧ mpiled.toInt ≤ 90) (hh22 : 0 ≤ munitsInRule.toInt ∧ munitsInRule.toInt ≤ 30) (hh23 : Ia Fmall) (hh25 : 0 ≤ macts.toInt ∧ macts.toInt ≤ 40) (hh26 : 0 ≤ mundone.toInt ∧ mundone.toInt ≤ 40) (hh34 : 0 ≤ mstates.toInt ∧ mstates.toInt ≤ 3000) (hh35 : 0 ≤ mlevels.toInt ∧ mlevels.toInt ≤ 18) (hh36 : 0 ≤ mside0.toInt ∧ mside0.toInt ≤ 5) (hh37 : 0 ≤ mside1.toInt ∧ mside1.toInt ≤ 5) (hh38 : 0 ≤ mslotFound.toInt ∧ mslotFound.toInt ≤ 8191) (hh39 : 0 ≤ misSpent.toInt ∧ misSpent.toInt ≤ 1) (hh40 : 0 ≤ mlaid.toInt ∧ mlaid.toInt ≤ 16) (hh41 : 0 ≤ msights.toInt ∧ msights.toInt ≤ 30) (hh42 : 0 ≤ mtime.toInt ∧ mtime.toInt ≤ 100000) : Met l yX12_man (.code yX12_man cX12_man 3 (some .int) :: gT) ({ frames := 2, cells := 0, slots := 0, locals := 43 }) (va_Pc [.ref h, .int p0, .int p1] (Pst g sz [(h, .inr (12, [.ref mtape, .ref mtext, .int mtaped, .int msize, .int mfaultKind, .int mfaultPlace, .int mat, .int mend, .int mtoken, .int mnumber, .long mname, .ref mmen, .ref mkinds, .ref mreasons, .ref mtold, .ref munits, .ref mhonour, .ref mdraw, .ref mdies, .ref mcoin, .ref msonOf, .ref mkindOf, .ref mowner, .ref mfirst, .ref mlast, .ref mrent, .ref msort, .ref mduelOne, .ref mduelOther, .ref mduelOn, .ref mruleFrom, .ref mruleTo, .ref mhasHonour, .ref mhasDraw, .ref mmName, .ref mkName, .ref mrName, .ref mdName, .ref mcode, .ref mcodeNumber, .ref meWhat, .ref meSign, .ref mpile, .int mbank, .int mrb, .int mcodes, .int mwithin, .int mpiled, .int munitsInRule, .int maskDay, .int maskUses, .int maskSpent, .ref mall, .ref mwas, .int macts, .int mundone, .ref musedBy0, .ref musedBy1, .ref mmornings, .ref mcameFrom, .ref mcameBy, .ref mlevelAt, .ref mwins, .ref mslots, .ref mlevelOf, .ref mworthOf, .int mstates, .int mlevels, .int mside0, .int mside1, .int mdeathDay, .int maway, .int mhires, .int mhirer, .int mslotFound, .int misSpent, .int mfound, .int mlaid, .ref mlaidRow, .ref mgReason, .ref mgDay, .ref mgTold, .ref mgUntold, .int msights, .int mtime, .ref mboxAll, .ref misBoxed])), (mmen, aI g 2 Fmmen), (mdies, aI g 12 Fmdies), (msonOf, aI g 12 FmsonOf), (mall, aI g 374 Fmall)] nX)) (va_Qi (fun (r : Int32) => fun (_ : Unit) => True) (Qst g [] sz (fun _ => [])) (va_A [] sz)) 0 0 (va_A [] sz) := by
  refine Met.ofW (cc := cX12_man) (maxL := 3) (ret := (some .int)) (by decide) rfl ?_
  intro p e s m args below meth c s₁ B hml hv
  obtain ⟨rfl, hsz, hP, hK, hD0, hX⟩ := hv
  have hx := B.exec
  have hb := B.bytes
  have hr := B.returns
  have hT : ∀ w ∈ gT, w.before _ s = true := fun w h => atoms_spec (ws := .code yX12_man cX12_man 3 (some .int) :: gT) B.pre w (List.mem_cons_of_mem _ h)
  have hown : s.vm.findClass RX12 = some m.cls := findClass_of_methodNamed B.named
  have hlocks := B.notSynchronized
  subst hsz
  have hD := hD0
  generalize hAe : va_A [] s.heap.size = A at ⊢
  have hA : ∀ q : Nat, s.heap.size ≤ q → A q := fun q h => by rw [← hAe]; exact Or.inr h
  have hS : va_S A s.heap s.heap [] := va_S.rf
  have hl := lv_entry ([.ref h, .int p0, .int p1]) (n := 3) (Nat.le_of_ble_eq_true rfl)
  rw [lg_entry_eq]
  generalize (lg_sl ([.ref h, .int p0, .int p1]) ++ List.replicate (3 - (lg_sl ([.ref h, .int p0, .int p1])).length) Slot.unset).toArray = ls at hl ⊢
  have hl : lv_has ls 3 [(0, .ref h), (1, .int p0), (2, .int p1)] := hl
  refine p_nH (fun H hH => ?_)
  have hP : va_P g.1 vwCl [(h, .inr (12, [.ref mtape, .ref mtext, .int mtaped, .int msize, .int mfaultKind, .int mfaultPlace, .int mat, .int mend, .int mtoken, .int mnumber, .long mname, .ref mmen, .ref mkinds, .ref mreasons, .ref mtold, .ref munits, .ref mhonour, .ref mdraw, .ref mdies, .ref mcoin, .ref msonOf, .ref mkindOf, .ref mowner, .ref mfirst, .ref mlast, .ref mrent, .ref msort, .ref mduelOne, .ref mduelOther, .ref mduelOn, .ref mruleFrom, .ref mruleTo, .ref mhasHonour, .ref mhasDraw, .ref mmName, .ref mkName, .ref mrName, .ref mdName, .ref mcode, .ref mcodeNumber, .ref meWhat, .ref meSign, .ref mpile, .int mbank, .int mrb, .int mcodes, .int mwithin, .int mpiled, .int munitsInRule, .int maskDay, .int maskUses, .int maskSpent, .ref mall, .ref mwas, .int macts, .int mundone, .ref musedBy0, .ref musedBy1, .ref mmornings, .ref mcameFrom, .ref mcameBy, .ref mlevelAt, .ref mwins, .ref mslots, .ref mlevelOf, .ref mworthOf, .int mstates, .int mlevels, .int mside0, .int mside1, .int mdeathDay, .int maway, .int mhires, .int mhirer, .int mslotFound, .int misSpent, .int mfound, .int mlaid, .ref mlaidRow, .ref mgReason, .ref mgDay, .ref mgTold, .ref mgUntold, .int msights, .int mtime, .ref mboxAll, .ref misBoxed])), (mmen, aI g 2 Fmmen), (mdies, aI g 12 Fmdies), (msonOf, aI g 12 FmsonOf), (mall, aI g 374 Fmall)] H := by rw [hH]; exact hP
  have hS : va_S A s.heap H [] := by rw [hH]; exact hS
  refine lv_aload_n hx hb dX12_man_0 rfl (lv_at hl 0 rfl) ?_
  refine lv_iload_n hx hb dX12_man_1 rfl (lv_at hl 1 rfl) ?_
  refine k_iR (k_V (n := 1) ⟨hx, hb, hml, hown, hT⟩ hK hP hD [0, 1] rfl (by decide +kernel) (s_X12_isMan l g H.size h mtape mtext mtaped msize mfaultKind mfaultPlace mat mend mtoken mnumber mname mmen Fmmen mkinds mreasons mtold munits mhonour mdraw mdies mcoin msonOf mkindOf mowner mfirst mlast mrent msort mduelOne mduelOther mduelOn mruleFrom mruleTo mhasHonour mhasDraw mmName mkName mrName mdName mcode mcodeNumber meWhat meSign mpile mbank mrb mcodes mwithin mpiled munitsInRule maskDay maskUses maskSpent mall mwas macts mundone musedBy0 musedBy1 mmornings mcameFrom mcameBy mlevelAt mwins mslots mlevelOf mworthOf mstates mlevels mside0 mside1 mdeathDay maway mhires mhirer mslotFound misSpent mfound mlaid mlaidRow mgReason mgDay mgTold mgUntold msights mtime mboxAll misBoxed p0 (by first | with_reducible assumption | omega) (by first | with_reducible assumption | omega) (by first | with_reducible assumption | omega) (by first | with_reducible assumption | omega) (by first | with_reducible assumption | omega) hh5 (by first | with_reducible assumption | omega) (by first | with_reducible assumption | omega) (by first | with_reducible assumption | omega) (by first | with_reducible assumption | omega) (by first | with_reducible assumption | omega) (by first | with_reducible assumption | omega) (by first | with_reducible assumption | omega) (by first | with_reducible assumption | omega) (by first | with_reducible assumption | omega) (by first | with_reducible assumption | omega) (by first | with_reducible assumption | omega) (by first | with_reducible assumption | omega) (by first | with_reducible assumption | omega) (by first | with_reducible assumption | omega) (by first | with_reducible assumption | omega) (by first | with_reducible assumption | omega)) (gV bw_910 bw_911 bw_912 bw_840 bw_829) rfl rfl (by decide +kernel) ⟨by decide, by decide⟩ (ci := 12) (q0 := 0) rfl rfl (fun _ _ _ _ _ => trivial) (fun _ _ _ => trivial) rfl rfl hl.1 (Nat.le_of_ble_eq_true rfl) dX12_man_2 ⟨by decide, by decide⟩) hP hS hA (fun r_1 _ H locs hw0 hP hS => ?_)
  have hw : (r_1 = 1 ∧ (0 ≤ p0.toInt ∧ p0.toInt < (Fmmen mbank.toNatClampNeg).toInt) ∧ (p0.toInt ≤ 5)) ∨ (r_1 = 0) := hw0
  clear hw0
  rcases hw with ⟨e_4, w_2, w_3⟩ | e_5
  · subst e_4
    refine lv_if_ne (tgt := 11) hx hb dX12_man_5 (by decide) (fun _ => ?_) (fun c9 => absurd c9 (by decide))
    refine lv_iload_n hx hb dX12_man_11 rfl (lv_at hl 2 rfl) ?_
    rcases tsplit p1 5 (by decide) with h_6 | ⟨j, hj, eh_6⟩
    · refine lv_tableOut (tgt := 102) hx hb dX12_man_12 (by omega) (by decide) ?_
      refine lv_bipush (v := (-2)) hx hb dX12_man_102 (by decide) ?_
      have hP9 : va_P g.1 vwCl [] H := hP.sub [] rfl
      have hD9 : va_D A [] := ⟨fun i j p q h => by simp at h, fun k q h => by simp at h⟩
      exact W.iret (v := (-2)) hx hb hr (fun t ht hW => ⟨⟨(-2), (), rfl, trivial, by rw [ht]; exact hP9, by rw [hAe]; exact hD9⟩, hS.F ht⟩) hS.2.2 dX12_man_104
    · rcases (show j = 0 ∨ j = 1 ∨ j = 2 ∨ j = 3 ∨ j = 4 by omega) with rfl | rfl | rfl | rfl | rfl
      · obtain rfl : p1 = 0 := eh_6
        refine lv_tableIn (tgt := 48) hx hb dX12_man_12 (by decide) (by decide) (off := 36) (by decide) (by decide) ?_
        refine lv_aload_n hx hb dX12_man_48 rfl (lv_at hl 0 rfl) ?_
        refine lv_iload_n hx hb dX12_man_49 rfl (lv_at hl 1 rfl) ?_
        refine k_iR (k_V (n := 1) ⟨hx, hb, hml, hown, hT⟩ hK hP hD [0, 4] rfl (by decide +kernel) (s_X12_isAlive l g H.size h mtape mtext mtaped msize mfaultKind mfaultPlace mat mend mtoken mnumber mname mmen mkinds mreasons mtold munits mhonour mdraw mdies mcoin msonOf mkindOf mowner mfirst mlast mrent msort mduelOne mduelOther mduelOn mruleFrom mruleTo mhasHonour mhasDraw mmName mkName mrName mdName mcode mcodeNumber meWhat meSign mpile mbank mrb mcodes mwithin mpiled munitsInRule maskDay maskUses maskSpent mall Fmall mwas macts mundone musedBy0 musedBy1 mmornings mcameFrom mcameBy mlevelAt mwins mslots mlevelOf mworthOf mstates mlevels mside0 mside1 mdeathDay maway mhires mhirer mslotFound misSpent mfound mlaid mlaidRow mgReason mgDay mgTold mgUntold msights mtime mboxAll misBoxed p0 (by first | with_reducible assumption | omega) (by first | with_reducible assumption | omega) (by first | with_reducible assumption | omega) (by first | with_reducible assumption | omega) (by first | with_reducible assumption | omega) (by first | with_reducible assumption | omega) (by first | with_reducible assumption | omega) (by first | with_reducible assumption | omega) (by first | with_reducible assumption | omega) (by first | with_reducible assumption | omega) hh23 (by first | with_reducible assumption | omega) (by first | with_reducible assumption | omega) (by first | with_reducible assumption | omega) (by first | with_reducible assumption | omega) (by first | with_reducible assumption | omega) (by first | with_reducible assumption | omega) (by first | with_reducible assumption | omega) (by first | with_reducible assumption | omega) (by first | with_reducible assumption | omega) (by first | with_reducible assumption | omega) (by first | with_reducible assumption | omega)) (gV bw_906 bw_907 bw_908 bw_840 bw_834) rfl rfl (by decide +kernel) ⟨by decide, by decide⟩ (ci := 12) (q0 := 0) rfl rfl (fun _ _ _ _ _ => trivial) (fun _ _ _ => trivial) rfl rfl hl.1 (Nat.le_of_ble_eq_true rfl) dX12_man_50 ⟨by decide, by decide⟩) hP hS hA (fun r_7 _ H locs hw0 hP hS => ?_)
        have hw : 0 ≤ r_7.toInt ∧ r_7.toInt ≤ 1 := hw0
        clear hw0
        have w_8 := hw
        refine lv_if_eq (tgt := 60) hx hb dX12_man_53 (by decide) (fun c_9 => ?_) (fun c_9 => ?_)
        · have f_10 := E_eq (rfl : r_7.toInt = _) (by decide : (0 : Int32).toInt = 0) c_9
          refine lv_iconst (v := 0) hx hb dX12_man_60 (by decide) ?_
          have hP9 : va_P g.1 vwCl [] H := hP.sub [] rfl
          have hD9 : va_D A [] := ⟨fun i j p q h => by simp at h, fun k q h => by simp at h⟩
          exact W.iret (v := 0) hx hb hr (fun t ht hW => ⟨⟨0, (), rfl, trivial, by rw [ht]; exact hP9, by rw [hAe]; exact hD9⟩, hS.F ht⟩) hS.2.2 dX12_man_61
        · have f_11 := E_ne (rfl : r_7.toInt = _) (by decide : (0 : Int32).toInt = 0) c_9
          refine lv_iconst (v := 1) hx hb dX12_man_56 (by decide) ?_
          refine lv_goto (tgt := 61) hx hb dX12_man_57 (by decide) ?_
          have hP9 : va_P g.1 vwCl [] H := hP.sub [] rfl
          have hD9 : va_D A [] := ⟨fun i j p q h => by simp at h, fun k q h => by simp at h⟩
          exact W.iret (v := 1) hx hb hr (fun t ht hW => ⟨⟨1, (), rfl, trivial, by rw [ht]; exact hP9, by rw [hAe]; exact hD9⟩, hS.F ht⟩) hS.2.2 dX12_man_61
      · obtain rfl : p1 = 1 := eh_6
        refine lv_tableIn (tgt := 62) hx hb dX12_man_12 (by decide) (by decide) (off := 50) (by decide) (by decide) ?_
        refine lv_aload_n hx hb dX12_man_62 rfl (lv_at hl 0 rfl) ?_
        refine va_get (D := g.1) (ci := 12) (v := .ref mall) (C := RX12) (T := TX12) (N := 87) hx hb hT inF_X12 hown hK.1 hP 0 rfl rfl 52 (by decide) (hT _ bw_832) (fun _ h9 => h9) rfl dX12_man_63 ?_
        refine lv_iconst (v := 1) hx hb dX12_man_66 (by decide) ?_
        refine lv_iload_n hx hb dX12_man_67 rfl (lv_at hl 1 rfl) ?_
        refine lv_iadd hx hb dX12_man_68 ?_
        refine lv_topi (fun x_12 ex_12 => ?_)
        have fx_12 : x_12.toInt = 1 + p0.toInt := by rw [ex_12]; exact I_add (by decide : (1 : Int32).toInt = 1) rfl (by omega) (by omega)
        have h_13 : vp_in x_12 374 := vp_in_iff.mpr (by omega)
        refine va_iald hx hb hK.1 hP 4 1 rfl rfl (i := x_12) h_13 dX12_man_69 ?_
        refine lv_topi (fun x_14 ex_14 => ?_)
        have cn_15 := clampI (x := x_12) (by omega)
        have mcn_15 : (x_12 : Int32).toNatClampNeg % 374 = (x_12 : Int32).toNatClampNeg := Nat.mod_eq_of_lt (by omega)
        have ux_14 := congrArg Int32.toInt ex_14
        have px_14 : In ((x_12 : Int32).toNatClampNeg % 374) x_14.toInt := Im.rd hh23 h_13 ex_14
        have hP9 : va_P g.1 vwCl [] H := hP.sub [] rfl
        have hD9 : va_D A [] := ⟨fun i j p q h => by simp at h, fun k q h => by simp at h⟩
        exact W.iret (v := x_14) hx hb hr (fun t ht hW => ⟨⟨x_14, (), rfl, trivial, by rw [ht]; exact hP9, by rw [hAe]; exact hD9⟩, hS.F ht⟩) hS.2.2 dX12_man_70
      · obtain rfl : p1 = 2 := eh_6
        refine lv_tableIn (tgt := 71) hx hb dX12_man_12 (by decide) (by decide) (off := 59) (by decide) (by decide) ?_
        refine lv_aload_n hx hb dX12_man_71 rfl (lv_at hl 0 rfl) ?_
        refine va_get (D := g.1) (ci := 12) (v := .ref msonOf) (C := RX12) (T := TX12) (N := 87) hx hb hT inF_X12 hown hK.1 hP 0 rfl rfl 20 (by decide) (hT _ bw_913) (fun _ h9 => h9) rfl dX12_man_72 ?_
        refine lv_bipush (v := 6) hx hb dX12_man_75 (by decide) ?_
        refine lv_aload_n hx hb dX12_man_77 rfl (lv_at hl 0 rfl) ?_
        refine va_get (D := g.1) (ci := 12) (v := .int mbank) (C := RX12) (T := TX12) (N := 87) hx hb hT inF_X12 hown hK.1 hP 0 rfl rfl 43 (by decide) (hT _ bw_825) (fun _ h9 => h9) rfl dX12_man_78 ?_
        refine lv_imul hx hb dX12_man_81 ?_
        refine lv_topi (fun x_16 ex_16 => ?_)
        have fx_16 : x_16.toInt = 6 * mbank.toInt := by rw [ex_16]; exact I_mul (by decide : (6 : Int32).toInt = 6) rfl (by omega) (by omega)
        refine lv_iload_n hx hb dX12_man_82 rfl (lv_at hl 1 rfl) ?_
        refine lv_iadd hx hb dX12_man_83 ?_
        refine lv_topi (fun x_17 ex_17 => ?_)
        have fx_17 : x_17.toInt = x_16.toInt + p0.toInt := by rw [ex_17]; exact I_add rfl rfl (by omega) (by omega)
        have h_18 : vp_in x_17 12 := vp_in_iff.mpr (by omega)
        refine va_iald hx hb hK.1 hP 3 1 rfl rfl (i := x_17) h_18 dX12_man_84 ?_
        refine lv_topi (fun x_19 ex_19 => ?_)
        have fx_19 : (-1) ≤ x_19.toInt ∧ x_19.toInt ≤ 5 := Rg.rd hh11 h_18 ex_19
        have ux_19 := congrArg Int32.toInt ex_19
        have hP9 : va_P g.1 vwCl [] H := hP.sub [] rfl
        have hD9 : va_D A [] := ⟨fun i j p q h => by simp at h, fun k q h => by simp at h⟩
        exact W.iret (v := x_19) hx hb hr (fun t ht hW => ⟨⟨x_19, (), rfl, trivial, by rw [ht]; exact hP9, by rw [hAe]; exact hD9⟩, hS.F ht⟩) hS.2.2 dX12_man_85
      · obtain rfl : p1 = 3 := eh_6
        refine lv_tableIn (tgt := 86) hx hb dX12_man_12 (by decide) (by decide) (off := 74) (by decide) (by decide) ?_
        refine lv_aload_n hx hb dX12_man_86 rfl (lv_at hl 0 rfl) ?_
        refine lv_iload_n hx hb dX12_man_87 rfl (lv_at hl 1 rfl) ?_
        refine k_iR (k_V (n := 1) ⟨hx, hb, hml, hown, hT⟩ hK hP hD [0, 2] rfl (by decide +kernel) (s_X12_diesOn l g H.size h mtape mtext mtaped msize mfaultKind mfaultPlace mat mend mtoken mnumber mname mmen mkinds mreasons mtold munits mhonour mdraw mdies Fmdies mcoin msonOf mkindOf mowner mfirst mlast mrent msort mduelOne mduelOther mduelOn mruleFrom mruleTo mhasHonour mhasDraw mmName mkName mrName mdName mcode mcodeNumber meWhat meSign mpile mbank mrb mcodes mwithin mpiled munitsInRule maskDay maskUses maskSpent mall mwas macts mundone musedBy0 musedBy1 mmornings mcameFrom mcameBy mlevelAt mwins mslots mlevelOf mworthOf mstates mlevels mside0 mside1 mdeathDay maway mhires mhirer mslotFound misSpent mfound mlaid mlaidRow mgReason mgDay mgTold mgUntold msights mtime mboxAll misBoxed p0 (by first | with_reducible assumption | omega) (by first | with_reducible assumption | omega) (by first | with_reducible assumption | omega) (by first | with_reducible assumption | omega) (by first | with_reducible assumption | omega) (by first | with_reducible assumption | omega) (by first | with_reducible assumption | omega) (by first | with_reducible assumption | omega) (by first | with_reducible assumption | omega) (by first | with_reducible assumption | omega) (by first | with_reducible assumption | omega) (by first | with_reducible assumption | omega) (by first | with_reducible assumption | omega) (by first | with_reducible assumption | omega) (by first | with_reducible assumption | omega) (by first | with_reducible assumption | omega) (by first | with_reducible assumption | omega) (by first | with_reducible assumption | omega) (by first | with_reducible assumption | omega) (by first | with_reducible assumption | omega) (by first | with_reducible assumption | omega) (by first | with_reducible assumption | omega)) (gV bw_914 bw_915 bw_916 bw_840 bw_846) rfl rfl (by decide +kernel) ⟨by decide, by decide⟩ (ci := 12) (q0 := 0) rfl rfl (fun _ _ _ _ _ => trivial) (fun _ _ _ => trivial) rfl rfl hl.1 (Nat.le_of_ble_eq_true rfl) dX12_man_88 ⟨by decide, by decide⟩) hP hS hA (fun r_20 _ H locs hw0 hP hS => ?_)
        have hP9 : va_P g.1 vwCl [] H := hP.sub [] rfl
        have hD9 : va_D A [] := ⟨fun i j p q h => by simp at h, fun k q h => by simp at h⟩
        exact W.iret (v := r_20) hx hb hr (fun t ht hW => ⟨⟨r_20, (), rfl, trivial, by rw [ht]; exact hP9, by rw [hAe]; exact hD9⟩, hS.F ht⟩) hS.2.2 dX12_man_91
      · obtain rfl : p1 = 4 := eh_6
        refine lv_tableIn (tgt := 92) hx hb dX12_man_12 (by decide) (by decide) (off := 80) (by decide) (by decide) ?_
        refine lv_aload_n hx hb dX12_man_92 rfl (lv_at hl 0 rfl) ?_
        refine va_get (D := g.1) (ci := 12) (v := .ref mall) (C := RX12) (T := TX12) (N := 87) hx hb hT inF_X12 hown hK.1 hP 0 rfl rfl 52 (by decide) (hT _ bw_832) (fun _ h9 => h9) rfl dX12_man_93 ?_
        refine lv_bipush (v := 7) hx hb dX12_man_96 (by decide) ?_
        refine lv_iload_n hx hb dX12_man_98 rfl (lv_at hl 1 rfl) ?_
        refine lv_iadd hx hb dX12_man_99 ?_
        refine lv_topi (fun x_21 ex_21 => ?_)
        have fx_21 : x_21.toInt = 7 + p0.toInt := by rw [ex_21]; exact I_add (by decide : (7 : Int32).toInt = 7) rfl (by omega) (by omega)
        have h_22 : vp_in x_21 374 := vp_in_iff.mpr (by omega)
        refine va_iald hx hb hK.1 hP 4 1 rfl rfl (i := x_21) h_22 dX12_man_100 ?_
        refine lv_topi (fun x_23 ex_23 => ?_)
        have cn_24 := clampI (x := x_21) (by omega)
        have mcn_24 : (x_21 : Int32).toNatClampNeg % 374 = (x_21 : Int32).toNatClampNeg := Nat.mod_eq_of_lt (by omega)
        have ux_23 := congrArg Int32.toInt ex_23
        have px_23 : In ((x_21 : Int32).toNatClampNeg % 374) x_23.toInt := Im.rd hh23 h_22 ex_23
        have hP9 : va_P g.1 vwCl [] H := hP.sub [] rfl
        have hD9 : va_D A [] := ⟨fun i j p q h => by simp at h, fun k q h => by simp at h⟩
        exact W.iret (v := x_23) hx hb hr (fun t ht hW => ⟨⟨x_23, (), rfl, trivial, by rw [ht]; exact hP9, by rw [hAe]; exact hD9⟩, hS.F ht⟩) hS.2.2 dX12_man_101
  · subst e_5
    refine lv_if_ne (tgt := 11) hx hb dX12_man_5 (by decide) (fun c9 => absurd (by decide) c9) (fun _ => ?_)
    refine lv_bipush (v := (-2)) hx hb dX12_man_8 (by decide) ?_
    have hP9 : va_P g.1 vwCl [] H := hP.sub [] rfl
    have hD9 : va_D A [] := ⟨fun i j p q h => by simp at h, fun k q h => by simp at h⟩
    exact W.iret (v := (-2)) hx hb hr (fun t ht hW => ⟨⟨(-2), (), rfl, trivial, by rw [ht]; exact hP9, by rw [hAe]; exact hD9⟩, hS.F ht⟩) hS.2.2 dX12_man_10

theorem bw_918 : Cond.code yX12_duel cX12_duel 3 (some .int) ∈ gT := gT_tb 1761 (by decide +kernel) (by decide +kernel)
theorem dX12_duel_0 : decode cX12_duel 0 = .ok (.aload_n 0, 1) := by decide +kernel
theorem dX12_duel_1 : decode cX12_duel 1 = .ok (.iload_n 1, 1) := by decide +kernel
theorem dX12_duel_2 : decode cX12_duel 2 = .ok (.invokevirtual 415, 3) := by decide +kernel
theorem dX12_duel_5 : decode cX12_duel 5 = .ok (.ifCond .eq 12, 3) := by decide +kernel
theorem dX12_duel_8 : decode cX12_duel 8 = .ok (.iload_n 2, 1) := by decide +kernel
theorem dX12_duel_9 : decode cX12_duel 9 = .ok (.iconst 0, 1) := by decide +kernel
theorem dX12_duel_10 : decode cX12_duel 10 = .ok (.iconst 5, 1) := by decide +kernel
theorem dX12_duel_11 : decode cX12_duel 11 = .ok (.invokestatic 411, 3) := by decide +kernel
theorem dX12_duel_14 : decode cX12_duel 14 = .ok (.ifCond .ne 6, 3) := by decide +kernel
theorem dX12_duel_17 : decode cX12_duel 17 = .ok (.bipush (-2), 2) := by decide +kernel
theorem dX12_duel_19 : decode cX12_duel 19 = .ok (.ireturn, 1) := by decide +kernel
theorem dX12_duel_20 : decode cX12_duel 20 = .ok (.iload_n 2, 1) := by decide +kernel
theorem dX12_duel_21 : decode cX12_duel 21 = .ok (.iconst 5, 1) := by decide +kernel
theorem dX12_duel_22 : decode cX12_duel 22 = .ok (.if_icmp .ge 12, 3) := by decide +kernel
theorem dX12_duel_25 : decode cX12_duel 25 = .ok (.aload_n 0, 1) := by decide +kernel
theorem dX12_duel_26 : decode cX12_duel 26 = .ok (.iload_n 1, 1) := by decide +kernel
theorem dX12_duel_27 : decode cX12_duel 27 = .ok (.iload_n 2, 1) := by decide +kernel
theorem dX12_duel_28 : decode cX12_duel 28 = .ok (.invokevirtual 418, 3) := by decide +kernel
theorem dX12_duel_31 : decode cX12_duel 31 = .ok (.goto 23, 3) := by decide +kernel
theorem dX12_duel_34 : decode cX12_duel 34 = .ok (.aload_n 0, 1) := by decide +kernel
theorem dX12_duel_35 : decode cX12_duel 35 = .ok (.iload_n 1, 1) := by decide +kernel
theorem dX12_duel_36 : decode cX12_duel 36 = .ok (.iconst 5, 1) := by decide +kernel
theorem dX12_duel_37 : decode cX12_duel 37 = .ok (.invokevirtual 418, 3) := by decide +kernel
theorem dX12_duel_40 : decode cX12_duel 40 = .ok (.invokestatic 446, 3) := by decide +kernel
theorem dX12_duel_43 : decode cX12_duel 43 = .ok (.aload_n 0, 1) := by decide +kernel
theorem dX12_duel_44 : decode cX12_duel 44 = .ok (.iload_n 1, 1) := by decide +kernel
theorem dX12_duel_45 : decode cX12_duel 45 = .ok (.bipush 6, 2) := by decide +kernel
theorem dX12_duel_47 : decode cX12_duel 47 = .ok (.invokevirtual 418, 3) := by decide +kernel
theorem dX12_duel_50 : decode cX12_duel 50 = .ok (.invokestatic 446, 3) := by decide +kernel
theorem dX12_duel_53 : decode cX12_duel 53 = .ok (.iadd, 1) := by decide +kernel
theorem dX12_duel_54 : decode cX12_duel 54 = .ok (.ireturn, 1) := by decide +kernel
set_option maxHeartbeats 40000000 in
set_option maxRecDepth 100000 in
theorem s_X12_duel (l : Launch) (g : GG) (sz : Nat) (h : Nat) (mtape : Nat) (mtext : Nat) (mtaped : Int32) (msize : Int32) (mfaultKind : Int32) (mfaultPlace : Int32) (mat : Int32) (mend : Int32) (mtoken : Int32) (mnumber : Int32) (mname : Int64) (mmen : Nat) (mkinds : Nat) (mreasons : Nat) (mtold : Nat) (munits : Nat) (mhonour : Nat) (mdraw : Nat) (mdies : Nat) (mcoin : Nat) (msonOf : Nat) (mkindOf : Nat) (mowner : Nat) (mfirst : Nat) (mlast : Nat) (mrent : Nat) (msort : Nat) (mduelOne : Nat) (mduelOther : Nat) (mduelOn : Nat) (mruleFrom : Nat) (mruleTo : Nat) (mhasHonour : Nat) (mhasDraw : Nat) (mmName : Nat) (mkName : Nat) (mrName : Nat) (mdName : Nat) (mcode : Nat) (mcodeNumber : Nat) (meWhat : Nat) (meSign : Nat) (mpile : Nat) (mbank : Int32) (mrb : Int32) (mcodes : Int32) (mwithin : Int32) (mpiled : Int32) (munitsInRule : Int32) (maskDay : Int32) (maskUses : Int32) (maskSpent : Int32) (mall : Nat) (Fmall : Nat → Int32) (mwas : Nat) (macts : Int32) (mundone : Int32) (musedBy0 : Nat) (musedBy1 : Nat) (mmornings : Nat) (mcameFrom : Nat) (mcameBy : Nat) (mlevelAt : Nat) (mwins : Nat) (mslots : Nat) (mlevelOf : Nat) (mworthOf : Nat) (mstates : Int32) (mlevels : Int32) (mside0 : Int32) (mside1 : Int32) (mdeathDay : Int32) (maway : Int32) (mhires : Int32) (mhirer : Int32) (mslotFound : Int32) (misSpent : Int32) (mfound : Int32) (mlaid : Int32) (mlaidRow : Nat) (mgReason : Nat) (mgDay : Nat) (mgTold : Nat) (mgUntold : Nat) (msights : Int32) (mtime : Int32) (mboxAll : Nat) (misBoxed : Nat) (p0 : Int32) (p1 : Int32) (hh0 : 0 ≤ mtaped.toInt ∧ mtaped.toInt ≤ 1600) (hh1 : 0 ≤ msize.toInt ∧ msize.toInt ≤ 1600) (hh2 : 0 ≤ mat.toInt ∧ mat.toInt ≤ 1600) (hh3 : 0 ≤ mend.toInt ∧ mend.toInt ≤ 1600) (hh4 : 0 ≤ mtoken.toInt ∧ mtoken.toInt ≤ 5) (hh18 : 0 ≤ mbank.toInt ∧ mbank.toInt ≤ 1) (hh19 : 0 ≤ mrb.toInt ∧ mrb.toInt ≤ 1) (hh20 : 0 ≤ mcodes.toInt ∧ mcodes.toInt ≤ 1120) (hh21 : 0 ≤ mpiled.toInt ∧ mpiled.toInt ≤ 90) (hh22 : 0 ≤ munitsInRule.toInt ∧ munitsInRule.toInt ≤ 30) (hh23 : Ia Fmall) (hh25 : 0 ≤ macts.toInt ∧ macts.toInt ≤ 40) (hh26 : 0 ≤ mundone.toInt ∧ mundone.toInt ≤ 40) (hh34 : 0 ≤ mstates.toInt ∧ mstates.toInt ≤ 3000) (hh35 : 0 ≤ mlevels.toInt ∧ mlevels.toInt ≤ 18) (hh36 : 0 ≤ mside0.toInt ∧ mside0.toInt ≤ 5) (hh37 : 0 ≤ mside1.toInt ∧ mside1.toInt ≤ 5) (hh38 : 0 ≤ mslotFound.toInt ∧ mslotFound.toInt ≤ 8191) (hh39 : 0 ≤ misSpent.toInt ∧ misSpent.toInt ≤ 1) (hh40 : 0 ≤ mlaid.toInt ∧ mlaid.toInt ≤ 16) (hh41 : 0 ≤ msights.toInt ∧ msights.toInt ≤ 30) (hh42 : 0 ≤ mtime.toInt ∧ mtime.toInt ≤ 100000) : Met l yX12_duel (.code yX12_duel cX12_duel 3 (some .int) :: gT) ({ frames := 2, cells := 0, slots := 0, locals := 43 }) (va_Pc [.ref h, .int p0, .int p1] (Pst g sz [(h, .inr (12, [.ref mtape, .ref mtext, .int mtaped, .int msize, .int mfaultKind, .int mfaultPlace, .int mat, .int mend, .int mtoken, .int mnumber, .long mname, .ref mmen, .ref mkinds, .ref mreasons, .ref mtold, .ref munits, .ref mhonour, .ref mdraw, .ref mdies, .ref mcoin, .ref msonOf, .ref mkindOf, .ref mowner, .ref mfirst, .ref mlast, .ref mrent, .ref msort, .ref mduelOne, .ref mduelOther, .ref mduelOn, .ref mruleFrom, .ref mruleTo, .ref mhasHonour, .ref mhasDraw, .ref mmName, .ref mkName, .ref mrName, .ref mdName, .ref mcode, .ref mcodeNumber, .ref meWhat, .ref meSign, .ref mpile, .int mbank, .int mrb, .int mcodes, .int mwithin, .int mpiled, .int munitsInRule, .int maskDay, .int maskUses, .int maskSpent, .ref mall, .ref mwas, .int macts, .int mundone, .ref musedBy0, .ref musedBy1, .ref mmornings, .ref mcameFrom, .ref mcameBy, .ref mlevelAt, .ref mwins, .ref mslots, .ref mlevelOf, .ref mworthOf, .int mstates, .int mlevels, .int mside0, .int mside1, .int mdeathDay, .int maway, .int mhires, .int mhirer, .int mslotFound, .int misSpent, .int mfound, .int mlaid, .ref mlaidRow, .ref mgReason, .ref mgDay, .ref mgTold, .ref mgUntold, .int msights, .int mtime, .ref mboxAll, .ref misBoxed])), (mall, aI g 374 Fmall)] nX)) (va_Qi (fun (r : Int32) => fun (_ : Unit) => True) (Qst g [] sz (fun _ => [])) (va_A [] sz)) 0 0 (va_A [] sz) := by
  refine Met.ofW (cc := cX12_duel) (maxL := 3) (ret := (some .int)) (by decide) rfl ?_
  intro p e s m args below meth c s₁ B hml hv
  obtain ⟨rfl, hsz, hP, hK, hD0, hX⟩ := hv
  have hx := B.exec
  have hb := B.bytes
  have hr := B.returns
  have hT : ∀ w ∈ gT, w.before _ s = true := fun w h => atoms_spec (ws := .code yX12_duel cX12_duel 3 (some .int) :: gT) B.pre w (List.mem_cons_of_mem _ h)
  have hown : s.vm.findClass RX12 = some m.cls := findClass_of_methodNamed B.named
  have hlocks := B.notSynchronized
  subst hsz
  have hD := hD0
  generalize hAe : va_A [] s.heap.size = A at ⊢
  have hA : ∀ q : Nat, s.heap.size ≤ q → A q := fun q h => by rw [← hAe]; exact Or.inr h
  have hS : va_S A s.heap s.heap [] := va_S.rf
  have hl := lv_entry ([.ref h, .int p0, .int p1]) (n := 3) (Nat.le_of_ble_eq_true rfl)
  rw [lg_entry_eq]
  generalize (lg_sl ([.ref h, .int p0, .int p1]) ++ List.replicate (3 - (lg_sl ([.ref h, .int p0, .int p1])).length) Slot.unset).toArray = ls at hl ⊢
  have hl : lv_has ls 3 [(0, .ref h), (1, .int p0), (2, .int p1)] := hl
  refine p_nH (fun H hH => ?_)
  have hP : va_P g.1 vwCl [(h, .inr (12, [.ref mtape, .ref mtext, .int mtaped, .int msize, .int mfaultKind, .int mfaultPlace, .int mat, .int mend, .int mtoken, .int mnumber, .long mname, .ref mmen, .ref mkinds, .ref mreasons, .ref mtold, .ref munits, .ref mhonour, .ref mdraw, .ref mdies, .ref mcoin, .ref msonOf, .ref mkindOf, .ref mowner, .ref mfirst, .ref mlast, .ref mrent, .ref msort, .ref mduelOne, .ref mduelOther, .ref mduelOn, .ref mruleFrom, .ref mruleTo, .ref mhasHonour, .ref mhasDraw, .ref mmName, .ref mkName, .ref mrName, .ref mdName, .ref mcode, .ref mcodeNumber, .ref meWhat, .ref meSign, .ref mpile, .int mbank, .int mrb, .int mcodes, .int mwithin, .int mpiled, .int munitsInRule, .int maskDay, .int maskUses, .int maskSpent, .ref mall, .ref mwas, .int macts, .int mundone, .ref musedBy0, .ref musedBy1, .ref mmornings, .ref mcameFrom, .ref mcameBy, .ref mlevelAt, .ref mwins, .ref mslots, .ref mlevelOf, .ref mworthOf, .int mstates, .int mlevels, .int mside0, .int mside1, .int mdeathDay, .int maway, .int mhires, .int mhirer, .int mslotFound, .int misSpent, .int mfound, .int mlaid, .ref mlaidRow, .ref mgReason, .ref mgDay, .ref mgTold, .ref mgUntold, .int msights, .int mtime, .ref mboxAll, .ref misBoxed])), (mall, aI g 374 Fmall)] H := by rw [hH]; exact hP
  have hS : va_S A s.heap H [] := by rw [hH]; exact hS
  refine lv_aload_n hx hb dX12_duel_0 rfl (lv_at hl 0 rfl) ?_
  refine lv_iload_n hx hb dX12_duel_1 rfl (lv_at hl 1 rfl) ?_
  refine k_iR (k_V (n := 1) ⟨hx, hb, hml, hown, hT⟩ hK hP hD [0, 1] rfl (by decide +kernel) (s_X12_isDuel l g H.size h mtape mtext mtaped msize mfaultKind mfaultPlace mat mend mtoken mnumber mname mmen mkinds mreasons mtold munits mhonour mdraw mdies mcoin msonOf mkindOf mowner mfirst mlast mrent msort mduelOne mduelOther mduelOn mruleFrom mruleTo mhasHonour mhasDraw mmName mkName mrName mdName mcode mcodeNumber meWhat meSign mpile mbank mrb mcodes mwithin mpiled munitsInRule maskDay maskUses maskSpent mall Fmall mwas macts mundone musedBy0 musedBy1 mmornings mcameFrom mcameBy mlevelAt mwins mslots mlevelOf mworthOf mstates mlevels mside0 mside1 mdeathDay maway mhires mhirer mslotFound misSpent mfound mlaid mlaidRow mgReason mgDay mgTold mgUntold msights mtime mboxAll misBoxed p0 (by first | with_reducible assumption | omega) (by first | with_reducible assumption | omega) (by first | with_reducible assumption | omega) (by first | with_reducible assumption | omega) (by first | with_reducible assumption | omega) (by first | with_reducible assumption | omega) (by first | with_reducible assumption | omega) (by first | with_reducible assumption | omega) (by first | with_reducible assumption | omega) (by first | with_reducible assumption | omega) hh23 (by first | with_reducible assumption | omega) (by first | with_reducible assumption | omega) (by first | with_reducible assumption | omega) (by first | with_reducible assumption | omega) (by first | with_reducible assumption | omega) (by first | with_reducible assumption | omega) (by first | with_reducible assumption | omega) (by first | with_reducible assumption | omega) (by first | with_reducible assumption | omega) (by first | with_reducible assumption | omega) (by first | with_reducible assumption | omega)) (gV bw_837 bw_838 bw_839 bw_840 bw_833) rfl rfl (by decide +kernel) ⟨by decide, by decide⟩ (ci := 12) (q0 := 0) rfl rfl (fun _ _ _ _ _ => trivial) (fun _ _ _ => trivial) rfl rfl hl.1 (Nat.le_of_ble_eq_true rfl) dX12_duel_2 ⟨by decide, by decide⟩) hP hS hA (fun r_1 _ H locs hw0 hP hS => ?_)
  have hw : (r_1 = 1 ∧ (0 ≤ p0.toInt ∧ p0.toInt ≤ 7)) ∨ (r_1 = 0) := hw0
  clear hw0
  rcases hw with ⟨e_3, w_2⟩ | e_4
  · subst e_3
    refine lv_if_eq (tgt := 17) hx hb dX12_duel_5 (by decide) (fun c9 => absurd c9 (by decide)) (fun _ => ?_)
    refine lv_iload_n hx hb dX12_duel_8 rfl (lv_at hl 2 rfl) ?_
    refine lv_iconst (v := 0) hx hb dX12_duel_9 (by decide) ?_
    refine lv_iconst (v := 5) hx hb dX12_duel_10 (by decide) ?_
    refine k_iR (k_S (n := 3) ⟨hx, hb, hml, hown, hT⟩ hK hP hD [] rfl (by decide +kernel) (s_X12_isIn l g H.size p1 0 5) (gS bw_826 bw_827 bw_828 bw_817) rfl rfl (by decide +kernel) ⟨by decide, by decide⟩ (fun _ _ _ _ _ => trivial) (fun _ _ _ => trivial) rfl rfl hl.1 (Nat.le_of_ble_eq_true rfl) dX12_duel_11 ⟨by decide, by decide⟩) hP hS hA (fun r_5 _ H locs hw0 hP hS => ?_)
    have hw : (r_5 = 1 ∧ (0 ≤ p1.toInt ∧ p1.toInt ≤ 5)) ∨ (r_5 = 0 ∧ (p1.toInt < 0 ∨ 5 < p1.toInt)) := hw0
    clear hw0
    rcases hw with ⟨e_7, w_6⟩ | ⟨e_9, w_8⟩
    · subst e_7
      refine lv_if_ne (tgt := 20) hx hb dX12_duel_14 (by decide) (fun _ => ?_) (fun c9 => absurd c9 (by decide))
      refine lv_iload_n hx hb dX12_duel_20 rfl (lv_at hl 2 rfl) ?_
      refine lv_iconst (v := 5) hx hb dX12_duel_21 (by decide) ?_
      refine lv_icmp_ge (tgt := 34) hx hb dX12_duel_22 (by decide) (fun c_10 => ?_) (fun c_10 => ?_)
      · have f_11 := E_le (by decide : (5 : Int32).toInt = 5) (rfl : p1.toInt = _) c_10
        refine lv_aload_n hx hb dX12_duel_34 rfl (lv_at hl 0 rfl) ?_
        refine lv_iload_n hx hb dX12_duel_35 rfl (lv_at hl 1 rfl) ?_
        refine lv_iconst (v := 5) hx hb dX12_duel_36 (by decide) ?_
        refine k_iR (k_V (n := 2) ⟨hx, hb, hml, hown, hT⟩ hK hP hD [0, 1] rfl (by decide +kernel) (s_X12_of_5 l g H.size h mtape mtext mtaped msize mfaultKind mfaultPlace mat mend mtoken mnumber mname mmen mkinds mreasons mtold munits mhonour mdraw mdies mcoin msonOf mkindOf mowner mfirst mlast mrent msort mduelOne mduelOther mduelOn mruleFrom mruleTo mhasHonour mhasDraw mmName mkName mrName mdName mcode mcodeNumber meWhat meSign mpile mbank mrb mcodes mwithin mpiled munitsInRule maskDay maskUses maskSpent mall Fmall mwas macts mundone musedBy0 musedBy1 mmornings mcameFrom mcameBy mlevelAt mwins mslots mlevelOf mworthOf mstates mlevels mside0 mside1 mdeathDay maway mhires mhirer mslotFound misSpent mfound mlaid mlaidRow mgReason mgDay mgTold mgUntold msights mtime mboxAll misBoxed p0 (by first | with_reducible assumption | omega) (by first | with_reducible assumption | omega) (by first | with_reducible assumption | omega) (by first | with_reducible assumption | omega) (by first | with_reducible assumption | omega) (by first | with_reducible assumption | omega) (by first | with_reducible assumption | omega) (by first | with_reducible assumption | omega) (by first | with_reducible assumption | omega) (by first | with_reducible assumption | omega) hh23 (by first | with_reducible assumption | omega) (by first | with_reducible assumption | omega) (by first | with_reducible assumption | omega) (by first | with_reducible assumption | omega) (by first | with_reducible assumption | omega) (by first | with_reducible assumption | omega) (by first | with_reducible assumption | omega) (by first | with_reducible assumption | omega) (by first | with_reducible assumption | omega) (by first | with_reducible assumption | omega) (by first | with_reducible assumption | omega) (by first | with_reducible assumption | omega)) (gV bw_841 bw_842 bw_843 bw_840 bw_836) rfl rfl (by decide +kernel) ⟨by decide, by decide⟩ (ci := 12) (q0 := 0) rfl rfl (fun _ _ _ _ _ => trivial) (fun _ _ _ => trivial) rfl rfl hl.1 (Nat.le_of_ble_eq_true rfl) dX12_duel_37 ⟨by decide, by decide⟩) hP hS hA (fun r_12 _ H locs hw0 hP hS => ?_)
        have hw : 0 ≤ r_12.toInt ∧ r_12.toInt ≤ 255 := hw0
        clear hw0
        have w_13 := hw
        refine k_iR (k_S (n := 1) ⟨hx, hb, hml, hown, hT⟩ hK hP hD [] rfl (by decide +kernel) (s_X12_bitsOf l g H.size r_12 (by first | with_reducible assumption | omega)) (gS bw_870 bw_871 bw_872 bw_849) rfl rfl (by decide +kernel) ⟨by decide, by decide⟩ (fun _ _ _ _ _ => trivial) (fun _ _ _ => trivial) rfl rfl hl.1 (Nat.le_of_ble_eq_true rfl) dX12_duel_40 ⟨by decide, by decide⟩) hP hS hA (fun r_14 _ H locs hw0 hP hS => ?_)
        refine lv_aload_n hx hb dX12_duel_43 rfl (lv_at hl 0 rfl) ?_
        refine lv_iload_n hx hb dX12_duel_44 rfl (lv_at hl 1 rfl) ?_
        refine lv_bipush (v := 6) hx hb dX12_duel_45 (by decide) ?_
        refine k_iR (k_V (n := 2) ⟨hx, hb, hml, hown, hT⟩ hK hP hD [0, 1] rfl (by decide +kernel) (s_X12_of_6 l g H.size h mtape mtext mtaped msize mfaultKind mfaultPlace mat mend mtoken mnumber mname mmen mkinds mreasons mtold munits mhonour mdraw mdies mcoin msonOf mkindOf mowner mfirst mlast mrent msort mduelOne mduelOther mduelOn mruleFrom mruleTo mhasHonour mhasDraw mmName mkName mrName mdName mcode mcodeNumber meWhat meSign mpile mbank mrb mcodes mwithin mpiled munitsInRule maskDay maskUses maskSpent mall Fmall mwas macts mundone musedBy0 musedBy1 mmornings mcameFrom mcameBy mlevelAt mwins mslots mlevelOf mworthOf mstates mlevels mside0 mside1 mdeathDay maway mhires mhirer mslotFound misSpent mfound mlaid mlaidRow mgReason mgDay mgTold mgUntold msights mtime mboxAll misBoxed p0 (by first | with_reducible assumption | omega) (by first | with_reducible assumption | omega) (by first | with_reducible assumption | omega) (by first | with_reducible assumption | omega) (by first | with_reducible assumption | omega) (by first | with_reducible assumption | omega) (by first | with_reducible assumption | omega) (by first | with_reducible assumption | omega) (by first | with_reducible assumption | omega) (by first | with_reducible assumption | omega) hh23 (by first | with_reducible assumption | omega) (by first | with_reducible assumption | omega) (by first | with_reducible assumption | omega) (by first | with_reducible assumption | omega) (by first | with_reducible assumption | omega) (by first | with_reducible assumption | omega) (by first | with_reducible assumption | omega) (by first | with_reducible assumption | omega) (by first | with_reducible assumption | omega) (by first | with_reducible assumption | omega) (by first | with_reducible assumption | omega) (by first | with_reducible assumption | omega)) (gV bw_841 bw_842 bw_843 bw_840 bw_836) rfl rfl (by decide +kernel) ⟨by decide, by decide⟩ (ci := 12) (q0 := 0) rfl rfl (fun _ _ _ _ _ => trivial) (fun _ _ _ => trivial) rfl rfl hl.1 (Nat.le_of_ble_eq_true rfl) dX12_duel_47 ⟨by decide, by decide⟩) hP hS hA (fun r_15 _ H locs hw0 hP hS => ?_)
        have hw : 0 ≤ r_15.toInt ∧ r_15.toInt ≤ 255 := hw0
        clear hw0
        have w_16 := hw
        refine k_iR (k_S (n := 1) ⟨hx, hb, hml, hown, hT⟩ hK hP hD [] rfl (by decide +kernel) (s_X12_bitsOf l g H.size r_15 (by first | with_reducible assumption | omega)) (gS bw_870 bw_871 bw_872 bw_849) rfl rfl (by decide +kernel) ⟨by decide, by decide⟩ (fun _ _ _ _ _ => trivial) (fun _ _ _ => trivial) rfl rfl hl.1 (Nat.le_of_ble_eq_true rfl) dX12_duel_50 ⟨by decide, by decide⟩) hP hS hA (fun r_17 _ H locs hw0 hP hS => ?_)
        refine lv_iadd hx hb dX12_duel_53 ?_
        refine lv_topi (fun x_18 ex_18 => ?_)
        have hP9 : va_P g.1 vwCl [] H := hP.sub [] rfl
        have hD9 : va_D A [] := ⟨fun i j p q h => by simp at h, fun k q h => by simp at h⟩
        exact W.iret (v := x_18) hx hb hr (fun t ht hW => ⟨⟨x_18, (), rfl, trivial, by rw [ht]; exact hP9, by rw [hAe]; exact hD9⟩, hS.F ht⟩) hS.2.2 dX12_duel_54
      · have f_19 := E_nle (by decide : (5 : Int32).toInt = 5) (rfl : p1.toInt = _) c_10
        refine lv_aload_n hx hb dX12_duel_25 rfl (lv_at hl 0 rfl) ?_
        refine lv_iload_n hx hb dX12_duel_26 rfl (lv_at hl 1 rfl) ?_
        refine lv_iload_n hx hb dX12_duel_27 rfl (lv_at hl 2 rfl) ?_
        refine k_iR (k_V (n := 2) ⟨hx, hb, hml, hown, hT⟩ hK hP hD [0, 1] rfl (by decide +kernel) (s_X12_of_a l g H.size h mtape mtext mtaped msize mfaultKind mfaultPlace mat mend mtoken mnumber mname mmen mkinds mreasons mtold munits mhonour mdraw mdies mcoin msonOf mkindOf mowner mfirst mlast mrent msort mduelOne mduelOther mduelOn mruleFrom mruleTo mhasHonour mhasDraw mmName mkName mrName mdName mcode mcodeNumber meWhat meSign mpile mbank mrb mcodes mwithin mpiled munitsInRule maskDay maskUses maskSpent mall Fmall mwas macts mundone musedBy0 musedBy1 mmornings mcameFrom mcameBy mlevelAt mwins mslots mlevelOf mworthOf mstates mlevels mside0 mside1 mdeathDay maway mhires mhirer mslotFound misSpent mfound mlaid mlaidRow mgReason mgDay mgTold mgUntold msights mtime mboxAll misBoxed p0 p1 (by first | with_reducible assumption | omega) (by first | with_reducible assumption | omega) (by first | with_reducible assumption | omega) (by first | with_reducible assumption | omega) (by first | with_reducible assumption | omega) (by first | with_reducible assumption | omega) (by first | with_reducible assumption | omega) (by first | with_reducible assumption | omega) (by first | with_reducible assumption | omega) (by first | with_reducible assumption | omega) hh23 (by first | with_reducible assumption | omega) (by first | with_reducible assumption | omega) (by first | with_reducible assumption | omega) (by first | with_reducible assumption | omega) (by first | with_reducible assumption | omega) (by first | with_reducible assumption | omega) (by first | with_reducible assumption | omega) (by first | with_reducible assumption | omega) (by first | with_reducible assumption | omega) (by first | with_reducible assumption | omega) (by first | with_reducible assumption | omega) (by first | with_reducible assumption | omega) (by first | with_reducible assumption | omega)) (gV bw_841 bw_842 bw_843 bw_840 bw_836) rfl rfl (by decide +kernel) ⟨by decide, by decide⟩ (ci := 12) (q0 := 0) rfl rfl (fun _ _ _ _ _ => trivial) (fun _ _ _ => trivial) rfl rfl hl.1 (Nat.le_of_ble_eq_true rfl) dX12_duel_28 ⟨by decide, by decide⟩) hP hS hA (fun r_20 _ H locs hw0 hP hS => ?_)
        refine lv_goto (tgt := 54) hx hb dX12_duel_31 (by decide) ?_
        have hP9 : va_P g.1 vwCl [] H := hP.sub [] rfl
        have hD9 : va_D A [] := ⟨fun i j p q h => by simp at h, fun k q h => by simp at h⟩
        exact W.iret (v := r_20) hx hb hr (fun t ht hW => ⟨⟨r_20, (), rfl, trivial, by rw [ht]; exact hP9, by rw [hAe]; exact hD9⟩, hS.F ht⟩) hS.2.2 dX12_duel_54
    · subst e_9
      refine lv_if_ne (tgt := 20) hx hb dX12_duel_14 (by decide) (fun c9 => absurd (by decide) c9) (fun _ => ?_)
      refine lv_bipush (v := (-2)) hx hb dX12_duel_17 (by decide) ?_
      have hP9 : va_P g.1 vwCl [] H := hP.sub [] rfl
      have hD9 : va_D A [] := ⟨fun i j p q h => by simp at h, fun k q h => by simp at h⟩
      exact W.iret (v := (-2)) hx hb hr (fun t ht hW => ⟨⟨(-2), (), rfl, trivial, by rw [ht]; exact hP9, by rw [hAe]; exact hD9⟩, hS.F ht⟩) hS.2.2 dX12_duel_19
  · subst e_4
    refine lv_if_eq (tgt := 17) hx hb dX12_duel_5 (by decide) (fun _ => ?_) (fun c9 => absurd (by decide) c9)
    refine lv_bipush (v := (-2)) hx hb dX12_duel_17 (by decide) ?_
    have hP9 : va_P g.1 vwCl [] H := hP.sub [] rfl
    have hD9 : va_D A [] := ⟨fun i j p q h => by simp at h, fun k q h => by simp at h⟩
    exact W.iret (v := (-2)) hx hb hr (fun t ht hW => ⟨⟨(-2), (), rfl, trivial, by rw [ht]; exact hP9, by rw [hAe]; exact hD9⟩, hS.F ht⟩) hS.2.2 dX12_duel_19

theorem bw_919 : Cond.methodLink RX12 449 yX12_isReason ∈ gT := gT_tb 1777 (by decide +kernel) (by decide +kernel)
theorem bw_920 : Cond.instanceMethod yX12_isReason ∈ gT := gT_tb 1779 (by decide +kernel) (by decide +kernel)
theorem bw_921 : Cond.selects RX12 yX12_isReason yX12_isReason ∈ gT := gT_sl 90 (by decide +kernel) (by decide +kernel)
theorem bw_922 : Cond.fieldLink RX12 63 "DuelDelaysModel" "rent" "[I" ∈ gT := gT_tb 1330 (by decide +kernel) (by decide +kernel)
theorem bw_923 : Cond.code yX12_reason cX12_reason 6 (some .int) ∈ gT := gT_tb 1776 (by decide +kernel) (by decide +kernel)
theorem dX12_reason_0 : decode cX12_reason 0 = .ok (.aload_n 0, 1) := by decide +kernel
theorem dX12_reason_1 : decode cX12_reason 1 = .ok (.iload_n 1, 1) := by decide +kernel
theorem dX12_reason_2 : decode cX12_reason 2 = .ok (.invokevirtual 449, 3) := by decide +kernel
theorem dX12_reason_5 : decode cX12_reason 5 = .ok (.ifCond .ne 6, 3) := by decide +kernel
theorem dX12_reason_8 : decode cX12_reason 8 = .ok (.bipush (-2), 2) := by decide +kernel
theorem dX12_reason_10 : decode cX12_reason 10 = .ok (.ireturn, 1) := by decide +kernel
theorem dX12_reason_11 : decode cX12_reason 11 = .ok (.bipush 8, 2) := by decide +kernel
theorem dX12_reason_13 : decode cX12_reason 13 = .ok (.aload_n 0, 1) := by decide +kernel
theorem dX12_reason_14 : decode cX12_reason 14 = .ok (.getfield 308, 3) := by decide +kernel
theorem dX12_reason_17 : decode cX12_reason 17 = .ok (.imul, 1) := by decide +kernel
theorem dX12_reason_18 : decode cX12_reason 18 = .ok (.iload_n 1, 1) := by decide +kernel
theorem dX12_reason_19 : decode cX12_reason 19 = .ok (.iadd, 1) := by decide +kernel
theorem dX12_reason_20 : decode cX12_reason 20 = .ok (.istore_n 3, 1) := by decide +kernel
theorem dX12_reason_21 : decode cX12_reason 21 = .ok (.iconst 0, 1) := by decide +kernel
theorem dX12_reason_22 : decode cX12_reason 22 = .ok (.istore 4, 2) := by decide +kernel
theorem dX12_reason_24 : decode cX12_reason 24 = .ok (.iconst 0, 1) := by decide +kernel
theorem dX12_reason_25 : decode cX12_reason 25 = .ok (.istore 5, 2) := by decide +kernel
theorem dX12_reason_27 : decode cX12_reason 27 = .ok (.iload 5, 2) := by decide +kernel
theorem dX12_reason_29 : decode cX12_reason 29 = .ok (.aload_n 0, 1) := by decide +kernel
theorem dX12_reason_30 : decode cX12_reason 30 = .ok (.getfield 119, 3) := by decide +kernel
theorem dX12_reason_33 : decode cX12_reason 33 = .ok (.bipush 70, 2) := by decide +kernel
theorem dX12_reason_35 : decode cX12_reason 35 = .ok (.iaload, 1) := by decide +kernel
theorem dX12_reason_36 : decode cX12_reason 36 = .ok (.if_icmp .ge 38, 3) := by decide +kernel
theorem dX12_reason_39 : decode cX12_reason 39 = .ok (.iload 4, 2) := by decide +kernel
theorem dX12_reason_41 : decode cX12_reason 41 = .ok (.aload_n 0, 1) := by decide +kernel
theorem dX12_reason_42 : decode cX12_reason 42 = .ok (.iload 5, 2) := by decide +kernel
theorem dX12_reason_44 : decode cX12_reason 44 = .ok (.iconst 5, 1) := by decide +kernel
theorem dX12_reason_45 : decode cX12_reason 45 = .ok (.invokevirtual 418, 3) := by decide +kernel
theorem dX12_reason_48 : decode cX12_reason 48 = .ok (.iload_n 1, 1) := by decide +kernel
theorem dX12_reason_49 : decode cX12_reason 49 = .ok (.ishr, 1) := by decide +kernel
theorem dX12_reason_50 : decode cX12_reason 50 = .ok (.iconst 1, 1) := by decide +kernel
theorem dX12_reason_51 : decode cX12_reason 51 = .ok (.iand, 1) := by decide +kernel
theorem dX12_reason_52 : decode cX12_reason 52 = .ok (.aload_n 0, 1) := by decide +kernel
theorem dX12_reason_53 : decode cX12_reason 53 = .ok (.iload 5, 2) := by decide +kernel
theorem dX12_reason_55 : decode cX12_reason 55 = .ok (.bipush 6, 2) := by decide +kernel
theorem dX12_reason_57 : decode cX12_reason 57 = .ok (.invokevirtual 418, 3) := by decide +kernel
theorem dX12_reason_60 : decode cX12_reason 60 = .ok (.iload_n 1, 1) := by decide +kernel
theorem dX12_reason_61 : decode cX12_reason 61 = .ok (.ishr, 1) := by decide +kernel
theorem dX12_reason_62 : decode cX12_reason 62 = .ok (.iconst 1, 1) := by decide +kernel
theorem dX12_reason_63 : decode cX12_reason 63 = .ok (.iand, 1) := by decide +kernel
theorem dX12_reason_64 : decode cX12_reason 64 = .ok (.iadd, 1) := by decide +kernel
theorem dX12_reason_65 : decode cX12_reason 65 = .ok (.iadd, 1) := by decide +kernel
theorem dX12_reason_66 : decode cX12_reason 66 = .ok (.istore 4, 2) := by decide +kernel
theorem dX12_reason_68 : decode cX12_reason 68 = .ok (.iinc 5 1, 3) := by decide +kernel
theorem dX12_reason_71 : decode cX12_reason 71 = .ok (.goto (-44), 3) := by decide +kernel
theorem dX12_reason_74 : decode cX12_reason 74 = .ok (.iload_n 2, 1) := by decide +kernel
theorem dX12_reason_75 : decode cX12_reason 75 = .ok (.tableswitch 104 0 7 #[45, 52, 59, 66, 73, 80, 87, 101], 45) := by decide +kernel
theorem dX12_reason_120 : decode cX12_reason 120 = .ok (.aload_n 0, 1) := by decide +kernel
theorem dX12_reason_121 : decode cX12_reason 121 = .ok (.getfield 51, 3) := by decide +kernel
theorem dX12_reason_124 : decode cX12_reason 124 = .ok (.iload_n 3, 1) := by decide +kernel
theorem dX12_reason_125 : decode cX12_reason 125 = .ok (.iaload, 1) := by decide +kernel
theorem dX12_reason_126 : decode cX12_reason 126 = .ok (.ireturn, 1) := by decide +kernel
theorem dX12_reason_127 : decode cX12_reason 127 = .ok (.aload_n 0, 1) := by decide +kernel
theorem dX12_reason_128 : decode cX12_reason 128 = .ok (.getfield 54, 3) := by decide +kernel
theorem dX12_reason_131 : decode cX12_reason 131 = .ok (.iload_n 3, 1) := by decide +kernel
theorem dX12_reason_132 : decode cX12_reason 132 = .ok (.iaload, 1) := by decide +kernel
theorem dX12_reason_133 : decode cX12_reason 133 = .ok (.ireturn, 1) := by decide +kernel
theorem dX12_reason_134 : decode cX12_reason 134 = .ok (.aload_n 0, 1) := by decide +kernel
theorem dX12_reason_135 : decode cX12_reason 135 = .ok (.getfield 57, 3) := by decide +kernel
theorem dX12_reason_138 : decode cX12_reason 138 = .ok (.iload_n 3, 1) := by decide +kernel
theorem dX12_reason_139 : decode cX12_reason 139 = .ok (.iaload, 1) := by decide +kernel
theorem dX12_reason_140 : decode cX12_reason 140 = .ok (.ireturn, 1) := by decide +kernel
theorem dX12_reason_141 : decode cX12_reason 141 = .ok (.aload_n 0, 1) := by decide +kernel
theorem dX12_reason_142 : decode cX12_reason 142 = .ok (.getfield 60, 3) := by decide +kernel
theorem dX12_reason_145 : decode cX12_reason 145 = .ok (.iload_n 3, 1) := by decide +kernel
theorem dX12_reason_146 : decode cX12_reason 146 = .ok (.iaload, 1) := by decide +kernel
theorem dX12_reason_147 : decode cX12_reason 147 = .ok (.ireturn, 1) := by decide +kernel
theorem dX12_reason_148 : decode cX12_reason 148 = .ok (.aload_n 0, 1) := by decide +kernel
theorem dX12_reason_149 : decode cX12_reason 149 = .ok (.getfield 63, 3) := by decide +kernel
theorem dX12_reason_152 : decode cX12_reason 152 = .ok (.iload_n 3, 1) := by decide +kernel
theorem dX12_reason_153 : decode cX12_reason 153 = .ok (.iaload, 1) := by decide +kernel
theorem dX12_reason_154 : decode cX12_reason 154 = .ok (.ireturn, 1) := by decide +kernel
theorem dX12_reason_155 : decode cX12_reason 155 = .ok (.aload_n 0, 1) := by decide +kernel
theorem dX12_reason_156 : decode cX12_reason 156 = .ok (.getfield 66, 3) := by decide +kernel
theorem dX12_reason_159 : decode cX12_reason 159 = .ok (.iload_n 3, 1) := by decide +kernel
theorem dX12_reason_160 : decode cX12_reason 160 = .ok (.iaload, 1) := by decide +kernel
theorem dX12_reason_161 : decode cX12_reason 161 = .ok (.ireturn, 1) := by decide +kernel
theorem dX12_reason_162 : decode cX12_reason 162 = .ok (.aload_n 0, 1) := by decide +kernel
theorem dX12_reason_163 : decode cX12_reason 163 = .ok (.iload_n 1, 1) := by decide +kernel
theorem dX12_reason_164 : decode cX12_reason 164 = .ok (.invokevirtual 452, 3) := by decide +kernel
theorem dX12_reason_167 : decode cX12_reason 167 = .ok (.ifCond .eq 7, 3) := by decide +kernel
theorem dX12_reason_170 : decode cX12_reason 170 = .ok (.iconst 1, 1) := by decide +kernel
theorem dX12_reason_171 : decode cX12_reason 171 = .ok (.goto 4, 3) := by decide +kernel
theorem dX12_reason_174 : decode cX12_reason 174 = .ok (.iconst 0, 1) := by decide +kernel
theorem dX12_reason_175 : decode cX12_reason 175 = .ok (.ireturn, 1) := by decide +kernel
theorem dX12_reason_176 : decode cX12_reason 176 = .ok (.iload 4, 2) := by decide +kernel
theorem dX12_reason_178 : decode cX12_reason 178 = .ok (.ireturn, 1) := by decide +kernel
theorem dX12_reason_179 : decode cX12_reason 179 = .ok (.bipush (-2), 2) := by decide +kernel
theorem dX12_reason_181 : decode cX12_reason 181 = .ok (.ireturn, 1) := by decide +kernel
set_option maxHeartbeats 40000000 in
set_option maxRecDepth 100000 in
theorem s_X12_reason (l : Launch) (g : GG) (sz : Nat) (h : Nat) (mtape : Nat) (mtext : Nat) (mtaped : Int32) (msize : Int32) (mfaultKind : Int32) (mfaultPlace : Int32) (mat : Int32) (mend : Int32) (mtoken : Int32) (mnumber : Int32) (mname : Int64) (mmen : Nat) (mkinds : Nat) (mreasons : Nat) (Fmreasons : Nat → Int32) (mtold : Nat) (munits : Nat) (mhonour : Nat) (mdraw : Nat) (mdies : Nat) (mcoin : Nat) (msonOf : Nat) (mkindOf : Nat) (FmkindOf : Nat → Int32) (mowner : Nat) (Fmowner : Nat → Int32) (mfirst : Nat) (Fmfirst : Nat → Int32) (mlast : Nat) (Fmlast : Nat → Int32) (mrent : Nat) (Fmrent : Nat → Int32) (msort : Nat) (Fmsort : Nat → Int32) (mduelOne : Nat) (mduelOther : Nat) (mduelOn : Nat) (mruleFrom : Nat) (mruleTo : Nat) (mhasHonour : Nat) (mhasDraw : Nat) (mmName : Nat) (mkName : Nat) (mrName : Nat) (mdName : Nat) (mcode : Nat) (mcodeNumber : Nat) (meWhat : Nat) (meSign : Nat) (mpile : Nat) (mbank : Int32) (mrb : Int32) (mcodes : Int32) (mwithin : Int32) (mpiled : Int32) (munitsInRule : Int32) (maskDay : Int32) (maskUses : Int32) (maskSpent : Int32) (mall : Nat) (Fmall : Nat → Int32) (mwas : Nat) (macts : Int32) (mundone : Int32) (musedBy0 : Nat) (musedBy1 : Nat) (mmornings : Nat) (mcameFrom : Nat) (mcameBy : Nat) (mlevelAt : Nat) (mwins : Nat) (mslots : Nat) (mlevelOf : Nat) (mworthOf : Nat) (mstates : Int32) (mlevels : Int32) (mside0 : Int32) (mside1 : Int32) (mdeathDay : Int32) (maway : Int32) (mhires : Int32) (mhirer : Int32) (mslotFound : Int32) (misSpent : Int32) (mfound : Int32) (mlaid : Int32) (mlaidRow : Nat) (mgReason : Nat) (mgDay : Nat) (mgTold : Nat) (mgUntold : Nat) (msights : Int32) (mtime : Int32) (mboxAll : Nat) (misBoxed : Nat) (p0 : Int32) (p1 : Int32) (hh0 : 0 ≤ mtaped.toInt ∧ mtaped.toInt ≤ 1600) (hh1 : 0 ≤ msize.toInt ∧ msize.toInt ≤ 1600) (hh2 : 0 ≤ mat.toInt ∧ mat.toInt ≤ 1600) (hh3 : 0 ≤ mend.toInt ∧ mend.toInt ≤ 1600) (hh4 : 0 ≤ mtoken.toInt ∧ mtoken.toInt ≤ 5) (hh7 : Rg 2 0 8 Fmreasons) (hh12 : Rg 16 0 3 FmkindOf) (hh13 : Rg 16 (-1) 5 Fmowner) (hh18 : 0 ≤ mbank.toInt ∧ mbank.toInt ≤ 1) (hh19 : 0 ≤ mrb.toInt ∧ mrb.toInt ≤ 1) (hh20 : 0 ≤ mcodes.toInt ∧ mcodes.toInt ≤ 1120) (hh21 : 0 ≤ mpiled.toInt ∧ mpiled.toInt ≤ 90) (hh22 : 0 ≤ munitsInRule.toInt ∧ munitsInRule.toInt ≤ 30) (hh23 : Ia Fmall) (hh25 : 0 ≤ macts.toInt ∧ macts.toInt ≤ 40) (hh26 : 0 ≤ mundone.toInt ∧ mundone.toInt ≤ 40) (hh34 : 0 ≤ mstates.toInt ∧ mstates.toInt ≤ 3000) (hh35 : 0 ≤ mlevels.toInt ∧ mlevels.toInt ≤ 18) (hh36 : 0 ≤ mside0.toInt ∧ mside0.toInt ≤ 5) (hh37 : 0 ≤ mside1.toInt ∧ mside1.toInt ≤ 5) (hh38 : 0 ≤ mslotFound.toInt ∧ mslotFound.toInt ≤ 8191) (hh39 : 0 ≤ misSpent.toInt ∧ misSpent.toInt ≤ 1) (hh40 : 0 ≤ mlaid.toInt ∧ mlaid.toInt ≤ 16) (hh41 : 0 ≤ msights.toInt ∧ msights.toInt ≤ 30) (hh42 : 0 ≤ mtime.toInt ∧ mtime.toInt ≤ 100000) : Met l yX12_reason (.code yX12_reason cX12_reason 6 (some .int) :: gT) ({ frames := 2, cells := 0, slots := 0, locals := 43 }) (va_Pc [.ref h, .int p0, .int p1] (Pst g sz [(h, .inr (12, [.ref mtape, .ref mtext, .int mtaped, .int msize, .int mfaultKind, .int mfaultPlace, .int mat, .int mend, .int mtoken, .int mnumber, .long mname, .ref mmen, .ref mkinds, .ref mreasons, .ref mtold, .ref munits, .ref mhonour, .ref mdraw, .ref mdies, .ref mcoin, .ref msonOf, .ref mkindOf, .ref mowner, .ref mfirst, .ref mlast, .ref mrent, .ref msort, .ref mduelOne, .ref mduelOther, .ref mduelOn, .ref mruleFrom, .ref mruleTo, .ref mhasHonour, .ref mhasDraw, .ref mmName, .ref mkName, .ref mrName, .ref mdName, .ref mcode, .ref mcodeNumber, .ref meWhat, .ref meSign, .ref mpile, .int mbank, .int mrb, .int mcodes, .int mwithin, .int mpiled, .int munitsInRule, .int maskDay, .int maskUses, .int maskSpent, .ref mall, .ref mwas, .int macts, .int mundone, .ref musedBy0, .ref musedBy1, .ref mmornings, .ref mcameFrom, .ref mcameBy, .ref mlevelAt, .ref mwins, .ref mslots, .ref mlevelOf, .ref mworthOf, .int mstates, .int mlevels, .int mside0, .int mside1, .int mdeathDay, .int maway, .int mhires, .int mhirer, .int mslotFound, .int misSpent, .int mfound, .int mlaid, .ref mlaidRow, .ref mgReason, .ref mgDay, .ref mgTold, .ref mgUntold, .int msights, .int mtime, .ref mboxAll, .ref misBoxed])), (mreasons, aI g 2 Fmreasons), (mkindOf, aI g 16 FmkindOf), (mowner, aI g 16 Fmowner), (mfirst, aI g 16 Fmfirst), (mlast, aI g 16 Fmlast), (mrent, aI g 16 Fmrent), (msort, aI g 16 Fmsort), (mall, aI g 374 Fmall)] nX)) (va_Qi (fun (r : Int32) => fun (_ : Unit) => True) (Qst g [] sz (fun _ => [])) (va_A [] sz)) 0 0 (va_A [] sz) := by
  refine Met.ofW (cc := cX12_reason) (maxL := 6) (ret := (some .int)) (by decide) rfl ?_
  intro p e s m args below meth c s₁ B hml hv
  obtain ⟨rfl, hsz, hP, hK, hD0, hX⟩ := hv
  have hx := B.exec
  have hb := B.bytes
  have hr := B.returns
  have hT : ∀ w ∈ gT, w.before _ s = true := fun w h => atoms_spec (ws := .code yX12_reason cX12_reason 6 (some .int) :: gT) B.pre w (List.mem_cons_of_mem _ h)
  have hown : s.vm.findClass RX12 = some m.cls := findClass_of_methodNamed B.named
  have hlocks := B.notSynchronized
  subst hsz
  have hD := hD0
  generalize hAe : va_A [] s.heap.size = A at ⊢
  have hA : ∀ q : Nat, s.heap.size ≤ q → A q := fun q h => by rw [← hAe]; exact Or.inr h
  have hS : va_S A s.heap s.heap [] := va_S.rf
  have hl := lv_entry ([.ref h, .int p0, .int p1]) (n := 6) (Nat.le_of_ble_eq_true rfl)
  rw [lg_entry_eq]
  generalize (lg_sl ([.ref h, .int p0, .int p1]) ++ List.replicate (6 - (lg_sl ([.ref h, .int p0, .int p1])).length) Slot.unset).toArray = ls at hl ⊢
  have hl : lv_has ls 6 [(0, .ref h), (1, .int p0), (2, .int p1)] := hl
  refine p_nH (fun H hH => ?_)
  have hP : va_P g.1 vwCl [(h, .inr (12, [.ref mtape, .ref mtext, .int mtaped, .int msize, .int mfaultKind, .int mfaultPlace, .int mat, .int mend, .int mtoken, .int mnumber, .long mname, .ref mmen, .ref mkinds, .ref mreasons, .ref mtold, .ref munits, .ref mhonour, .ref mdraw, .ref mdies, .ref mcoin, .ref msonOf, .ref mkindOf, .ref mowner, .ref mfirst, .ref mlast, .ref mrent, .ref msort, .ref mduelOne, .ref mduelOther, .ref mduelOn, .ref mruleFrom, .ref mruleTo, .ref mhasHonour, .ref mhasDraw, .ref mmName, .ref mkName, .ref mrName, .ref mdName, .ref mcode, .ref mcodeNumber, .ref meWhat, .ref meSign, .ref mpile, .int mbank, .int mrb, .int mcodes, .int mwithin, .int mpiled, .int munitsInRule, .int maskDay, .int maskUses, .int maskSpent, .ref mall, .ref mwas, .int macts, .int mundone, .ref musedBy0, .ref musedBy1, .ref mmornings, .ref mcameFrom, .ref mcameBy, .ref mlevelAt, .ref mwins, .ref mslots, .ref mlevelOf, .ref mworthOf, .int mstates, .int mlevels, .int mside0, .int mside1, .int mdeathDay, .int maway, .int mhires, .int mhirer, .int mslotFound, .int misSpent, .int mfound, .int mlaid, .ref mlaidRow, .ref mgReason, .ref mgDay, .ref mgTold, .ref mgUntold, .int msights, .int mtime, .ref mboxAll, .ref misBoxed])), (mreasons, aI g 2 Fmreasons), (mkindOf, aI g 16 FmkindOf), (mowner, aI g 16 Fmowner), (mfirst, aI g 16 Fmfirst), (mlast, aI g 16 Fmlast), (mrent, aI g 16 Fmrent), (msort, aI g 16 Fmsort), (mall, aI g 374 Fmall)] H := by rw [hH]; exact hP
  have hS : va_S A s.heap H [] := by rw [hH]; exact hS
  refine lv_aload_n hx hb dX12_reason_0 rfl (lv_at hl 0 rfl) ?_
  refine lv_iload_n hx hb dX12_reason_1 rfl (lv_at hl 1 rfl) ?_
  refine k_iR (k_V (n := 1) ⟨hx, hb, hml, hown, hT⟩ hK hP hD [0, 1] rfl (by decide +kernel) (s_X12_isReason l g H.size h mtape mtext mtaped msize mfaultKind mfaultPlace mat mend mtoken mnumber mname mmen mkinds mreasons Fmreasons mtold munits mhonour mdraw mdies mcoin msonOf mkindOf mowner mfirst mlast mrent msort mduelOne mduelOther mduelOn mruleFrom mruleTo mhasHonour mhasDraw mmName mkName mrName mdName mcode mcodeNumber meWhat meSign mpile mbank mrb mcodes mwithin mpiled munitsInRule maskDay maskUses maskSpent mall mwas macts mundone musedBy0 musedBy1 mmornings mcameFrom mcameBy mlevelAt mwins mslots mlevelOf mworthOf mstates mlevels mside0 mside1 mdeathDay maway mhires mhirer mslotFound misSpent mfound mlaid mlaidRow mgReason mgDay mgTold mgUntold msights mtime mboxAll misBoxed p0 (by first | with_reducible assumption | omega) (by first | with_reducible assumption | omega) (by first | with_reducible assumption | omega) (by first | with_reducible assumption | omega) (by first | with_reducible assumption | omega) hh7 (by first | with_reducible assumption | omega) (by first | with_reducible assumption | omega) (by first | with_reducible assumption | omega) (by first | with_reducible assumption | omega) (by first | with_reducible assumption | omega) (by first | with_reducible assumption | omega) (by first | with_reducible assumption | omega) (by first | with_reducible assumption | omega) (by first | with_reducible assumption | omega) (by first | with_reducible assumption | omega) (by first | with_reducible assumption | omega) (by first | with_reducible assumption | omega) (by first | with_reducible assumption | omega) (by first | with_reducible assumption | omega) (by first | with_reducible assumption | omega) (by first | with_reducible assumption | omega)) (gV bw_919 bw_920 bw_921 bw_840 bw_831) rfl rfl (by decide +kernel) ⟨by decide, by decide⟩ (ci := 12) (q0 := 0) rfl rfl (fun _ _ _ _ _ => trivial) (fun _ _ _ => trivial) rfl rfl hl.1 (Nat.le_of_ble_eq_true rfl) dX12_reason_2 ⟨by decide, by decide⟩) hP hS hA (fun r_1 _ H locs hw0 hP hS => ?_)
  have hw : (r_1 = 1 ∧ (0 ≤ p0.toInt ∧ p0.toInt < (Fmreasons mbank.toNatClampNeg).toInt) ∧ (p0.toInt ≤ 7)) ∨ (r_1 = 0) := hw0
  clear hw0
  rcases hw with ⟨e_4, w_2, w_3⟩ | e_5
  · subst e_4
    refine lv_if_ne (tgt := 11) hx hb dX12_reason_5 (by decide) (fun _ => ?_) (fun c9 => absurd c9 (by decide))
    refine lv_bipush (v := 8) hx hb dX12_reason_11 (by decide) ?_
    refine lv_aload_n hx hb dX12_reason_13 rfl (lv_at hl 0 rfl) ?_
    refine va_get (D := g.1) (ci := 12) (v := .int mbank) (C := RX12) (T := TX12) (N := 87) hx hb hT inF_X12 hown hK.1 hP 0 rfl rfl 43 (by decide) (hT _ bw_825) (fun _ h9 => h9) rfl dX12_reason_14 ?_
    refine lv_imul hx hb dX12_reason_17 ?_
    refine lv_topi (fun x_6 ex_6 => ?_)
    have fx_6 : x_6.toInt = 8 * mbank.toInt := by rw [ex_6]; exact I_mul (by decide : (8 : Int32).toInt = 8) rfl (by omega) (by omega)
    refine lv_iload_n hx hb dX12_reason_18 rfl (lv_at hl 1 rfl) ?_
    refine lv_iadd hx hb dX12_reason_19 ?_
    refine lv_topi (fun x_7 ex_7 => ?_)
    have fx_7 : x_7.toInt = x_6.toInt + p0.toInt := by rw [ex_7]; exact I_add rfl rfl (by omega) (by omega)
    refine lv_istore_n (lv' := [(3, .int x_7), (0, .ref h), (1, .int p0), (2, .int p1)]) hx hb dX12_reason_20 rfl hl (by decide) rfl (fun ls hl => ?_)
    refine lv_iconst (v := 0) hx hb dX12_reason_21 (by decide) ?_
    refine lv_istore (lv' := [(4, .int 0), (3, .int x_7), (0, .ref h), (1, .int p0), (2, .int p1)]) hx hb dX12_reason_22 hl (by decide) rfl (fun ls hl => ?_)
    refine lv_iconst (v := 0) hx hb dX12_reason_24 (by decide) ?_
    refine lv_istore (lv' := [(5, .int 0), (4, .int 0), (3, .int x_7), (0, .ref h), (1, .int p0), (2, .int p1)]) hx hb dX12_reason_25 hl (by decide) rfl (fun ls hl => ?_)
    refine k_floop 27 (fun n H locs ls => ∃ (L_8 : Int32) (L_9 : Int32), (0 ≤ L_8.toInt ∧ L_8.toInt ≤ 8) ∧ 8 - L_8.toInt ≤ (n : Int) ∧ va_P g.1 vwCl [(h, .inr (12, [.ref mtape, .ref mtext, .int mtaped, .int msize, .int mfaultKind, .int mfaultPlace, .int mat, .int mend, .int mtoken, .int mnumber, .long mname, .ref mmen, .ref mkinds, .ref mreasons, .ref mtold, .ref munits, .ref mhonour, .ref mdraw, .ref mdies, .ref mcoin, .ref msonOf, .ref mkindOf, .ref mowner, .ref mfirst, .ref mlast, .ref mrent, .ref msort, .ref mduelOne, .ref mduelOther, .ref mduelOn, .ref mruleFrom, .ref mruleTo, .ref mhasHonour, .ref mhasDraw, .ref mmName, .ref mkName, .ref mrName, .ref mdName, .ref mcode, .ref mcodeNumber, .ref meWhat, .ref meSign, .ref mpile, .int mbank, .int mrb, .int mcodes, .int mwithin, .int mpiled, .int munitsInRule, .int maskDay, .int maskUses, .int maskSpent, .ref mall, .ref mwas, .int macts, .int mundone, .ref musedBy0, .ref musedBy1, .ref mmornings, .ref mcameFrom, .ref mcameBy, .ref mlevelAt, .ref mwins, .ref mslots, .ref mlevelOf, .ref mworthOf, .int mstates, .int mlevels, .int mside0, .int mside1, .int mdeathDay, .int maway, .int mhires, .int mhirer, .int mslotFound, .int misSpent, .int mfound, .int mlaid, .ref mlaidRow, .ref mgReason, .ref mgDay, .ref mgTold, .ref mgUntold, .int msights, .int mtime, .ref mboxAll, .ref misBoxed])), (mreasons, aI g 2 Fmreasons), (mkindOf, aI g 16 FmkindOf), (mowner, aI g 16 Fmowner), (mfirst, aI g 16 Fmfirst), (mlast, aI g 16 Fmlast), (mrent, aI g 16 Fmrent), (msort, aI g 16 Fmsort), (mall, aI g 374 Fmall)] H ∧ va_S A s.heap H locs ∧ lv_has ls 6 [(5, .int L_8), (4, .int L_9), (3, .int x_7), (0, .ref h), (1, .int p0), (2, .int p1)]) (fun n H locs ls hI ih => ?_) ((8 - 0 : Int)).toNat ⟨0, 0, by decide, by have k0 : (0 : Int32).toInt = 0 := (by decide); omega, hP, hS, hl⟩
    refine hI.elim (fun L_8 hI => hI.elim (fun L_9 hI => ?_))
    have g_10 := hI.1
    have hm_11 := hI.2.1
    have hP := hI.2.2.1
    have hS := hI.2.2.2.1
    have hl := hI.2.2.2.2
    clear hI
    refine lv_iload hx hb dX12_reason_27 (lv_at hl 0 rfl) ?_
    refine lv_aload_n hx hb dX12_reason_29 rfl (lv_at hl 3 rfl) ?_
    refine va_get (D := g.1) (ci := 12) (v := .ref mall) (C := RX12) (T := TX12) (N := 87) hx hb hT inF_X12 hown hK.1 hP 0 rfl rfl 52 (by decide) (hT _ bw_832) (fun _ h9 => h9) rfl dX12_reason_30 ?_
    refine lv_bipush (v := 70) hx hb dX12_reason_33 (by decide) ?_
    have h_12 : vp_in 70 374 := vp_in_iff.mpr (by decide)
    refine va_iald hx hb hK.1 hP 8 1 rfl rfl (i := 70) h_12 dX12_reason_35 ?_
    refine lv_topi (fun x_13 ex_13 => ?_)
    have cn_14 : (70 : Int32).toNatClampNeg = 70 := by decide
    have ux_13 := congrArg Int32.toInt ex_13
    have px_13 : In ((70 : Int32).toNatClampNeg % 374) x_13.toInt := Im.rd hh23 h_12 ex_13
    have fx_13 : 0 ≤ x_13.toInt ∧ x_13.toInt ≤ 8 := px_13.1 (by omega)
    refine lv_icmp_ge (tgt := 74) hx hb dX12_reason_36 (by decide) (fun c_15 => ?_) (fun c_15 => ?_)
    · have f_16 := E_le (rfl : x_13.toInt = _) (rfl : L_8.toInt = _) c_15
      refine lv_iload_n hx hb dX12_reason_74 rfl (lv_at hl 5 rfl) ?_
      rcases tsplit p1 8 (by decide) with h_17 | ⟨j, hj, eh_17⟩
      · refine lv_tableOut (tgt := 179) hx hb dX12_reason_75 (by omega) (by decide) ?_
        refine lv_bipush (v := (-2)) hx hb dX12_reason_179 (by decide) ?_
        have hP9 : va_P g.1 vwCl [] H := hP.sub [] rfl
        have hD9 : va_D A [] := ⟨fun i j p q h => by simp at h, fun k q h => by simp at h⟩
        exact W.iret (v := (-2)) hx hb hr (fun t ht hW => ⟨⟨(-2), (), rfl, trivial, by rw [ht]; exact hP9, by rw [hAe]; exact hD9⟩, hS.F ht⟩) hS.2.2 dX12_reason_181
      · rcases (show j = 0 ∨ j = 1 ∨ j = 2 ∨ j = 3 ∨ j = 4 ∨ j = 5 ∨ j = 6 ∨ j = 7 by omega) with rfl | rfl | rfl | rfl | rfl | rfl | rfl | rfl
        · obtain rfl : p1 = 0 := eh_17
          refine lv_tableIn (tgt := 120) hx hb dX12_reason_75 (by decide) (by decide) (off := 45) (by decide) (by decide) ?_
          refine lv_aload_n hx hb dX12_reason_120 rfl (lv_at hl 3 rfl) ?_
          refine va_get (D := g.1) (ci := 12) (v := .ref mkindOf) (C := RX12) (T := TX12) (N := 87) hx hb hT inF_X12 hown hK.1 hP 0 rfl rfl 21 (by decide) (hT _ bw_873) (fun _ h9 => h9) rfl dX12_reason_121 ?_
          refine lv_iload_n hx hb dX12_reason_124 rfl (lv_at hl 2 rfl) ?_
          have h_18 : vp_in x_7 16 := vp_in_iff.mpr (by omega)
          refine va_iald hx hb hK.1 hP 2 1 rfl rfl (i := x_7) h_18 dX12_reason_125 ?_
          refine lv_topi (fun x_19 ex_19 => ?_)
          have fx_19 : 0 ≤ x_19.toInt ∧ x_19.toInt ≤ 3 := Rg.rd hh12 h_18 ex_19
          have ux_19 := congrArg Int32.toInt ex_19
          have hP9 : va_P g.1 vwCl [] H := hP.sub [] rfl
          have hD9 : va_D A [] := ⟨fun i j p q h => by simp at h, fun k q h => by simp at h⟩
          exact W.iret (v := x_19) hx hb hr (fun t ht hW => ⟨⟨x_19, (), rfl, trivial, by rw [ht]; exact hP9, by rw [hAe]; exact hD9⟩, hS.F ht⟩) hS.2.2 dX12_reason_126
        · obtain rfl : p1 = 1 := eh_17
          refine lv_tableIn (tgt := 127) hx hb dX12_reason_75 (by decide) (by decide) (off := 52) (by decide) (by decide) ?_
          refine lv_aload_n hx hb dX12_reason_127 rfl (lv_at hl 3 rfl) ?_
          refine va_get (D := g.1) (ci := 12) (v := .ref mowner) (C := RX12) (T := TX12) (N := 87) hx hb hT inF_X12 hown hK.1 hP 0 rfl rfl 22 (by decide) (hT _ bw_847) (fun _ h9 => h9) rfl dX12_reason_128 ?_
          refine lv_iload_n hx hb dX12_reason_131 rfl (lv_at hl 2 rfl) ?_
          have h_20 : vp_in x_7 16 := vp_in_iff.mpr (by omega)
          refine va_iald hx hb hK.1 hP 3 1 rfl rfl (i := x_7) h_20 dX12_reason_132 ?_
          refine lv_topi (fun x_21 ex_21 => ?_)
          have fx_21 : (-1) ≤ x_21.toInt ∧ x_21.toInt ≤ 5 := Rg.rd hh13 h_20 ex_21
          have ux_21 := congrArg Int32.toInt ex_21
          have hP9 : va_P g.1 vwCl [] H := hP.sub [] rfl
          have hD9 : va_D A [] := ⟨fun i j p q h => by simp at h, fun k q h => by simp at h⟩
          exact W.iret (v := x_21) hx hb hr (fun t ht hW => ⟨⟨x_21, (), rfl, trivial, by rw [ht]; exact hP9, by rw [hAe]; exact hD9⟩, hS.F ht⟩) hS.2.2 dX12_reason_133
        · obtain rfl : p1 = 2 := eh_17
          refine lv_tableIn (tgt := 134) hx hb dX12_reason_75 (by decide) (by decide) (off := 59) (by decide) (by decide) ?_
          refine lv_aload_n hx hb dX12_reason_134 rfl (lv_at hl 3 rfl) ?_
          refine va_get (D := g.1) (ci := 12) (v := .ref mfirst) (C := RX12) (T := TX12) (N := 87) hx hb hT inF_X12 hown hK.1 hP 0 rfl rfl 23 (by decide) (hT _ bw_884) (fun _ h9 => h9) rfl dX12_reason_135 ?_
          refine lv_iload_n hx hb dX12_reason_138 rfl (lv_at hl 2 rfl) ?_
          have h_22 : vp_in x_7 16 := vp_in_iff.mpr (by omega)
          refine va_iald hx hb hK.1 hP 4 1 rfl rfl (i := x_7) h_22 dX12_reason_139 ?_
          refine lv_topi (fun x_23 ex_23 => ?_)
          have ux_23 := congrArg Int32.toInt ex_23
          have hP9 : va_P g.1 vwCl [] H := hP.sub [] rfl
          have hD9 : va_D A [] := ⟨fun i j p q h => by simp at h, fun k q h => by simp at h⟩
          exact W.iret (v := x_23) hx hb hr (fun t ht hW => ⟨⟨x_23, (), rfl, trivial, by rw [ht]; exact hP9, by rw [hAe]; exact hD9⟩, hS.F ht⟩) hS.2.2 dX12_reason_140
        · obtain rfl : p1 = 3 := eh_17
          refine lv_tableIn (tgt := 141) hx hb dX12_reason_75 (by decide) (by decide) (off := 66) (by decide) (by decide) ?_
          refine lv_aload_n hx hb dX12_reason_141 rfl (lv_at hl 3 rfl) ?_
          refine va_get (D := g.1) (ci := 12) (v := .ref mlast) (C := RX12) (T := TX12) (N := 87) hx hb hT inF_X12 hown hK.1 hP 0 rfl rfl 24 (by decide) (hT _ bw_885) (fun _ h9 => h9) rfl dX12_reason_142 ?_
          refine lv_iload_n hx hb dX12_reason_145 rfl (lv_at hl 2 rfl) ?_
          have h_24 : vp_in x_7 16 := vp_in_iff.mpr (by omega)
          refine va_iald hx hb hK.1 hP 5 1 rfl rfl (i := x_7) h_24 dX12_reason_146 ?_
          refine lv_topi (fun x_25 ex_25 => ?_)
          have ux_25 := congrArg Int32.toInt ex_25
          have hP9 : va_P g.1 vwCl [] H := hP.sub [] rfl
          have hD9 : va_D A [] := ⟨fun i j p q h => by simp at h, fun k q h => by simp at h⟩
          exact W.iret (v := x_25) hx hb hr (fun t ht hW => ⟨⟨x_25, (), rfl, trivial, by rw [ht]; exact hP9, by rw [hAe]; exact hD9⟩, hS.F ht⟩) hS.2.2 dX12_reason_147
        · obtain rfl : p1 = 4 := eh_17
          refine lv_tableIn (tgt := 148) hx hb dX12_reason_75 (by decide) (by decide) (off := 73) (by decide) (by decide) ?_
          refine lv_aload_n hx hb dX12_reason_148 rfl (lv_at hl 3 rfl) ?_
          refine va_get (D := g.1) (ci := 12) (v := .ref mrent) (C := RX12) (T := TX12) (N := 87) hx hb hT inF_X12 hown hK.1 hP 0 rfl rfl 25 (by decide) (hT _ bw_922) (fun _ h9 => h9) rfl dX12_reason_149 ?_
          refine lv_iload_n hx hb dX12_reason_152 rfl (lv_at hl 2 rfl) ?_
          have h_26 : vp_in x_7 16 := vp_in_iff.mpr (by omega)
          refine va_iald hx hb hK.1 hP 6 1 rfl rfl (i := x_7) h_26 dX12_reason_153 ?_
          refine lv_topi (fun x_27 ex_27 => ?_)
          have ux_27 := congrArg Int32.toInt ex_27
          have hP9 : va_P g.1 vwCl [] H := hP.sub [] rfl
          have hD9 : va_D A [] := ⟨fun i j p q h => by simp at h, fun k q h => by simp at h⟩
          exact W.iret (v := x_27) hx hb hr (fun t ht hW => ⟨⟨x_27, (), rfl, trivial, by rw [ht]; exact hP9, by rw [hAe]; exact hD9⟩, hS.F ht⟩) hS.2.2 dX12_reason_154
        · obtain rfl : p1 = 5 := eh_17
          refine lv_tableIn (tgt := 155) hx hb dX12_reason_75 (by decide) (by decide) (off := 80) (by decide) (by decide) ?_
          refine lv_aload_n hx hb dX12_reason_155 rfl (lv_at hl 3 rfl) ?_
          refine va_get (D := g.1) (ci := 12) (v := .ref msort) (C := RX12) (T := TX12) (N := 87) hx hb hT inF_X12 hown hK.1 hP 0 rfl rfl 26 (by decide) (hT _ bw_878) (fun _ h9 => h9) rfl dX12_reason_156 ?_
          refine lv_iload_n hx hb dX12_reason_159 rfl (lv_at hl 2 rfl) ?_
          have h_28 : vp_in x_7 16 := vp_in_iff.mpr (by omega)
          refine va_iald hx hb hK.1 hP 7 1 rfl rfl (i := x_7) h_28 dX12_reason_160 ?_
          refine lv_topi (fun x_29 ex_29 => ?_)
          have ux_29 := congrArg Int32.toInt ex_29
          have hP9 : va_P g.1 vwCl [] H := hP.sub [] rfl
          have hD9 : va_D A [] := ⟨fun i j p q h => by simp at h, fun k q h => by simp at h⟩
          exact W.iret (v := x_29) hx hb hr (fun t ht hW => ⟨⟨x_29, (), rfl, trivial, by rw [ht]; exact hP9, by rw [hAe]; exact hD9⟩, hS.F ht⟩) hS.2.2 dX12_reason_161
        · obtain rfl : p1 = 6 := eh_17
          refine lv_tableIn (tgt := 162) hx hb dX12_reason_75 (by decide) (by decide) (off := 87) (by decide) (by decide) ?_
          refine lv_aload_n hx hb dX12_reason_162 rfl (lv_at hl 3 rfl) ?_
          refine lv_iload_n hx hb dX12_reason_163 rfl (lv_at hl 4 rfl) ?_
          refine k_iR (k_V (n := 1) ⟨hx, hb, hml, hown, hT⟩ hK hP hD [0, 8] rfl (by decide +kernel) (s_X12_isStruck l g H.size h mtape mtext mtaped msize mfaultKind mfaultPlace mat mend mtoken mnumber mname mmen mkinds mreasons mtold munits mhonour mdraw mdies mcoin msonOf mkindOf mowner mfirst mlast mrent msort mduelOne mduelOther mduelOn mruleFrom mruleTo mhasHonour mhasDraw mmName mkName mrName mdName mcode mcodeNumber meWhat meSign mpile mbank mrb mcodes mwithin mpiled munitsInRule maskDay maskUses maskSpent mall Fmall mwas macts mundone musedBy0 musedBy1 mmornings mcameFrom mcameBy mlevelAt mwins mslots mlevelOf mworthOf mstates mlevels mside0 mside1 mdeathDay maway mhires mhirer mslotFound misSpent mfound mlaid mlaidRow mgReason mgDay mgTold mgUntold msights mtime mboxAll misBoxed p0 (by first | with_reducible assumption | omega) (by first | with_reducible assumption | omega) (by first | with_reducible assumption | omega) (by first | with_reducible assumption | omega) (by first | with_reducible assumption | omega) (by first | with_reducible assumption | omega) (by first | with_reducible assumption | omega) (by first | with_reducible assumption | omega) (by first | with_reducible assumption | omega) (by first | with_reducible assumption | omega) hh23 (by first | with_reducible assumption | omega) (by first | with_reducible assumption | omega) (by first | with_reducible assumption | omega) (by first | with_reducible assumption | omega) (by first | with_reducible assumption | omega) (by first | with_reducible assumption | omega) (by first | with_reducible assumption | omega) (by first | with_reducible assumption | omega) (by first | with_reducible assumption | omega) (by first | with_reducible assumption | omega) (by first | with_reducible assumption | omega)) (gV bw_891 bw_892 bw_893 bw_840 bw_835) rfl rfl (by decide +kernel) ⟨by decide, by decide⟩ (ci := 12) (q0 := 0) rfl rfl (fun _ _ _ _ _ => trivial) (fun _ _ _ => trivial) rfl rfl hl.1 (Nat.le_of_ble_eq_true rfl) dX12_reason_164 ⟨by decide, by decide⟩) hP hS hA (fun r_30 _ H locs hw0 hP hS => ?_)
          have hw : 0 ≤ r_30.toInt ∧ r_30.toInt ≤ 1 := hw0
          clear hw0
          have w_31 := hw
          refine lv_if_eq (tgt := 174) hx hb dX12_reason_167 (by decide) (fun c_32 => ?_) (fun c_32 => ?_)
          · have f_33 := E_eq (rfl : r_30.toInt = _) (by decide : (0 : Int32).toInt = 0) c_32
            refine lv_iconst (v := 0) hx hb dX12_reason_174 (by decide) ?_
            have hP9 : va_P g.1 vwCl [] H := hP.sub [] rfl
            have hD9 : va_D A [] := ⟨fun i j p q h => by simp at h, fun k q h => by simp at h⟩
            exact W.iret (v := 0) hx hb hr (fun t ht hW => ⟨⟨0, (), rfl, trivial, by rw [ht]; exact hP9, by rw [hAe]; exact hD9⟩, hS.F ht⟩) hS.2.2 dX12_reason_175
          · have f_34 := E_ne (rfl : r_30.toInt = _) (by decide : (0 : Int32).toInt = 0) c_32
            refine lv_iconst (v := 1) hx hb dX12_reason_170 (by decide) ?_
            refine lv_goto (tgt := 175) hx hb dX12_reason_171 (by decide) ?_
            have hP9 : va_P g.1 vwCl [] H := hP.sub [] rfl
            have hD9 : va_D A [] := ⟨fun i j p q h => by simp at h, fun k q h => by simp at h⟩
            exact W.iret (v := 1) hx hb hr (fun t ht hW => ⟨⟨1, (), rfl, trivial, by rw [ht]; exact hP9, by rw [hAe]; exact hD9⟩, hS.F ht⟩) hS.2.2 dX12_reason_175
        · obtain rfl : p1 = 7 := eh_17
          refine lv_tableIn (tgt := 176) hx hb dX12_reason_75 (by decide) (by decide) (off := 101) (by decide) (by decide) ?_
          refine lv_iload hx hb dX12_reason_176 (lv_at hl 1 rfl) ?_
          have hP9 : va_P g.1 vwCl [] H := hP.sub [] rfl
          have hD9 : va_D A [] := ⟨fun i j p q h => by simp at h, fun k q h => by simp at h⟩
          exact W.iret (v := L_9) hx hb hr (fun t ht hW => ⟨⟨L_9, (), rfl, trivial, by rw [ht]; exact hP9, by rw [hAe]; exact hD9⟩, hS.F ht⟩) hS.2.2 dX12_reason_178
    · have f_35 := E_nle (rfl : x_13.toInt = _) (rfl : L_8.toInt = _) c_15
      refine lv_iload hx hb dX12_reason_39 (lv_at hl 1 rfl) ?_
      refine lv_aload_n hx hb dX12_reason_41 rfl (lv_at hl 3 rfl) ?_
      refine lv_iload hx hb dX12_reason_42 (lv_at hl 0 rfl) ?_
      refine lv_iconst (v := 5) hx hb dX12_reason_44 (by decide) ?_
      refine k_iR (k_V (n := 2) ⟨hx, hb, hml, hown, hT⟩ hK hP hD [0, 8] rfl (by decide +kernel) (s_X12_of_5 l g H.size h mtape mtext mtaped msize mfaultKind mfaultPlace mat mend mtoken mnumber mname mmen mkinds mreasons mtold munits mhonour mdraw mdies mcoin msonOf mkindOf mowner mfirst mlast mrent msort mduelOne mduelOther mduelOn mruleFrom mruleTo mhasHonour mhasDraw mmName mkName mrName mdName mcode mcodeNumber meWhat meSign mpile mbank mrb mcodes mwithin mpiled munitsInRule maskDay maskUses maskSpent mall Fmall mwas macts mundone musedBy0 musedBy1 mmornings mcameFrom mcameBy mlevelAt mwins mslots mlevelOf mworthOf mstates mlevels mside0 mside1 mdeathDay maway mhires mhirer mslotFound misSpent mfound mlaid mlaidRow mgReason mgDay mgTold mgUntold msights mtime mboxAll misBoxed L_8 (by first | with_reducible assumption | omega) (by first | with_reducible assumption | omega) (by first | with_reducible assumption | omega) (by first | with_reducible assumption | omega) (by first | with_reducible assumption | omega) (by first | with_reducible assumption | omega) (by first | with_reducible assumption | omega) (by first | with_reducible assumption | omega) (by first | with_reducible assumption | omega) (by first | with_reducible assumption | omega) hh23 (by first | with_reducible assumption | omega) (by first | with_reducible assumption | omega) (by first | with_reducible assumption | omega) (by first | with_reducible assumption | omega) (by first | with_reducible assumption | omega) (by first | with_reducible assumption | omega) (by first | with_reducible assumption | omega) (by first | with_reducible assumption | omega) (by first | with_reducible assumption | omega) (by first | with_reducible assumption | omega) (by first | with_reducible assumption | omega) (by first | with_reducible assumption | omega)) (gV bw_841 bw_842 bw_843 bw_840 bw_836) rfl rfl (by decide +kernel) ⟨by decide, by decide⟩ (ci := 12) (q0 := 0) rfl rfl (fun _ _ _ _ _ => trivial) (fun _ _ _ => trivial) rfl rfl hl.1 (Nat.le_of_ble_eq_true rfl) dX12_reason_45 ⟨by decide, by decide⟩) hP hS hA (fun r_36 _ H locs hw0 hP hS => ?_)
      have hw : 0 ≤ r_36.toInt ∧ r_36.toInt ≤ 255 := hw0
      clear hw0
      have w_37 := hw
      refine lv_iload_n hx hb dX12_reason_48 rfl (lv_at hl 4 rfl) ?_
      refine lv_ishr hx hb dX12_reason_49 ?_
      refine lv_topi (fun x_38 ex_38 => ?_)
      refine lv_iconst (v := 1) hx hb dX12_reason_50 (by decide) ?_
      refine lv_iand hx hb dX12_reason_51 ?_
      refine lv_topi (fun x_39 ex_39 => ?_)
      have fx_39 : 0 ≤ x_39.toInt ∧ x_39.toInt ≤ 1 := by rw [ex_39]; exact I_and (by decide) (by decide)
      refine lv_aload_n hx hb dX12_reason_52 rfl (lv_at hl 3 rfl) ?_
      refine lv_iload hx hb dX12_reason_53 (lv_at hl 0 rfl) ?_
      refine lv_bipush (v := 6) hx hb dX12_reason_55 (by decide) ?_
      refine k_iR (k_V (n := 2) ⟨hx, hb, hml, hown, hT⟩ hK hP hD [0, 8] rfl (by decide +kernel) (s_X12_of_6 l g H.size h mtape mtext mtaped msize mfaultKind mfaultPlace mat mend mtoken mnumber mname mmen mkinds mreasons mtold munits mhonour mdraw mdies mcoin msonOf mkindOf mowner mfirst mlast mrent msort mduelOne mduelOther mduelOn mruleFrom mruleTo mhasHonour mhasDraw mmName mkName mrName mdName mcode mcodeNumber meWhat meSign mpile mbank mrb mcodes mwithin mpiled munitsInRule maskDay maskUses maskSpent mall Fmall mwas macts mundone musedBy0 musedBy1 mmornings mcameFrom mcameBy mlevelAt mwins mslots mlevelOf mworthOf mstates mlevels mside0 mside1 mdeathDay maway mhires mhirer mslotFound misSpent mfound mlaid mlaidRow mgReason mgDay mgTold mgUntold msights mtime mboxAll misBoxed L_8 (by first | with_reducible assumption | omega) (by first | with_reducible assumption | omega) (by first | with_reducible assumption | omega) (by first | with_reducible assumption | omega) (by first | with_reducible assumption | omega) (by first | with_reducible assumption | omega) (by first | with_reducible assumption | omega) (by first | with_reducible assumption | omega) (by first | with_reducible assumption | omega) (by first | with_reducible assumption | omega) hh23 (by first | with_reducible assumption | omega) (by first | with_reducible assumption | omega) (by first | with_reducible assumption | omega) (by first | with_reducible assumption | omega) (by first | with_reducible assumption | omega) (by first | with_reducible assumption | omega) (by first | with_reducible assumption | omega) (by first | with_reducible assumption | omega) (by first | with_reducible assumption | omega) (by first | with_reducible assumption | omega) (by first | with_reducible assumption | omega) (by first | with_reducible assumption | omega)) (gV bw_841 bw_842 bw_843 bw_840 bw_836) rfl rfl (by decide +kernel) ⟨by decide, by decide⟩ (ci := 12) (q0 := 0) rfl rfl (fun _ _ _ _ _ => trivial) (fun _ _ _ => trivial) rfl rfl hl.1 (Nat.le_of_ble_eq_true rfl) dX12_reason_57 ⟨by decide, by decide⟩) hP hS hA (fun r_40 _ H locs hw0 hP hS => ?_)
      have hw : 0 ≤ r_40.toInt ∧ r_40.toInt ≤ 255 := hw0
      clear hw0
      have w_41 := hw
      refine lv_iload_n hx hb dX12_reason_60 rfl (lv_at hl 4 rfl) ?_
      refine lv_ishr hx hb dX12_reason_61 ?_
      refine lv_topi (fun x_42 ex_42 => ?_)
      refine lv_iconst (v := 1) hx hb dX12_reason_62 (by decide) ?_
      refine lv_iand hx hb dX12_reason_63 ?_
      refine lv_topi (fun x_43 ex_43 => ?_)
      have fx_43 : 0 ≤ x_43.toInt ∧ x_43.toInt ≤ 1 := by rw [ex_43]; exact I_and (by decide) (by decide)
      refine lv_iadd hx hb dX12_reason_64 ?_
      refine lv_topi (fun x_44 ex_44 => ?_)
      have fx_44 : x_44.toInt = x_39.toInt + x_43.toInt := by rw [ex_44]; exact I_add rfl rfl (by omega) (by omega)
      refine lv_iadd hx hb dX12_reason_65 ?_
      refine lv_topi (fun x_45 ex_45 => ?_)
      refine lv_istore (lv' := [(4, .int x_45), (5, .int L_8), (3, .int x_7), (0, .ref h), (1, .int p0), (2, .int p1)]) hx hb dX12_reason_66 hl (by decide) rfl (fun ls hl => ?_)
      obtain ⟨x_46, ex_46⟩ : ∃ y : Int32, y = L_8 + 1 := ⟨_, rfl⟩
      have fx_46 : x_46.toInt = L_8.toInt + 1 := by rw [ex_46]; exact I_add rfl (by decide) (by omega) (by omega)
      refine lv_iinc (v := x_46) (lv' := [(5, .int x_46), (4, .int x_45), (3, .int x_7), (0, .ref h), (1, .int p0), (2, .int p1)]) hx hb dX12_reason_68 hl (k := 1) rfl (by rw [ex_46]; rfl) (by decide) rfl (fun ls hl => ?_)
      refine lv_goto (tgt := 27) hx hb dX12_reason_71 (by decide) ?_
      exact ih (n - 1) (by omega) H locs ls ⟨x_46, x_45, (by first | with_reducible assumption | omega), by omega, hP.sub [0, 1, 2, 3, 4, 5, 6, 7, 8] rfl, hS, lv_sub hl [0, 1, 2, 3, 4, 5] rfl⟩
  · subst e_5
    refine lv_if_ne (tgt := 11) hx hb dX12_reason_5 (by decide) (fun c9 => absurd (by decide) c9) (fun _ => ?_)
    refine lv_bipush (v := (-2)) hx hb dX12_reason_8 (by decide) ?_
    have hP9 : va_P g.1 vwCl [] H := hP.sub [] rfl
    have hD9 : va_D A [] := ⟨fun i j p q h => by simp at h, fun k q h => by simp at h⟩
    exact W.iret (v := (-2)) hx hb hr (fun t ht hW => ⟨⟨(-2), (), rfl, trivial, by rw [ht]; exact hP9, by rw [hAe]; exact hD9⟩, hS.F ht⟩) hS.2.2 dX12_reason_10

theorem bw_924 : Cond.methodLink RX12 478 yX12_worthBy ∈ gT := gT_tb 1789 (by decide +kernel) (by decide +kernel)
theorem bw_925 : Cond.instanceMethod yX12_worthBy ∈ gT := gT_tb 1791 (by decide +kernel) (by decide +kernel)
theorem bw_926 : Cond.selects RX12 yX12_worthBy yX12_worthBy ∈ gT := gT_sl 92 (by decide +kernel) (by decide +kernel)
theorem bw_927 : Cond.code yX12_worth cX12_worth 4 (some .int) ∈ gT := gT_tb 1788 (by decide +kernel) (by decide +kernel)
theorem dX12_worth_0 : decode cX12_worth 0 = .ok (.aload_n 0, 1) := by decide +kernel
theorem dX12_worth_1 : decode cX12_worth 1 = .ok (.iload_n 1, 1) := by decide +kernel
theorem dX12_worth_2 : decode cX12_worth 2 = .ok (.invokevirtual 415, 3) := by decide +kernel
theorem dX12_worth_5 : decode cX12_worth 5 = .ok (.ifCond .eq 44, 3) := by decide +kernel
theorem dX12_worth_8 : decode cX12_worth 8 = .ok (.aload_n 0, 1) := by decide +kernel
theorem dX12_worth_9 : decode cX12_worth 9 = .ok (.iload_n 2, 1) := by decide +kernel
theorem dX12_worth_10 : decode cX12_worth 10 = .ok (.invokevirtual 449, 3) := by decide +kernel
theorem dX12_worth_13 : decode cX12_worth 13 = .ok (.ifCond .eq 36, 3) := by decide +kernel
theorem dX12_worth_16 : decode cX12_worth 16 = .ok (.iload_n 3, 1) := by decide +kernel
theorem dX12_worth_17 : decode cX12_worth 17 = .ok (.iconst 0, 1) := by decide +kernel
theorem dX12_worth_18 : decode cX12_worth 18 = .ok (.sipush 9999, 3) := by decide +kernel
theorem dX12_worth_21 : decode cX12_worth 21 = .ok (.invokestatic 411, 3) := by decide +kernel
theorem dX12_worth_24 : decode cX12_worth 24 = .ok (.ifCond .eq 25, 3) := by decide +kernel
theorem dX12_worth_27 : decode cX12_worth 27 = .ok (.aload_n 0, 1) := by decide +kernel
theorem dX12_worth_28 : decode cX12_worth 28 = .ok (.iload_n 2, 1) := by decide +kernel
theorem dX12_worth_29 : decode cX12_worth 29 = .ok (.iload_n 3, 1) := by decide +kernel
theorem dX12_worth_30 : decode cX12_worth 30 = .ok (.aload_n 0, 1) := by decide +kernel
theorem dX12_worth_31 : decode cX12_worth 31 = .ok (.iload_n 1, 1) := by decide +kernel
theorem dX12_worth_32 : decode cX12_worth 32 = .ok (.iconst 5, 1) := by decide +kernel
theorem dX12_worth_33 : decode cX12_worth 33 = .ok (.invokevirtual 418, 3) := by decide +kernel
theorem dX12_worth_36 : decode cX12_worth 36 = .ok (.aload_n 0, 1) := by decide +kernel
theorem dX12_worth_37 : decode cX12_worth 37 = .ok (.iload_n 1, 1) := by decide +kernel
theorem dX12_worth_38 : decode cX12_worth 38 = .ok (.bipush 6, 2) := by decide +kernel
theorem dX12_worth_40 : decode cX12_worth 40 = .ok (.invokevirtual 418, 3) := by decide +kernel
theorem dX12_worth_43 : decode cX12_worth 43 = .ok (.invokevirtual 478, 3) := by decide +kernel
theorem dX12_worth_46 : decode cX12_worth 46 = .ok (.goto 4, 3) := by decide +kernel
theorem dX12_worth_49 : decode cX12_worth 49 = .ok (.iconst (-1), 1) := by decide +kernel
theorem dX12_worth_50 : decode cX12_worth 50 = .ok (.ireturn, 1) := by decide +kernel
set_option maxHeartbeats 40000000 in
set_option maxRecDepth 100000 in
theorem s_X12_worth (l : Launch) (g : GG) (sz : Nat) (h : Nat) (mtape : Nat) (mtext : Nat) (mtaped : Int32) (msize : Int32) (mfaultKind : Int32) (mfaultPlace : Int32) (mat : Int32) (mend : Int32) (mtoken : Int32) (mnumber : Int32) (mname : Int64) (mmen : Nat) (mkinds : Nat) (Fmkinds : Nat → Int32) (mreasons : Nat) (Fmreasons : Nat → Int32) (mtold : Nat) (munits : Nat) (mhonour : Nat) (mdraw : Nat) (mdies : Nat) (mcoin : Nat) (msonOf : Nat) (mkindOf : Nat) (FmkindOf : Nat → Int32) (mowner : Nat) (mfirst : Nat) (mlast : Nat) (mrent : Nat) (msort : Nat) (mduelOne : Nat) (mduelOther : Nat) (mduelOn : Nat) (mruleFrom : Nat) (FmruleFrom : Nat → Int32) (mruleTo : Nat) (FmruleTo : Nat → Int32) (mhasHonour : Nat) (mhasDraw : Nat) (mmName : Nat) (mkName : Nat) (mrName : Nat) (mdName : Nat) (mcode : Nat) (Fmcode : Nat → Int32) (mcodeNumber : Nat) (FmcodeNumber : Nat → Int32) (meWhat : Nat) (meSign : Nat) (mpile : Nat) (Fmpile : Nat → Int32) (mbank : Int32) (mrb : Int32) (mcodes : Int32) (mwithin : Int32) (mpiled : Int32) (munitsInRule : Int32) (maskDay : Int32) (maskUses : Int32) (maskSpent : Int32) (mall : Nat) (Fmall : Nat → Int32) (mwas : Nat) (macts : Int32) (mundone : Int32) (musedBy0 : Nat) (musedBy1 : Nat) (mmornings : Nat) (mcameFrom : Nat) (mcameBy : Nat) (mlevelAt : Nat) (mwins : Nat) (mslots : Nat) (mlevelOf : Nat) (mworthOf : Nat) (mstates : Int32) (mlevels : Int32) (mside0 : Int32) (mside1 : Int32) (mdeathDay : Int32) (maway : Int32) (mhires : Int32) (mhirer : Int32) (mslotFound : Int32) (misSpent : Int32) (mfound : Int32) (mlaid : Int32) (mlaidRow : Nat) (mgReason : Nat) (mgDay : Nat) (mgTold : Nat) (mgUntold : Nat) (msights : Int32) (mtime : Int32) (mboxAll : Nat) (misBoxed : Nat) (p0 : Int32) (p1 : Int32) (p2 : Int32) (hh0 : 0 ≤ mtaped.toInt ∧ mtaped.toInt ≤ 1600) (hh1 : 0 ≤ msize.toInt ∧ msize.toInt ≤ 1600) (hh2 : 0 ≤ mat.toInt ∧ mat.toInt ≤ 1600) (hh3 : 0 ≤ mend.toInt ∧ mend.toInt ≤ 1600) (hh4 : 0 ≤ mtoken.toInt ∧ mtoken.toInt ≤ 5) (hh6 : Rg 2 0 4 Fmkinds) (hh7 : Rg 2 0 8 Fmreasons) (hh12 : Rg 16 0 3 FmkindOf) (hh16 : Rg 8 0 1120 FmruleFrom) (hh17 : Rg 8 0 1120 FmruleTo) (hh18 : 0 ≤ mbank.toInt ∧ mbank.toInt ≤ 1) (hh19 : 0 ≤ mrb.toInt ∧ mrb.toInt ≤ 1) (hh20 : 0 ≤ mcodes.toInt ∧ mcodes.toInt ≤ 1120) (hh21 : 0 ≤ mpiled.toInt ∧ mpiled.toInt ≤ 90) (hh22 : 0 ≤ munitsInRule.toInt ∧ munitsInRule.toInt ≤ 30) (hh23 : Ia Fmall) (hh25 : 0 ≤ macts.toInt ∧ macts.toInt ≤ 40) (hh26 : 0 ≤ mundone.toInt ∧ mundone.toInt ≤ 40) (hh34 : 0 ≤ mstates.toInt ∧ mstates.toInt ≤ 3000) (hh35 : 0 ≤ mlevels.toInt ∧ mlevels.toInt ≤ 18) (hh36 : 0 ≤ mside0.toInt ∧ mside0.toInt ≤ 5) (hh37 : 0 ≤ mside1.toInt ∧ mside1.toInt ≤ 5) (hh38 : 0 ≤ mslotFound.toInt ∧ mslotFound.toInt ≤ 8191) (hh39 : 0 ≤ misSpent.toInt ∧ misSpent.toInt ≤ 1) (hh40 : 0 ≤ mlaid.toInt ∧ mlaid.toInt ≤ 16) (hh41 : 0 ≤ msights.toInt ∧ msights.toInt ≤ 30) (hh42 : 0 ≤ mtime.toInt ∧ mtime.toInt ≤ 100000) (hko : KO mbank Fmreasons Fmkinds FmkindOf) (hro : RO mbank Fmkinds FmruleFrom FmruleTo Fmcode) : Met l yX12_worth (.code yX12_worth cX12_worth 4 (some .int) :: gT) ({ frames := 3, cells := 0, slots := 0, locals := 72 }) (va_Pc [.ref h, .int p0, .int p1, .int p2] (Pst g sz [(h, .inr (12, [.ref mtape, .ref mtext, .int mtaped, .int msize, .int mfaultKind, .int mfaultPlace, .int mat, .int mend, .int mtoken, .int mnumber, .long mname, .ref mmen, .ref mkinds, .ref mreasons, .ref mtold, .ref munits, .ref mhonour, .ref mdraw, .ref mdies, .ref mcoin, .ref msonOf, .ref mkindOf, .ref mowner, .ref mfirst, .ref mlast, .ref mrent, .ref msort, .ref mduelOne, .ref mduelOther, .ref mduelOn, .ref mruleFrom, .ref mruleTo, .ref mhasHonour, .ref mhasDraw, .ref mmName, .ref mkName, .ref mrName, .ref mdName, .ref mcode, .ref mcodeNumber, .ref meWhat, .ref meSign, .ref mpile, .int mbank, .int mrb, .int mcodes, .int mwithin, .int mpiled, .int munitsInRule, .int maskDay, .int maskUses, .int maskSpent, .ref mall, .ref mwas, .int macts, .int mundone, .ref musedBy0, .ref musedBy1, .ref mmornings, .ref mcameFrom, .ref mcameBy, .ref mlevelAt, .ref mwins, .ref mslots, .ref mlevelOf, .ref mworthOf, .int mstates, .int mlevels, .int mside0, .int mside1, .int mdeathDay, .int maway, .int mhires, .int mhirer, .int mslotFound, .int misSpent, .int mfound, .int mlaid, .ref mlaidRow, .ref mgReason, .ref mgDay, .ref mgTold, .ref mgUntold, .int msights, .int mtime, .ref mboxAll, .ref misBoxed])), (mreasons, aI g 2 Fmreasons), (mkindOf, aI g 16 FmkindOf), (mruleFrom, aI g 8 FmruleFrom), (mruleTo, aI g 8 FmruleTo), (mcode, aI g 1120 Fmcode), (mcodeNumber, aI g 1120 FmcodeNumber), (mpile, aI g 60 Fmpile), (mall, aI g 374 Fmall)] nX)) (va_Qi (fun (r : Int32) => fun ((o0_askDay, o1_askUses, o2_askSpent, o3_F) : Int32 × Int32 × Int32 × (Nat → Int32)) => (-1) ≤ r.toInt ∧ r.toInt ≤ 365) (Qst g [(h, .inr (12, [.ref mtape, .ref mtext, .int mtaped, .int msize, .int mfaultKind, .int mfaultPlace, .int mat, .int mend, .int mtoken, .int mnumber, .long mname, .ref mmen, .ref mkinds, .ref mreasons, .ref mtold, .ref munits, .ref mhonour, .ref mdraw, .ref mdies, .ref mcoin, .ref msonOf, .ref mkindOf, .ref mowner, .ref mfirst, .ref mlast, .ref mrent, .ref msort, .ref mduelOne, .ref mduelOther, .ref mduelOn, .ref mruleFrom, .ref mruleTo, .ref mhasHonour, .ref mhasDraw, .ref mmName, .ref mkName, .ref mrName, .ref mdName, .ref mcode, .ref mcodeNumber, .ref meWhat, .ref meSign, .ref mpile, .int mbank, .int mrb, .int mcodes, .int mwithin, .int mpiled, .int munitsInRule, .int maskDay, .int maskUses, .int maskSpent, .ref mall, .ref mwas, .int macts, .int mundone, .ref musedBy0, .ref musedBy1, .ref mmornings, .ref mcameFrom, .ref mcameBy, .ref mlevelAt, .ref mwins, .ref mslots, .ref mlevelOf, .ref mworthOf, .int mstates, .int mlevels, .int mside0, .int mside1, .int mdeathDay, .int maway, .int mhires, .int mhirer, .int mslotFound, .int misSpent, .int mfound, .int mlaid, .ref mlaidRow, .ref mgReason, .ref mgDay, .ref mgTold, .ref mgUntold, .int msights, .int mtime, .ref mboxAll, .ref misBoxed])), (mreasons, aI g 2 Fmreasons), (mkindOf, aI g 16 FmkindOf), (mruleFrom, aI g 8 FmruleFrom), (mruleTo, aI g 8 FmruleTo), (mcode, aI g 1120 Fmcode), (mcodeNumber, aI g 1120 FmcodeNumber), (mpile, aI g 60 Fmpile), (mall, aI g 374 Fmall)] sz (fun ((o0_askDay, o1_askUses, o2_askSpent, o3_F) : Int32 × Int32 × Int32 × (Nat → Int32)) => [(h, .inr (12, [.ref mtape, .ref mtext, .int mtaped, .int msize, .int mfaultKind, .int mfaultPlace, .int mat, .int mend, .int mtoken, .int mnumber, .long mname, .ref mmen, .ref mkinds, .ref mreasons, .ref mtold, .ref munits, .ref mhonour, .ref mdraw, .ref mdies, .ref mcoin, .ref msonOf, .ref mkindOf, .ref mowner, .ref mfirst, .ref mlast, .ref mrent, .ref msort, .ref mduelOne, .ref mduelOther, .ref mduelOn, .ref mruleFrom, .ref mruleTo, .ref mhasHonour, .ref mhasDraw, .ref mmName, .ref mkName, .ref mrName, .ref mdName, .ref mcode, .ref mcodeNumber, .ref meWhat, .ref meSign, .ref mpile, .int mbank, .int mrb, .int mcodes, .int mwithin, .int mpiled, .int munitsInRule, .int o0_askDay, .int o1_askUses, .int o2_askSpent, .ref mall, .ref mwas, .int macts, .int mundone, .ref musedBy0, .ref musedBy1, .ref mmornings, .ref mcameFrom, .ref mcameBy, .ref mlevelAt, .ref mwins, .ref mslots, .ref mlevelOf, .ref mworthOf, .int mstates, .int mlevels, .int mside0, .int mside1, .int mdeathDay, .int maway, .int mhires, .int mhirer, .int mslotFound, .int misSpent, .int mfound, .int mlaid, .ref mlaidRow, .ref mgReason, .ref mgDay, .ref mgTold, .ref mgUntold, .int msights, .int mtime, .ref mboxAll, .ref misBoxed])), (mreasons, aI g 2 Fmreasons), (mkindOf, aI g 16 FmkindOf), (mruleFrom, aI g 8 FmruleFrom), (mruleTo, aI g 8 FmruleTo), (mcode, aI g 1120 Fmcode), (mcodeNumber, aI g 1120 FmcodeNumber), (mpile, aI g 60 o3_F), (mall, aI g 374 Fmall)])) (va_A [(h, .inr (12, [.ref mtape, .ref mtext, .int mtaped, .int msize, .int mfaultKind, .int mfaultPlace, .int mat, .int mend, .int mtoken, .int mnumber, .long mname, .ref mmen, .ref mkinds, .ref mreasons, .ref mtold, .ref munits, .ref mhonour, .ref mdraw, .ref mdies, .ref mcoin, .ref msonOf, .ref mkindOf, .ref mowner, .ref mfirst, .ref mlast, .ref mrent, .ref msort, .ref mduelOne, .ref mduelOther, .ref mduelOn, .ref mruleFrom, .ref mruleTo, .ref mhasHonour, .ref mhasDraw, .ref mmName, .ref mkName, .ref mrName, .ref mdName, .ref mcode, .ref mcodeNumber, .ref meWhat, .ref meSign, .ref mpile, .int mbank, .int mrb, .int mcodes, .int mwithin, .int mpiled, .int munitsInRule, .int maskDay, .int maskUses, .int maskSpent, .ref mall, .ref mwas, .int macts, .int mundone, .ref musedBy0, .ref musedBy1, .ref mmornings, .ref mcameFrom, .ref mcameBy, .ref mlevelAt, .ref mwins, .ref mslots, .ref mlevelOf, .ref mworthOf, .int mstates, .int mlevels, .int mside0, .int mside1, .int mdeathDay, .int maway, .int mhires, .int mhirer, .int mslotFound, .int misSpent, .int mfound, .int mlaid, .ref mlaidRow, .ref mgReason, .ref mgDay, .ref mgTold, .ref mgUntold, .int msights, .int mtime, .ref mboxAll, .ref misBoxed])), (mreasons, aI g 2 Fmreasons), (mkindOf, aI g 16 FmkindOf), (mruleFrom, aI g 8 FmruleFrom), (mruleTo, aI g 8 FmruleTo), (mcode, aI g 1120 Fmcode), (mcodeNumber, aI g 1120 FmcodeNumber), (mpile, aI g 60 Fmpile), (mall, aI g 374 Fmall)] sz)) 0 0 (va_A [(h, .inr (12, [.ref mtape, .ref mtext, .int mtaped, .int msize, .int mfaultKind, .int mfaultPlace, .int mat, .int mend, .int mtoken, .int mnumber, .long mname, .ref mmen, .ref mkinds, .ref mreasons, .ref mtold, .ref munits, .ref mhonour, .ref mdraw, .ref mdies, .ref mcoin, .ref msonOf, .ref mkindOf, .ref mowner, .ref mfirst, .ref mlast, .ref mrent, .ref msort, .ref mduelOne, .ref mduelOther, .ref mduelOn, .ref mruleFrom, .ref mruleTo, .ref mhasHonour, .ref mhasDraw, .ref mmName, .ref mkName, .ref mrName, .ref mdName, .ref mcode, .ref mcodeNumber, .ref meWhat, .ref meSign, .ref mpile, .int mbank, .int mrb, .int mcodes, .int mwithin, .int mpiled, .int munitsInRule, .int maskDay, .int maskUses, .int maskSpent, .ref mall, .ref mwas, .int macts, .int mundone, .ref musedBy0, .ref musedBy1, .ref mmornings, .ref mcameFrom, .ref mcameBy, .ref mlevelAt, .ref mwins, .ref mslots, .ref mlevelOf, .ref mworthOf, .int mstates, .int mlevels, .int mside0, .int mside1, .int mdeathDay, .int maway, .int mhires, .int mhirer, .int mslotFound, .int misSpent, .int mfound, .int mlaid, .ref mlaidRow, .ref mgReason, .ref mgDay, .ref mgTold, .ref mgUntold, .int msights, .int mtime, .ref mboxAll, .ref misBoxed])), (mreasons, aI g 2 Fmreasons), (mkindOf, aI g 16 FmkindOf), (mruleFrom, aI g 8 FmruleFrom), (mruleTo, aI g 8 FmruleTo), (mcode, aI g 1120 Fmcode), (mcodeNumber, aI g 1120 FmcodeNumber), (mpile, aI g 60 Fmpile), (mall, aI g 374 Fmall)] sz) := by
  refine Met.ofW (cc := cX12_worth) (maxL := 4) (ret := (some .int)) (by decide) rfl ?_
  intro p e s m args below meth c s₁ B hml hv
  obtain ⟨rfl, hsz, hP, hK, hD0, hX⟩ := hv
  have hx := B.exec
  have hb := B.bytes
  have hr := B.returns
  have hT : ∀ w ∈ gT, w.before _ s = true := fun w h => atoms_spec (ws := .code yX12_worth cX12_worth 4 (some .int) :: gT) B.pre w (List.mem_cons_of_mem _ h)
  have hown : s.vm.findClass RX12 = some m.cls := findClass_of_methodNamed B.named
  have hlocks := B.notSynchronized
  subst hsz
  have hD := hD0.self (sz := s.heap.size)
  generalize hAe : va_A [(h, .inr (12, [.ref mtape, .ref mtext, .int mtaped, .int msize, .int mfaultKind, .int mfaultPlace, .int mat, .int mend, .int mtoken, .int mnumber, .long mname, .ref mmen, .ref mkinds, .ref mreasons, .ref mtold, .ref munits, .ref mhonour, .ref mdraw, .ref mdies, .ref mcoin, .ref msonOf, .ref mkindOf, .ref mowner, .ref mfirst, .ref mlast, .ref mrent, .ref msort, .ref mduelOne, .ref mduelOther, .ref mduelOn, .ref mruleFrom, .ref mruleTo, .ref mhasHonour, .ref mhasDraw, .ref mmName, .ref mkName, .ref mrName, .ref mdName, .ref mcode, .ref mcodeNumber, .ref meWhat, .ref meSign, .ref mpile, .int mbank, .int mrb, .int mcodes, .int mwithin, .int mpiled, .int munitsInRule, .int maskDay, .int maskUses, .int maskSpent, .ref mall, .ref mwas, .int macts, .int mundone, .ref musedBy0, .ref musedBy1, .ref mmornings, .ref mcameFrom, .ref mcameBy, .ref mlevelAt, .ref mwins, .ref mslots, .ref mlevelOf, .ref mworthOf, .int mstates, .int mlevels, .int mside0, .int mside1, .int mdeathDay, .int maway, .int mhires, .int mhirer, .int mslotFound, .int misSpent, .int mfound, .int mlaid, .ref mlaidRow, .ref mgReason, .ref mgDay, .ref mgTold, .ref mgUntold, .int msights, .int mtime, .ref mboxAll, .ref misBoxed])), (mreasons, aI g 2 Fmreasons), (mkindOf, aI g 16 FmkindOf), (mruleFrom, aI g 8 FmruleFrom), (mruleTo, aI g 8 FmruleTo), (mcode, aI g 1120 Fmcode), (mcodeNumber, aI g 1120 FmcodeNumber), (mpile, aI g 60 Fmpile), (mall, aI g 374 Fmall)] s.heap.size = A at hD ⊢
  have hA : ∀ q : Nat, s.heap.size ≤ q → A q := fun q h => by rw [← hAe]; exact Or.inr h
  have hS : va_S A s.heap s.heap [] := va_S.rf
  have hl := lv_entry ([.ref h, .int p0, .int p1, .int p2]) (n := 4) (Nat.le_of_ble_eq_true rfl)
  rw [lg_entry_eq]
  generalize (lg_sl ([.ref h, .int p0, .int p1, .int p2]) ++ List.replicate (4 - (lg_sl ([.ref h, .int p0, .int p1, .int p2])).length) Slot.unset).toArray = ls at hl ⊢
  have hl : lv_has ls 4 [(0, .ref h), (1, .int p0), (2, .int p1), (3, .int p2)] := hl
  refine p_nH (fun H hH => ?_)
  have hP : va_P g.1 vwCl [(h, .inr (12, [.ref mtape, .ref mtext, .int mtaped, .int msize, .int mfaultKind, .int mfaultPlace, .int mat, .int mend, .int mtoken, .int mnumber, .long mname, .ref mmen, .ref mkinds, .ref mreasons, .ref mtold, .ref munits, .ref mhonour, .ref mdraw, .ref mdies, .ref mcoin, .ref msonOf, .ref mkindOf, .ref mowner, .ref mfirst, .ref mlast, .ref mrent, .ref msort, .ref mduelOne, .ref mduelOther, .ref mduelOn, .ref mruleFrom, .ref mruleTo, .ref mhasHonour, .ref mhasDraw, .ref mmName, .ref mkName, .ref mrName, .ref mdName, .ref mcode, .ref mcodeNumber, .ref meWhat, .ref meSign, .ref mpile, .int mbank, .int mrb, .int mcodes, .int mwithin, .int mpiled, .int munitsInRule, .int maskDay, .int maskUses, .int maskSpent, .ref mall, .ref mwas, .int macts, .int mundone, .ref musedBy0, .ref musedBy1, .ref mmornings, .ref mcameFrom, .ref mcameBy, .ref mlevelAt, .ref mwins, .ref mslots, .ref mlevelOf, .ref mworthOf, .int mstates, .int mlevels, .int mside0, .int mside1, .int mdeathDay, .int maway, .int mhires, .int mhirer, .int mslotFound, .int misSpent, .int mfound, .int mlaid, .ref mlaidRow, .ref mgReason, .ref mgDay, .ref mgTold, .ref mgUntold, .int msights, .int mtime, .ref mboxAll, .ref misBoxed])), (mreasons, aI g 2 Fmreasons), (mkindOf, aI g 16 FmkindOf), (mruleFrom, aI g 8 FmruleFrom), (mruleTo, aI g 8 FmruleTo), (mcode, aI g 1120 Fmcode), (mcodeNumber, aI g 1120 FmcodeNumber), (mpile, aI g 60 Fmpile), (mall, aI g 374 Fmall)] H := by rw [hH]; exact hP
  have hS : va_S A s.heap H [] := by rw [hH]; exact hS
  refine lv_aload_n hx hb dX12_worth_0 rfl (lv_at hl 0 rfl) ?_
  refine lv_iload_n hx hb dX12_worth_1 rfl (lv_at hl 1 rfl) ?_
  refine k_iR (k_V (n := 1) ⟨hx, hb, hml, hown, hT⟩ hK hP hD [0, 8] rfl (by decide +kernel) (s_X12_isDuel l g H.size h mtape mtext mtaped msize mfaultKind mfaultPlace mat mend mtoken mnumber mname mmen mkinds mreasons mtold munits mhonour mdraw mdies mcoin msonOf mkindOf mowner mfirst mlast mrent msort mduelOne mduelOther mduelOn mruleFrom mruleTo mhasHonour mhasDraw mmName mkName mrName mdName mcode mcodeNumber meWhat meSign mpile mbank mrb mcodes mwithin mpiled munitsInRule maskDay maskUses maskSpent mall Fmall mwas macts mundone musedBy0 musedBy1 mmornings mcameFrom mcameBy mlevelAt mwins mslots mlevelOf mworthOf mstates mlevels mside0 mside1 mdeathDay maway mhires mhirer mslotFound misSpent mfound mlaid mlaidRow mgReason mgDay mgTold mgUntold msights mtime mboxAll misBoxed p0 (by first | with_reducible assumption | omega) (by first | with_reducible assumption | omega) (by first | with_reducible assumption | omega) (by first | with_reducible assumption | omega) (by first | with_reducible assumption | omega) (by first | with_reducible assumption | omega) (by first | with_reducible assumption | omega) (by first | with_reducible assumption | omega) (by first | with_reducible assumption | omega) (by first | with_reducible assumption | omega) hh23 (by first | with_reducible assumption | omega) (by first | with_reducible assumption | omega) (by first | with_reducible assumption | omega) (by first | with_reducible assumption | omega) (by first | with_reducible assumption | omega) (by first | with_reducible assumption | omega) (by first | with_reducible assumption | omega) (by first | with_reducible assumption | omega) (by first | with_reducible assumption | omega) (by first | with_reducible assumption | omega) (by first | with_reducible assumption | omega)) (gV bw_837 bw_838 bw_839 bw_840 bw_833) rfl rfl (by decide +kernel) ⟨by decide, by decide⟩ (ci := 12) (q0 := 0) rfl rfl (fun _ _ _ _ _ => trivial) (fun _ _ _ => trivial) rfl rfl hl.1 (Nat.le_of_ble_eq_true rfl) dX12_worth_2 ⟨by decide, by decide⟩) hP hS hA (fun r_1 _ H locs hw0 hP hS => ?_)
  have hw : (r_1 = 1 ∧ (0 ≤ p0.toInt ∧ p0.toInt ≤ 7)) ∨ (r_1 = 0) := hw0
  clear hw0
  rcases hw with ⟨e_3, w_2⟩ | e_4
  · subst e_3
    refine lv_if_eq (tgt := 49) hx hb dX12_worth_5 (by decide) (fun c9 => absurd c9 (by decide)) (fun _ => ?_)
    refine lv_aload_n hx hb dX12_worth_8 rfl (lv_at hl 0 rfl) ?_
    refine lv_iload_n hx hb dX12_worth_9 rfl (lv_at hl 2 rfl) ?_
    refine k_iR (k_V (n := 1) ⟨hx, hb, hml, hown, hT⟩ hK hP hD [0, 1] rfl (by decide +kernel) (s_X12_isReason l g H.size h mtape mtext mtaped msize mfaultKind mfaultPlace mat mend mtoken mnumber mname mmen mkinds mreasons Fmreasons mtold munits mhonour mdraw mdies mcoin msonOf mkindOf mowner mfirst mlast mrent msort mduelOne mduelOther mduelOn mruleFrom mruleTo mhasHonour mhasDraw mmName mkName mrName mdName mcode mcodeNumber meWhat meSign mpile mbank mrb mcodes mwithin mpiled munitsInRule maskDay maskUses maskSpent mall mwas macts mundone musedBy0 musedBy1 mmornings mcameFrom mcameBy mlevelAt mwins mslots mlevelOf mworthOf mstates mlevels mside0 mside1 mdeathDay maway mhires mhirer mslotFound misSpent mfound mlaid mlaidRow mgReason mgDay mgTold mgUntold msights mtime mboxAll misBoxed p1 (by first | with_reducible assumption | omega) (by first | with_reducible assumption | omega) (by first | with_reducible assumption | omega) (by first | with_reducible assumption | omega) (by first | with_reducible assumption | omega) hh7 (by first | with_reducible assumption | omega) (by first | with_reducible assumption | omega) (by first | with_reducible assumption | omega) (by first | with_reducible assumption | omega) (by first | with_reducible assumption | omega) (by first | with_reducible assumption | omega) (by first | with_reducible assumption | omega) (by first | with_reducible assumption | omega) (by first | with_reducible assumption | omega) (by first | with_reducible assumption | omega) (by first | with_reducible assumption | omega) (by first | with_reducible assumption | omega) (by first | with_reducible assumption | omega) (by first | with_reducible assumption | omega) (by first | with_reducible assumption | omega) (by first | with_reducible assumption | omega)) (gV bw_919 bw_920 bw_921 bw_840 bw_831) rfl rfl (by decide +kernel) ⟨by decide, by decide⟩ (ci := 12) (q0 := 0) rfl rfl (fun _ _ _ _ _ => trivial) (fun _ _ _ => trivial) rfl rfl hl.1 (Nat.le_of_ble_eq_true rfl) dX12_worth_10 ⟨by decide, by decide⟩) hP hS hA (fun r_5 _ H locs hw0 hP hS => ?_)
    have hw : (r_5 = 1 ∧ (0 ≤ p1.toInt ∧ p1.toInt < (Fmreasons mbank.toNatClampNeg).toInt) ∧ (p1.toInt ≤ 7)) ∨ (r_5 = 0) := hw0
    clear hw0
    rcases hw with ⟨e_8, w_6, w_7⟩ | e_9
    · subst e_8
      refine lv_if_eq (tgt := 49) hx hb dX12_worth_13 (by decide) (fun c9 => absurd c9 (by decide)) (fun _ => ?_)
      refine lv_iload_n hx hb dX12_worth_16 rfl (lv_at hl 3 rfl) ?_
      refine lv_iconst (v := 0) hx hb dX12_worth_17 (by decide) ?_
      refine lv_sipush (v := 9999) hx hb dX12_worth_18 (by decide) ?_
      refine k_iR (k_S (n := 3) ⟨hx, hb, hml, hown, hT⟩ hK hP hD [] rfl (by decide +kernel) (s_X12_isIn l g H.size p2 0 9999) (gS bw_826 bw_827 bw_828 bw_817) rfl rfl (by decide +kernel) ⟨by decide, by decide⟩ (fun _ _ _ _ _ => trivial) (fun _ _ _ => trivial) rfl rfl hl.1 (Nat.le_of_ble_eq_true rfl) dX12_worth_21 ⟨by decide, by decide⟩) hP hS hA (fun r_10 _ H locs hw0 hP hS => ?_)
      have hw : (r_10 = 1 ∧ (0 ≤ p2.toInt ∧ p2.toInt ≤ 9999)) ∨ (r_10 = 0 ∧ (p2.toInt < 0 ∨ 9999 < p2.toInt)) := hw0
      clear hw0
      rcases hw with ⟨e_12, w_11⟩ | ⟨e_14, w_13⟩
      · subst e_12
        refine lv_if_eq (tgt := 49) hx hb dX12_worth_24 (by decide) (fun c9 => absurd c9 (by decide)) (fun _ => ?_)
        refine lv_aload_n hx hb dX12_worth_27 rfl (lv_at hl 0 rfl) ?_
        refine lv_iload_n hx hb dX12_worth_28 rfl (lv_at hl 2 rfl) ?_
        refine lv_iload_n hx hb dX12_worth_29 rfl (lv_at hl 3 rfl) ?_
        refine lv_aload_n hx hb dX12_worth_30 rfl (lv_at hl 0 rfl) ?_
        refine lv_iload_n hx hb dX12_worth_31 rfl (lv_at hl 1 rfl) ?_
        refine lv_iconst (v := 5) hx hb dX12_worth_32 (by decide) ?_
        refine k_iR (k_V (n := 2) ⟨hx, hb, hml, hown, hT⟩ hK hP hD [0, 8] rfl (by decide +kernel) (s_X12_of_5 l g H.size h mtape mtext mtaped msize mfaultKind mfaultPlace mat mend mtoken mnumber mname mmen mkinds mreasons mtold munits mhonour mdraw mdies mcoin msonOf mkindOf mowner mfirst mlast mrent msort mduelOne mduelOther mduelOn mruleFrom mruleTo mhasHonour mhasDraw mmName mkName mrName mdName mcode mcodeNumber meWhat meSign mpile mbank mrb mcodes mwithin mpiled munitsInRule maskDay maskUses maskSpent mall Fmall mwas macts mundone musedBy0 musedBy1 mmornings mcameFrom mcameBy mlevelAt mwins mslots mlevelOf mworthOf mstates mlevels mside0 mside1 mdeathDay maway mhires mhirer mslotFound misSpent mfound mlaid mlaidRow mgReason mgDay mgTold mgUntold msights mtime mboxAll misBoxed p0 (by first | with_reducible assumption | omega) (by first | with_reducible assumption | omega) (by first | with_reducible assumption | omega) (by first | with_reducible assumption | omega) (by first | with_reducible assumption | omega) (by first | with_reducible assumption | omega) (by first | with_reducible assumption | omega) (by first | with_reducible assumption | omega) (by first | with_reducible assumption | omega) (by first | with_reducible assumption | omega) hh23 (by first | with_reducible assumption | omega) (by first | with_reducible assumption | omega) (by first | with_reducible assumption | omega) (by first | with_reducible assumption | omega) (by first | with_reducible assumption | omega) (by first | with_reducible assumption | omega) (by first | with_reducible assumption | omega) (by first | with_reducible assumption | omega) (by first | with_reducible assumption | omega) (by first | with_reducible assumption | omega) (by first | with_reducible assumption | omega) (by first | with_reducible assumption | omega)) (gV bw_841 bw_842 bw_843 bw_840 bw_836) rfl rfl (by decide +kernel) ⟨by decide, by decide⟩ (ci := 12) (q0 := 0) rfl rfl (fun _ _ _ _ _ => trivial) (fun _ _ _ => trivial) rfl rfl hl.1 (Nat.le_of_ble_eq_true rfl) dX12_worth_33 ⟨by decide, by decide⟩) hP hS hA (fun r_15 _ H locs hw0 hP hS => ?_)
        have hw : 0 ≤ r_15.toInt ∧ r_15.toInt ≤ 255 := hw0
        clear hw0
        have w_16 := hw
        refine lv_aload_n hx hb dX12_worth_36 rfl (lv_at hl 0 rfl) ?_
        refine lv_iload_n hx hb dX12_worth_37 rfl (lv_at hl 1 rfl) ?_
        refine lv_bipush (v := 6) hx hb dX12_worth_38 (by decide) ?_
        refine k_iR (k_V (n := 2) ⟨hx, hb, hml, hown, hT⟩ hK hP hD [0, 8] rfl (by decide +kernel) (s_X12_of_6 l g H.size h mtape mtext mtaped msize mfaultKind mfaultPlace mat mend mtoken mnumber mname mmen mkinds mreasons mtold munits mhonour mdraw mdies mcoin msonOf mkindOf mowner mfirst mlast mrent msort mduelOne mduelOther mduelOn mruleFrom mruleTo mhasHonour mhasDraw mmName mkName mrName mdName mcode mcodeNumber meWhat meSign mpile mbank mrb mcodes mwithin mpiled munitsInRule maskDay maskUses maskSpent mall Fmall mwas macts mundone musedBy0 musedBy1 mmornings mcameFrom mcameBy mlevelAt mwins mslots mlevelOf mworthOf mstates mlevels mside0 mside1 mdeathDay maway mhires mhirer mslotFound misSpent mfound mlaid mlaidRow mgReason mgDay mgTold mgUntold msights mtime mboxAll misBoxed p0 (by first | with_reducible assumption | omega) (by first | with_reducible assumption | omega) (by first | with_reducible assumption | omega) (by first | with_reducible assumption | omega) (by first | with_reducible assumption | omega) (by first | with_reducible assumption | omega) (by first | with_reducible assumption | omega) (by first | with_reducible assumption | omega) (by first | with_reducible assumption | omega) (by first | with_reducible assumption | omega) hh23 (by first | with_reducible assumption | omega) (by first | with_reducible assumption | omega) (by first | with_reducible assumption | omega) (by first | with_reducible assumption | omega) (by first | with_reducible assumption | omega) (by first | with_reducible assumption | omega) (by first | with_reducible assumption | omega) (by first | with_reducible assumption | omega) (by first | with_reducible assumption | omega) (by first | with_reducible assumption | omega) (by first | with_reducible assumption | omega) (by first | with_reducible assumption | omega)) (gV bw_841 bw_842 bw_843 bw_840 bw_836) rfl rfl (by decide +kernel) ⟨by decide, by decide⟩ (ci := 12) (q0 := 0) rfl rfl (fun _ _ _ _ _ => trivial) (fun _ _ _ => trivial) rfl rfl hl.1 (Nat.le_of_ble_eq_true rfl) dX12_worth_40 ⟨by decide, by decide⟩) hP hS hA (fun r_17 _ H locs hw0 hP hS => ?_)
        have hw : 0 ≤ r_17.toInt ∧ r_17.toInt ≤ 255 := hw0
        clear hw0
        have w_18 := hw
        refine k_i (wr := [(mall, aI g 374 Fmall)]) (k_V (n := 4) ⟨hx, hb, hml, hown, hT⟩ hK hP hD [0, 1, 2, 3, 4, 5, 6, 7] rfl (by decide +kernel) (s_X12_worthBy l g H.size h mtape mtext mtaped msize mfaultKind mfaultPlace mat mend mtoken mnumber mname mmen mkinds Fmkinds mreasons Fmreasons mtold munits mhonour mdraw mdies mcoin msonOf mkindOf FmkindOf mowner mfirst mlast mrent msort mduelOne mduelOther mduelOn mruleFrom FmruleFrom mruleTo FmruleTo mhasHonour mhasDraw mmName mkName mrName mdName mcode Fmcode mcodeNumber FmcodeNumber meWhat meSign mpile Fmpile mbank mrb mcodes mwithin mpiled munitsInRule maskDay maskUses maskSpent mall mwas macts mundone musedBy0 musedBy1 mmornings mcameFrom mcameBy mlevelAt mwins mslots mlevelOf mworthOf mstates mlevels mside0 mside1 mdeathDay maway mhires mhirer mslotFound misSpent mfound mlaid mlaidRow mgReason mgDay mgTold mgUntold msights mtime mboxAll misBoxed p1 p2 r_15 r_17 (by first | with_reducible assumption | omega) (by first | with_reducible assumption | omega) (by first | with_reducible assumption | omega) (by first | with_reducible assumption | omega) (by first | with_reducible assumption | omega) hh6 hh7 hh12 hh16 hh17 (by first | with_reducible assumption | omega) (by first | with_reducible assumption | omega) (by first | with_reducible assumption | omega) (by first | with_reducible assumption | omega) (by first | with_reducible assumption | omega) (by first | with_reducible assumption | omega) (by first | with_reducible assumption | omega) (by first | with_reducible assumption | omega) (by first | with_reducible assumption | omega) (by first | with_reducible assumption | omega) (by first | with_reducible assumption | omega) (by first | with_reducible assumption | omega) (by first | with_reducible assumption | omega) (by first | with_reducible assumption | omega) (by first | with_reducible assumption | omega) (by first | with_reducible assumption | omega) (by first | with_reducible assumption | omega) (by first | with_reducible assumption | omega) (by first | with_reducible assumption | omega) hko hro w_6.2) (gV bw_924 bw_925 bw_926 bw_840 bw_877) rfl rfl (by decide +kernel) ⟨by decide, by decide⟩ (ci := 12) (q0 := 0) rfl rfl (fun _ _ _ _ _ => trivial) (fun _ _ _ => trivial) rfl rfl hl.1 (Nat.le_of_ble_eq_true rfl) dX12_worth_43 ⟨by decide, by decide⟩) hP hD hS hA [0, 1, 2, 3, 4, 5, 6, 7] [8] rfl rfl (by decide +kernel) (by decide +kernel) (fun r_19 => pr_all fun y_20 => pr_all fun y_21 => fun f_22 H locs hw0 hP hD hS => ?_)
        have hP : va_P g.1 vwCl [(mall, aI g 374 Fmall), (h, .inr (12, [.ref mtape, .ref mtext, .int mtaped, .int msize, .int mfaultKind, .int mfaultPlace, .int mat, .int mend, .int mtoken, .int mnumber, .long mname, .ref mmen, .ref mkinds, .ref mreasons, .ref mtold, .ref munits, .ref mhonour, .ref mdraw, .ref mdies, .ref mcoin, .ref msonOf, .ref mkindOf, .ref mowner, .ref mfirst, .ref mlast, .ref mrent, .ref msort, .ref mduelOne, .ref mduelOther, .ref mduelOn, .ref mruleFrom, .ref mruleTo, .ref mhasHonour, .ref mhasDraw, .ref mmName, .ref mkName, .ref mrName, .ref mdName, .ref mcode, .ref mcodeNumber, .ref meWhat, .ref meSign, .ref mpile, .int mbank, .int mrb, .int mcodes, .int mwithin, .int mpiled, .int munitsInRule, .int p2, .int y_20, .int y_21, .ref mall, .ref mwas, .int macts, .int mundone, .ref musedBy0, .ref musedBy1, .ref mmornings, .ref mcameFrom, .ref mcameBy, .ref mlevelAt, .ref mwins, .ref mslots, .ref mlevelOf, .ref mworthOf, .int mstates, .int mlevels, .int mside0, .int mside1, .int mdeathDay, .int maway, .int mhires, .int mhirer, .int mslotFound, .int misSpent, .int mfound, .int mlaid, .ref mlaidRow, .ref mgReason, .ref mgDay, .ref mgTold, .ref mgUntold, .int msights, .int mtime, .ref mboxAll, .ref misBoxed])), (mreasons, aI g 2 Fmreasons), (mkindOf, aI g 16 FmkindOf), (mruleFrom, aI g 8 FmruleFrom), (mruleTo, aI g 8 FmruleTo), (mcode, aI g 1120 Fmcode), (mcodeNumber, aI g 1120 FmcodeNumber), (mpile, aI g 60 f_22)] H := hP
        have hD : va_D A [(mall, aI g 374 Fmall), (h, .inr (12, [.ref mtape, .ref mtext, .int mtaped, .int msize, .int mfaultKind, .int mfaultPlace, .int mat, .int mend, .int mtoken, .int mnumber, .long mname, .ref mmen, .ref mkinds, .ref mreasons, .ref mtold, .ref munits, .ref mhonour, .ref mdraw, .ref mdies, .ref mcoin, .ref msonOf, .ref mkindOf, .ref mowner, .ref mfirst, .ref mlast, .ref mrent, .ref msort, .ref mduelOne, .ref mduelOther, .ref mduelOn, .ref mruleFrom, .ref mruleTo, .ref mhasHonour, .ref mhasDraw, .ref mmName, .ref mkName, .ref mrName, .ref mdName, .ref mcode, .ref mcodeNumber, .ref meWhat, .ref meSign, .ref mpile, .int mbank, .int mrb, .int mcodes, .int mwithin, .int mpiled, .int munitsInRule, .int p2, .int y_20, .int y_21, .ref mall, .ref mwas, .int macts, .int mundone, .ref musedBy0, .ref musedBy1, .ref mmornings, .ref mcameFrom, .ref mcameBy, .ref mlevelAt, .ref mwins, .ref mslots, .ref mlevelOf, .ref mworthOf, .int mstates, .int mlevels, .int mside0, .int mside1, .int mdeathDay, .int maway, .int mhires, .int mhirer, .int mslotFound, .int misSpent, .int mfound, .int mlaid, .ref mlaidRow, .ref mgReason, .ref mgDay, .ref mgTold, .ref mgUntold, .int msights, .int mtime, .ref mboxAll, .ref misBoxed])), (mreasons, aI g 2 Fmreasons), (mkindOf, aI g 16 FmkindOf), (mruleFrom, aI g 8 FmruleFrom), (mruleTo, aI g 8 FmruleTo), (mcode, aI g 1120 Fmcode), (mcodeNumber, aI g 1120 FmcodeNumber), (mpile, aI g 60 f_22)] := hD
        have hw : 1 ≤ r_19.toInt ∧ r_19.toInt ≤ 365 := hw0
        clear hw0
        have w_23 := hw
        refine lv_goto (tgt := 50) hx hb dX12_worth_46 (by decide) ?_
        have hP9 : va_P g.1 vwCl [(h, .inr (12, [.ref mtape, .ref mtext, .int mtaped, .int msize, .int mfaultKind, .int mfaultPlace, .int mat, .int mend, .int mtoken, .int mnumber, .long mname, .ref mmen, .ref mkinds, .ref mreasons, .ref mtold, .ref munits, .ref mhonour, .ref mdraw, .ref mdies, .ref mcoin, .ref msonOf, .ref mkindOf, .ref mowner, .ref mfirst, .ref mlast, .ref mrent, .ref msort, .ref mduelOne, .ref mduelOther, .ref mduelOn, .ref mruleFrom, .ref mruleTo, .ref mhasHonour, .ref mhasDraw, .ref mmName, .ref mkName, .ref mrName, .ref mdName, .ref mcode, .ref mcodeNumber, .ref meWhat, .ref meSign, .ref mpile, .int mbank, .int mrb, .int mcodes, .int mwithin, .int mpiled, .int munitsInRule, .int p2, .int y_20, .int y_21, .ref mall, .ref mwas, .int macts, .int mundone, .ref musedBy0, .ref musedBy1, .ref mmornings, .ref mcameFrom, .ref mcameBy, .ref mlevelAt, .ref mwins, .ref mslots, .ref mlevelOf, .ref mworthOf, .int mstates, .int mlevels, .int mside0, .int mside1, .int mdeathDay, .int maway, .int mhires, .int mhirer, .int mslotFound, .int misSpent, .int mfound, .int mlaid, .ref mlaidRow, .ref mgReason, .ref mgDay, .ref mgTold, .ref mgUntold, .int msights, .int mtime, .ref mboxAll, .ref misBoxed])), (mreasons, aI g 2 Fmreasons), (mkindOf, aI g 16 FmkindOf), (mruleFrom, aI g 8 FmruleFrom), (mruleTo, aI g 8 FmruleTo), (mcode, aI g 1120 Fmcode), (mcodeNumber, aI g 1120 FmcodeNumber), (mpile, aI g 60 f_22), (mall, aI g 374 Fmall)] H := hP.sub [1, 2, 3, 4, 5, 6, 7, 8, 0] rfl
        have hD9 : va_D A [(h, .inr (12, [.ref mtape, .ref mtext, .int mtaped, .int msize, .int mfaultKind, .int mfaultPlace, .int mat, .int mend, .int mtoken, .int mnumber, .long mname, .ref mmen, .ref mkinds, .ref mreasons, .ref mtold, .ref munits, .ref mhonour, .ref mdraw, .ref mdies, .ref mcoin, .ref msonOf, .ref mkindOf, .ref mowner, .ref mfirst, .ref mlast, .ref mrent, .ref msort, .ref mduelOne, .ref mduelOther, .ref mduelOn, .ref mruleFrom, .ref mruleTo, .ref mhasHonour, .ref mhasDraw, .ref mmName, .ref mkName, .ref mrName, .ref mdName, .ref mcode, .ref mcodeNumber, .ref meWhat, .ref meSign, .ref mpile, .int mbank, .int mrb, .int mcodes, .int mwithin, .int mpiled, .int munitsInRule, .int p2, .int y_20, .int y_21, .ref mall, .ref mwas, .int macts, .int mundone, .ref musedBy0, .ref musedBy1, .ref mmornings, .ref mcameFrom, .ref mcameBy, .ref mlevelAt, .ref mwins, .ref mslots, .ref mlevelOf, .ref mworthOf, .int mstates, .int mlevels, .int mside0, .int mside1, .int mdeathDay, .int maway, .int mhires, .int mhirer, .int mslotFound, .int misSpent, .int mfound, .int mlaid, .ref mlaidRow, .ref mgReason, .ref mgDay, .ref mgTold, .ref mgUntold, .int msights, .int mtime, .ref mboxAll, .ref misBoxed])), (mreasons, aI g 2 Fmreasons), (mkindOf, aI g 16 FmkindOf), (mruleFrom, aI g 8 FmruleFrom), (mruleTo, aI g 8 FmruleTo), (mcode, aI g 1120 Fmcode), (mcodeNumber, aI g 1120 FmcodeNumber), (mpile, aI g 60 f_22), (mall, aI g 374 Fmall)] := hD.sub [1, 2, 3, 4, 5, 6, 7, 8, 0] (by decide +kernel) rfl
        exact W.iret (v := r_19) hx hb hr (fun t ht hW => ⟨⟨r_19, (p2, y_20, y_21, f_22), rfl, (by first | with_reducible assumption | omega), by rw [ht]; exact hP9, by rw [hAe]; exact hD9⟩, hS.F ht⟩) hS.2.2 dX12_worth_50
      · subst e_14
        refine lv_if_eq (tgt := 49) hx hb dX12_worth_24 (by decide) (fun _ => ?_) (fun c9 => absurd (by decide) c9)
        refine lv_iconst (v := (-1)) hx hb dX12_worth_49 (by decide) ?_
        have hP9 : va_P g.1 vwCl [(h, .inr (12, [.ref mtape, .ref mtext, .int mtaped, .int msize, .int mfaultKind, .int mfaultPlace, .int mat, .int mend, .int mtoken, .int mnumber, .long mname, .ref mmen, .ref mkinds, .ref mreasons, .ref mtold, .ref munits, .ref mhonour, .ref mdraw, .ref mdies, .ref mcoin, .ref msonOf, .ref mkindOf, .ref mowner, .ref mfirst, .ref mlast, .ref mrent, .ref msort, .ref mduelOne, .ref mduelOther, .ref mduelOn, .ref mruleFrom, .ref mruleTo, .ref mhasHonour, .ref mhasDraw, .ref mmName, .ref mkName, .ref mrName, .ref mdName, .ref mcode, .ref mcodeNumber, .ref meWhat, .ref meSign, .ref mpile, .int mbank, .int mrb, .int mcodes, .int mwithin, .int mpiled, .int munitsInRule, .int maskDay, .int maskUses, .int maskSpent, .ref mall, .ref mwas, .int macts, .int mundone, .ref musedBy0, .ref musedBy1, .ref mmornings, .ref mcameFrom, .ref mcameBy, .ref mlevelAt, .ref mwins, .ref mslots, .ref mlevelOf, .ref mworthOf, .int mstates, .int mlevels, .int mside0, .int mside1, .int mdeathDay, .int maway, .int mhires, .int mhirer, .int mslotFound, .int misSpent, .int mfound, .int mlaid, .ref mlaidRow, .ref mgReason, .ref mgDay, .ref mgTold, .ref mgUntold, .int msights, .int mtime, .ref mboxAll, .ref misBoxed])), (mreasons, aI g 2 Fmreasons), (mkindOf, aI g 16 FmkindOf), (mruleFrom, aI g 8 FmruleFrom), (mruleTo, aI g 8 FmruleTo), (mcode, aI g 1120 Fmcode), (mcodeNumber, aI g 1120 FmcodeNumber), (mpile, aI g 60 Fmpile), (mall, aI g 374 Fmall)] H := hP.sub [0, 1, 2, 3, 4, 5, 6, 7, 8] rfl
        have hD9 : va_D A [(h, .inr (12, [.ref mtape, .ref mtext, .int mtaped, .int msize, .int mfaultKind, .int mfaultPlace, .int mat, .int mend, .int mtoken, .int mnumber, .long mname, .ref mmen, .ref mkinds, .ref mreasons, .ref mtold, .ref munits, .ref mhonour, .ref mdraw, .ref mdies, .ref mcoin, .ref msonOf, .ref mkindOf, .ref mowner, .ref mfirst, .ref mlast, .ref mrent, .ref msort, .ref mduelOne, .ref mduelOther, .ref mduelOn, .ref mruleFrom, .ref mruleTo, .ref mhasHonour, .ref mhasDraw, .ref mmName, .ref mkName, .ref mrName, .ref mdName, .ref mcode, .ref mcodeNumber, .ref meWhat, .ref meSign, .ref mpile, .int mbank, .int mrb, .int mcodes, .int mwithin, .int mpiled, .int munitsInRule, .int maskDay, .int maskUses, .int maskSpent, .ref mall, .ref mwas, .int macts, .int mundone, .ref musedBy0, .ref musedBy1, .ref mmornings, .ref mcameFrom, .ref mcameBy, .ref mlevelAt, .ref mwins, .ref mslots, .ref mlevelOf, .ref mworthOf, .int mstates, .int mlevels, .int mside0, .int mside1, .int mdeathDay, .int maway, .int mhires, .int mhirer, .int mslotFound, .int misSpent, .int mfound, .int mlaid, .ref mlaidRow, .ref mgReason, .ref mgDay, .ref mgTold, .ref mgUntold, .int msights, .int mtime, .ref mboxAll, .ref misBoxed])), (mreasons, aI g 2 Fmreasons), (mkindOf, aI g 16 FmkindOf), (mruleFrom, aI g 8 FmruleFrom), (mruleTo, aI g 8 FmruleTo), (mcode, aI g 1120 Fmcode), (mcodeNumber, aI g 1120 FmcodeNumber), (mpile, aI g 60 Fmpile), (mall, aI g 374 Fmall)] := hD.sub [0, 1, 2, 3, 4, 5, 6, 7, 8] (by decide +kernel) rfl
        exact W.iret (v := (-1)) hx hb hr (fun t ht hW => ⟨⟨(-1), (maskDay, maskUses, maskSpent, Fmpile), rfl, ⟨by decide, by decide⟩, by rw [ht]; exact hP9, by rw [hAe]; exact hD9⟩, hS.F ht⟩) hS.2.2 dX12_worth_50
    · subst e_9
      refine lv_if_eq (tgt := 49) hx hb dX12_worth_13 (by decide) (fun _ => ?_) (fun c9 => absurd (by decide) c9)
      refine lv_iconst (v := (-1)) hx hb dX12_worth_49 (by decide) ?_
      have hP9 : va_P g.1 vwCl [(h, .inr (12, [.ref mtape, .ref mtext, .int mtaped, .int msize, .int mfaultKind, .int mfaultPlace, .int mat, .int mend, .int mtoken, .int mnumber, .long mname, .ref mmen, .ref mkinds, .ref mreasons, .ref mtold, .ref munits, .ref mhonour, .ref mdraw, .ref mdies, .ref mcoin, .ref msonOf, .ref mkindOf, .ref mowner, .ref mfirst, .ref mlast, .ref mrent, .ref msort, .ref mduelOne, .ref mduelOther, .ref mduelOn, .ref mruleFrom, .ref mruleTo, .ref mhasHonour, .ref mhasDraw, .ref mmName, .ref mkName, .ref mrName, .ref mdName, .ref mcode, .ref mcodeNumber, .ref meWhat, .ref meSign, .ref mpile, .int mbank, .int mrb, .int mcodes, .int mwithin, .int mpiled, .int munitsInRule, .int maskDay, .int maskUses, .int maskSpent, .ref mall, .ref mwas, .int macts, .int mundone, .ref musedBy0, .ref musedBy1, .ref mmornings, .ref mcameFrom, .ref mcameBy, .ref mlevelAt, .ref mwins, .ref mslots, .ref mlevelOf, .ref mworthOf, .int mstates, .int mlevels, .int mside0, .int mside1, .int mdeathDay, .int maway, .int mhires, .int mhirer, .int mslotFound, .int misSpent, .int mfound, .int mlaid, .ref mlaidRow, .ref mgReason, .ref mgDay, .ref mgTold, .ref mgUntold, .int msights, .int mtime, .ref mboxAll, .ref misBoxed])), (mreasons, aI g 2 Fmreasons), (mkindOf, aI g 16 FmkindOf), (mruleFrom, aI g 8 FmruleFrom), (mruleTo, aI g 8 FmruleTo), (mcode, aI g 1120 Fmcode), (mcodeNumber, aI g 1120 FmcodeNumber), (mpile, aI g 60 Fmpile), (mall, aI g 374 Fmall)] H := hP.sub [0, 1, 2, 3, 4, 5, 6, 7, 8] rfl
      have hD9 : va_D A [(h, .inr (12, [.ref mtape, .ref mtext, .int mtaped, .int msize, .int mfaultKind, .int mfaultPlace, .int mat, .int mend, .int mtoken, .int mnumber, .long mname, .ref mmen, .ref mkinds, .ref mreasons, .ref mtold, .ref munits, .ref mhonour, .ref mdraw, .ref mdies, .ref mcoin, .ref msonOf, .ref mkindOf, .ref mowner, .ref mfirst, .ref mlast, .ref mrent, .ref msort, .ref mduelOne, .ref mduelOther, .ref mduelOn, .ref mruleFrom, .ref mruleTo, .ref mhasHonour, .ref mhasDraw, .ref mmName, .ref mkName, .ref mrName, .ref mdName, .ref mcode, .ref mcodeNumber, .ref meWhat, .ref meSign, .ref mpile, .int mbank, .int mrb, .int mcodes, .int mwithin, .int mpiled, .int munitsInRule, .int maskDay, .int maskUses, .int maskSpent, .ref mall, .ref mwas, .int macts, .int mundone, .ref musedBy0, .ref musedBy1, .ref mmornings, .ref mcameFrom, .ref mcameBy, .ref mlevelAt, .ref mwins, .ref mslots, .ref mlevelOf, .ref mworthOf, .int mstates, .int mlevels, .int mside0, .int mside1, .int mdeathDay, .int maway, .int mhires, .int mhirer, .int mslotFound, .int misSpent, .int mfound, .int mlaid, .ref mlaidRow, .ref mgReason, .ref mgDay, .ref mgTold, .ref mgUntold, .int msights, .int mtime, .ref mboxAll, .ref misBoxed])), (mreasons, aI g 2 Fmreasons), (mkindOf, aI g 16 FmkindOf), (mruleFrom, aI g 8 FmruleFrom), (mruleTo, aI g 8 FmruleTo), (mcode, aI g 1120 Fmcode), (mcodeNumber, aI g 1120 FmcodeNumber), (mpile, aI g 60 Fmpile), (mall, aI g 374 Fmall)] := hD.sub [0, 1, 2, 3, 4, 5, 6, 7, 8] (by decide +kernel) rfl
      exact W.iret (v := (-1)) hx hb hr (fun t ht hW => ⟨⟨(-1), (maskDay, maskUses, maskSpent, Fmpile), rfl, ⟨by decide, by decide⟩, by rw [ht]; exact hP9, by rw [hAe]; exact hD9⟩, hS.F ht⟩) hS.2.2 dX12_worth_50
  · subst e_4
    refine lv_if_eq (tgt := 49) hx hb dX12_worth_5 (by decide) (fun _ => ?_) (fun c9 => absurd (by decide) c9)
    refine lv_iconst (v := (-1)) hx hb dX12_worth_49 (by decide) ?_
    have hP9 : va_P g.1 vwCl [(h, .inr (12, [.ref mtape, .ref mtext, .int mtaped, .int msize, .int mfaultKind, .int mfaultPlace, .int mat, .int mend, .int mtoken, .int mnumber, .long mname, .ref mmen, .ref mkinds, .ref mreasons, .ref mtold, .ref munits, .ref mhonour, .ref mdraw, .ref mdies, .ref mcoin, .ref msonOf, .ref mkindOf, .ref mowner, .ref mfirst, .ref mlast, .ref mrent, .ref msort, .ref mduelOne, .ref mduelOther, .ref mduelOn, .ref mruleFrom, .ref mruleTo, .ref mhasHonour, .ref mhasDraw, .ref mmName, .ref mkName, .ref mrName, .ref mdName, .ref mcode, .ref mcodeNumber, .ref meWhat, .ref meSign, .ref mpile, .int mbank, .int mrb, .int mcodes, .int mwithin, .int mpiled, .int munitsInRule, .int maskDay, .int maskUses, .int maskSpent, .ref mall, .ref mwas, .int macts, .int mundone, .ref musedBy0, .ref musedBy1, .ref mmornings, .ref mcameFrom, .ref mcameBy, .ref mlevelAt, .ref mwins, .ref mslots, .ref mlevelOf, .ref mworthOf, .int mstates, .int mlevels, .int mside0, .int mside1, .int mdeathDay, .int maway, .int mhires, .int mhirer, .int mslotFound, .int misSpent, .int mfound, .int mlaid, .ref mlaidRow, .ref mgReason, .ref mgDay, .ref mgTold, .ref mgUntold, .int msights, .int mtime, .ref mboxAll, .ref misBoxed])), (mreasons, aI g 2 Fmreasons), (mkindOf, aI g 16 FmkindOf), (mruleFrom, aI g 8 FmruleFrom), (mruleTo, aI g 8 FmruleTo), (mcode, aI g 1120 Fmcode), (mcodeNumber, aI g 1120 FmcodeNumber), (mpile, aI g 60 Fmpile), (mall, aI g 374 Fmall)] H := hP.sub [0, 1, 2, 3, 4, 5, 6, 7, 8] rfl
    have hD9 : va_D A [(h, .inr (12, [.ref mtape, .ref mtext, .int mtaped, .int msize, .int mfaultKind, .int mfaultPlace, .int mat, .int mend, .int mtoken, .int mnumber, .long mname, .ref mmen, .ref mkinds, .ref mreasons, .ref mtold, .ref munits, .ref mhonour, .ref mdraw, .ref mdies, .ref mcoin, .ref msonOf, .ref mkindOf, .ref mowner, .ref mfirst, .ref mlast, .ref mrent, .ref msort, .ref mduelOne, .ref mduelOther, .ref mduelOn, .ref mruleFrom, .ref mruleTo, .ref mhasHonour, .ref mhasDraw, .ref mmName, .ref mkName, .ref mrName, .ref mdName, .ref mcode, .ref mcodeNumber, .ref meWhat, .ref meSign, .ref mpile, .int mbank, .int mrb, .int mcodes, .int mwithin, .int mpiled, .int munitsInRule, .int maskDay, .int maskUses, .int maskSpent, .ref mall, .ref mwas, .int macts, .int mundone, .ref musedBy0, .ref musedBy1, .ref mmornings, .ref mcameFrom, .ref mcameBy, .ref mlevelAt, .ref mwins, .ref mslots, .ref mlevelOf, .ref mworthOf, .int mstates, .int mlevels, .int mside0, .int mside1, .int mdeathDay, .int maway, .int mhires, .int mhirer, .int mslotFound, .int misSpent, .int mfound, .int mlaid, .ref mlaidRow, .ref mgReason, .ref mgDay, .ref mgTold, .ref mgUntold, .int msights, .int mtime, .ref mboxAll, .ref misBoxed])), (mreasons, aI g 2 Fmreasons), (mkindOf, aI g 16 FmkindOf), (mruleFrom, aI g 8 FmruleFrom), (mruleTo, aI g 8 FmruleTo), (mcode, aI g 1120 Fmcode), (mcodeNumber, aI g 1120 FmcodeNumber), (mpile, aI g 60 Fmpile), (mall, aI g 374 Fmall)] := hD.sub [0, 1, 2, 3, 4, 5, 6, 7, 8] (by decide +kernel) rfl
    exact W.iret (v := (-1)) hx hb hr (fun t ht hW => ⟨⟨(-1), (maskDay, maskUses, maskSpent, Fmpile), rfl, ⟨by decide, by decide⟩, by rw [ht]; exact hP9, by rw [hAe]; exact hD9⟩, hS.F ht⟩) hS.2.2 dX12_worth_50

theorem bw_928 : Cond.methodLink RX12 482 yX12_isSide ∈ gT := gT_tb 1808 (by decide +kernel) (by decide +kernel)
theorem bw_929 : Cond.static yX12_isSide ∈ gT := gT_tb 1809 (by decide +kernel) (by decide +kernel)
theorem bw_930 : Cond.initialized yX12_isSide.cls ∈ gT := gT_tb 19 (by decide +kernel) (by decide +kernel)
theorem bw_931 : Cond.methodLink RX12 485 yX12_mayToday ∈ gT := gT_tb 1811 (by decide +kernel) (by decide +kernel)
theorem bw_932 : Cond.instanceMethod yX12_mayToday ∈ gT := gT_tb 1813 (by decide +kernel) (by decide +kernel)
theorem bw_933 : Cond.selects RX12 yX12_mayToday yX12_mayToday ∈ gT := gT_sl 95 (by decide +kernel) (by decide +kernel)
theorem bw_934 : Cond.code yX12_may cX12_may 5 (some .int) ∈ gT := gT_tb 1807 (by decide +kernel) (by decide +kernel)
theorem dX12_may_0 : decode cX12_may 0 = .ok (.aload_n 0, 1) := by decide +kernel
theorem dX12_may_1 : decode cX12_may 1 = .ok (.iload_n 1, 1) := by decide +kernel
theorem dX12_may_2 : decode cX12_may 2 = .ok (.invokevirtual 415, 3) := by decide +kernel
theorem dX12_may_5 : decode cX12_may 5 = .ok (.ifCond .eq 10, 3) := by decide +kernel
theorem dX12_may_8 : decode cX12_may 8 = .ok (.iload_n 2, 1) := by decide +kernel
theorem dX12_may_9 : decode cX12_may 9 = .ok (.invokestatic 482, 3) := by decide +kernel
theorem dX12_may_12 : decode cX12_may 12 = .ok (.ifCond .ne 5, 3) := by decide +kernel
theorem dX12_may_15 : decode cX12_may 15 = .ok (.iconst (-1), 1) := by decide +kernel
theorem dX12_may_16 : decode cX12_may 16 = .ok (.ireturn, 1) := by decide +kernel
theorem dX12_may_17 : decode cX12_may 17 = .ok (.iconst 0, 1) := by decide +kernel
theorem dX12_may_18 : decode cX12_may 18 = .ok (.istore_n 3, 1) := by decide +kernel
theorem dX12_may_19 : decode cX12_may 19 = .ok (.iconst 0, 1) := by decide +kernel
theorem dX12_may_20 : decode cX12_may 20 = .ok (.istore 4, 2) := by decide +kernel
theorem dX12_may_22 : decode cX12_may 22 = .ok (.iload 4, 2) := by decide +kernel
theorem dX12_may_24 : decode cX12_may 24 = .ok (.aload_n 0, 1) := by decide +kernel
theorem dX12_may_25 : decode cX12_may 25 = .ok (.getfield 27, 3) := by decide +kernel
theorem dX12_may_28 : decode cX12_may 28 = .ok (.aload_n 0, 1) := by decide +kernel
theorem dX12_may_29 : decode cX12_may 29 = .ok (.getfield 308, 3) := by decide +kernel
theorem dX12_may_32 : decode cX12_may 32 = .ok (.iaload, 1) := by decide +kernel
theorem dX12_may_33 : decode cX12_may 33 = .ok (.if_icmp .ge 27, 3) := by decide +kernel
theorem dX12_may_36 : decode cX12_may 36 = .ok (.aload_n 0, 1) := by decide +kernel
theorem dX12_may_37 : decode cX12_may 37 = .ok (.iload_n 1, 1) := by decide +kernel
theorem dX12_may_38 : decode cX12_may 38 = .ok (.iload_n 2, 1) := by decide +kernel
theorem dX12_may_39 : decode cX12_may 39 = .ok (.iload 4, 2) := by decide +kernel
theorem dX12_may_41 : decode cX12_may 41 = .ok (.invokevirtual 485, 3) := by decide +kernel
theorem dX12_may_44 : decode cX12_may 44 = .ok (.ifCond .eq 10, 3) := by decide +kernel
theorem dX12_may_47 : decode cX12_may 47 = .ok (.iload_n 3, 1) := by decide +kernel
theorem dX12_may_48 : decode cX12_may 48 = .ok (.iconst 1, 1) := by decide +kernel
theorem dX12_may_49 : decode cX12_may 49 = .ok (.iload 4, 2) := by decide +kernel
theorem dX12_may_51 : decode cX12_may 51 = .ok (.ishl, 1) := by decide +kernel
theorem dX12_may_52 : decode cX12_may 52 = .ok (.ior, 1) := by decide +kernel
theorem dX12_may_53 : decode cX12_may 53 = .ok (.istore_n 3, 1) := by decide +kernel
theorem dX12_may_54 : decode cX12_may 54 = .ok (.iinc 4 1, 3) := by decide +kernel
theorem dX12_may_57 : decode cX12_may 57 = .ok (.goto (-35), 3) := by decide +kernel
theorem dX12_may_60 : decode cX12_may 60 = .ok (.iload_n 3, 1) := by decide +kernel
theorem dX12_may_61 : decode cX12_may 61 = .ok (.ireturn, 1) := by decide +kernel
set_option maxHeartbeats 40000000 in
set_option maxRecDepth 100000 in
theorem s_X12_may (l : Launch) (g : GG) (sz : Nat) (h : Nat) (mtape : Nat) (mtext : Nat) (mtaped : Int32) (msize : Int32) (mfaultKind : Int32) (mfaultPlace : Int32) (mat : Int32) (mend : Int32) (mtoken : Int32) (mnumber : Int32) (mname : Int64) (mmen : Nat) (mkinds : Nat) (mreasons : Nat) (Fmreasons : Nat → Int32) (mtold : Nat) (munits : Nat) (mhonour : Nat) (mdraw : Nat) (mdies : Nat) (mcoin : Nat) (msonOf : Nat) (mkindOf : Nat) (mowner : Nat) (Fmowner : Nat → Int32) (mfirst : Nat) (Fmfirst : Nat → Int32) (mlast : Nat) (Fmlast : Nat → Int32) (mrent : Nat) (msort : Nat) (Fmsort : Nat → Int32) (mduelOne : Nat) (mduelOther : Nat) (mduelOn : Nat) (mruleFrom : Nat) (mruleTo : Nat) (mhasHonour : Nat) (mhasDraw : Nat) (mmName : Nat) (mkName : Nat) (mrName : Nat) (mdName : Nat) (mcode : Nat) (mcodeNumber : Nat) (meWhat : Nat) (meSign : Nat) (mpile : Nat) (mbank : Int32) (mrb : Int32) (mcodes : Int32) (mwithin : Int32) (mpiled : Int32) (munitsInRule : Int32) (maskDay : Int32) (maskUses : Int32) (maskSpent : Int32) (mall : Nat) (Fmall : Nat → Int32) (mwas : Nat) (macts : Int32) (mundone : Int32) (musedBy0 : Nat) (musedBy1 : Nat) (mmornings : Nat) (mcameFrom : Nat) (mcameBy : Nat) (mlevelAt : Nat) (mwins : Nat) (mslots : Nat) (mlevelOf : Nat) (mworthOf : Nat) (mstates : Int32) (mlevels : Int32) (mside0 : Int32) (mside1 : Int32) (mdeathDay : Int32) (maway : Int32) (mhires : Int32) (mhirer : Int32) (mslotFound : Int32) (misSpent : Int32) (mfound : Int32) (mlaid : Int32) (mlaidRow : Nat) (mgReason : Nat) (mgDay : Nat) (mgTold : Nat) (mgUntold : Nat) (msights : Int32) (mtime : Int32) (mboxAll : Nat) (misBoxed : Nat) (p0 : Int32) (p1 : Int32) (hh0 : 0 ≤ mtaped.toInt ∧ mtaped.toInt ≤ 1600) (hh1 : 0 ≤ msize.toInt ∧ msize.toInt ≤ 1600) (hh2 : 0 ≤ mat.toInt ∧ mat.toInt ≤ 1600) (hh3 : 0 ≤ mend.toInt ∧ mend.toInt ≤ 1600) (hh4 : 0 ≤ mtoken.toInt ∧ mtoken.toInt ≤ 5) (hh7 : Rg 2 0 8 Fmreasons) (hh13 : Rg 16 (-1) 5 Fmowner) (hh18 : 0 ≤ mbank.toInt ∧ mbank.toInt ≤ 1) (hh19 : 0 ≤ mrb.toInt ∧ mrb.toInt ≤ 1) (hh20 : 0 ≤ mcodes.toInt ∧ mcodes.toInt ≤ 1120) (hh21 : 0 ≤ mpiled.toInt ∧ mpiled.toInt ≤ 90) (hh22 : 0 ≤ munitsInRule.toInt ∧ munitsInRule.toInt ≤ 30) (hh23 : Ia Fmall) (hh25 : 0 ≤ macts.toInt ∧ macts.toInt ≤ 40) (hh26 : 0 ≤ mundone.toInt ∧ mundone.toInt ≤ 40) (hh34 : 0 ≤ mstates.toInt ∧ mstates.toInt ≤ 3000) (hh35 : 0 ≤ mlevels.toInt ∧ mlevels.toInt ≤ 18) (hh36 : 0 ≤ mside0.toInt ∧ mside0.toInt ≤ 5) (hh37 : 0 ≤ mside1.toInt ∧ mside1.toInt ≤ 5) (hh38 : 0 ≤ mslotFound.toInt ∧ mslotFound.toInt ≤ 8191) (hh39 : 0 ≤ misSpent.toInt ∧ misSpent.toInt ≤ 1) (hh40 : 0 ≤ mlaid.toInt ∧ mlaid.toInt ≤ 16) (hh41 : 0 ≤ msights.toInt ∧ msights.toInt ≤ 30) (hh42 : 0 ≤ mtime.toInt ∧ mtime.toInt ≤ 100000) : Met l yX12_may (.code yX12_may cX12_may 5 (some .int) :: gT) ({ frames := 4, cells := 0, slots := 0, locals := 88 }) (va_Pc [.ref h, .int p0, .int p1] (Pst g sz [(h, .inr (12, [.ref mtape, .ref mtext, .int mtaped, .int msize, .int mfaultKind, .int mfaultPlace, .int mat, .int mend, .int mtoken, .int mnumber, .long mname, .ref mmen, .ref mkinds, .ref mreasons, .ref mtold, .ref munits, .ref mhonour, .ref mdraw, .ref mdies, .ref mcoin, .ref msonOf, .ref mkindOf, .ref mowner, .ref mfirst, .ref mlast, .ref mrent, .ref msort, .ref mduelOne, .ref mduelOther, .ref mduelOn, .ref mruleFrom, .ref mruleTo, .ref mhasHonour, .ref mhasDraw, .ref mmName, .ref mkName, .ref mrName, .ref mdName, .ref mcode, .ref mcodeNumber, .ref meWhat, .ref meSign, .ref mpile, .int mbank, .int mrb, .int mcodes, .int mwithin, .int mpiled, .int munitsInRule, .int maskDay, .int maskUses, .int maskSpent, .ref mall, .ref mwas, .int macts, .int mundone, .ref musedBy0, .ref musedBy1, .ref mmornings, .ref mcameFrom, .ref mcameBy, .ref mlevelAt, .ref mwins, .ref mslots, .ref mlevelOf, .ref mworthOf, .int mstates, .int mlevels, .int mside0, .int mside1, .int mdeathDay, .int maway, .int mhires, .int mhirer, .int mslotFound, .int misSpent, .int mfound, .int mlaid, .ref mlaidRow, .ref mgReason, .ref mgDay, .ref mgTold, .ref mgUntold, .int msights, .int mtime, .ref mboxAll, .ref misBoxed])), (mreasons, aI g 2 Fmreasons), (mowner, aI g 16 Fmowner), (mfirst, aI g 16 Fmfirst), (mlast, aI g 16 Fmlast), (msort, aI g 16 Fmsort), (mall, aI g 374 Fmall)] nX)) (va_Qi (fun (r : Int32) => fun (_ : Unit) => True) (Qst g [] sz (fun _ => [])) (va_A [] sz)) 0 0 (va_A [] sz) := by
  refine Met.ofW (cc := cX12_may) (maxL := 5) (ret := (some .int)) (by decide) rfl ?_
  intro p e s m args below meth c s₁ B hml hv
  obtain ⟨rfl, hsz, hP, hK, hD0, hX⟩ := hv
  have hx := B.exec
  have hb := B.bytes
  have hr := B.returns
  have hT : ∀ w ∈ gT, w.before _ s = true := fun w h => atoms_spec (ws := .code yX12_may cX12_may 5 (some .int) :: gT) B.pre w (List.mem_cons_of_mem _ h)
  have hown : s.vm.findClass RX12 = some m.cls := findClass_of_methodNamed B.named
  have hlocks := B.notSynchronized
  subst hsz
  have hD := hD0
  generalize hAe : va_A [] s.heap.size = A at ⊢
  have hA : ∀ q : Nat, s.heap.size ≤ q → A q := fun q h => by rw [← hAe]; exact Or.inr h
  have hS : va_S A s.heap s.heap [] := va_S.rf
  have hl := lv_entry ([.ref h, .int p0, .int p1]) (n := 5) (Nat.le_of_ble_eq_true rfl)
  rw [lg_entry_eq]
  generalize (lg_sl ([.ref h, .int p0, .int p1]) ++ List.replicate (5 - (lg_sl ([.ref h, .int p0, .int p1])).length) Slot.unset).toArray = ls at hl ⊢
  have hl : lv_has ls 5 [(0, .ref h), (1, .int p0), (2, .int p1)] := hl
  refine p_nH (fun H hH => ?_)
  have hP : va_P g.1 vwCl [(h, .inr (12, [.ref mtape, .ref mtext, .int mtaped, .int msize, .int mfaultKind, .int mfaultPlace, .int mat, .int mend, .int mtoken, .int mnumber, .long mname, .ref mmen, .ref mkinds, .ref mreasons, .ref mtold, .ref munits, .ref mhonour, .ref mdraw, .ref mdies, .ref mcoin, .ref msonOf, .ref mkindOf, .ref mowner, .ref mfirst, .ref mlast, .ref mrent, .ref msort, .ref mduelOne, .ref mduelOther, .ref mduelOn, .ref mruleFrom, .ref mruleTo, .ref mhasHonour, .ref mhasDraw, .ref mmName, .ref mkName, .ref mrName, .ref mdName, .ref mcode, .ref mcodeNumber, .ref meWhat, .ref meSign, .ref mpile, .int mbank, .int mrb, .int mcodes, .int mwithin, .int mpiled, .int munitsInRule, .int maskDay, .int maskUses, .int maskSpent, .ref mall, .ref mwas, .int macts, .int mundone, .ref musedBy0, .ref musedBy1, .ref mmornings, .ref mcameFrom, .ref mcameBy, .ref mlevelAt, .ref mwins, .ref mslots, .ref mlevelOf, .ref mworthOf, .int mstates, .int mlevels, .int mside0, .int mside1, .int mdeathDay, .int maway, .int mhires, .int mhirer, .int mslotFound, .int misSpent, .int mfound, .int mlaid, .ref mlaidRow, .ref mgReason, .ref mgDay, .ref mgTold, .ref mgUntold, .int msights, .int mtime, .ref mboxAll, .ref misBoxed])), (mreasons, aI g 2 Fmreasons), (mowner, aI g 16 Fmowner), (mfirst, aI g 16 Fmfirst), (mlast, aI g 16 Fmlast), (msort, aI g 16 Fmsort), (mall, aI g 374 Fmall)] H := by rw [hH]; exact hP
  have hS : va_S A s.heap H [] := by rw [hH]; exact hS
  refine lv_aload_n hx hb dX12_may_0 rfl (lv_at hl 0 rfl) ?_
  refine lv_iload_n hx hb dX12_may_1 rfl (lv_at hl 1 rfl) ?_
  refine k_iR (k_V (n := 1) ⟨hx, hb, hml, hown, hT⟩ hK hP hD [0, 6] rfl (by decide +kernel) (s_X12_isDuel l g H.size h mtape mtext mtaped msize mfaultKind mfaultPlace mat mend mtoken mnumber mname mmen mkinds mreasons mtold munits mhonour mdraw mdies mcoin msonOf mkindOf mowner mfirst mlast mrent msort mduelOne mduelOther mduelOn mruleFrom mruleTo mhasHonour mhasDraw mmName mkName mrName mdName mcode mcodeNumber meWhat meSign mpile mbank mrb mcodes mwithin mpiled munitsInRule maskDay maskUses maskSpent mall Fmall mwas macts mundone musedBy0 musedBy1 mmornings mcameFrom mcameBy mlevelAt mwins mslots mlevelOf mworthOf mstates mlevels mside0 mside1 mdeathDay maway mhires mhirer mslotFound misSpent mfound mlaid mlaidRow mgReason mgDay mgTold mgUntold msights mtime mboxAll misBoxed p0 (by first | with_reducible assumption | omega) (by first | with_reducible assumption | omega) (by first | with_reducible assumption | omega) (by first | with_reducible assumption | omega) (by first | with_reducible assumption | omega) (by first | with_reducible assumption | omega) (by first | with_reducible assumption | omega) (by first | with_reducible assumption | omega) (by first | with_reducible assumption | omega) (by first | with_reducible assumption | omega) hh23 (by first | with_reducible assumption | omega) (by first | with_reducible assumption | omega) (by first | with_reducible assumption | omega) (by first | with_reducible assumption | omega) (by first | with_reducible assumption | omega) (by first | with_reducible assumption | omega) (by first | with_reducible assumption | omega) (by first | with_reducible assumption | omega) (by first | with_reducible assumption | omega) (by first | with_reducible assumption | omega) (by first | with_reducible assumption | omega)) (gV bw_837 bw_838 bw_839 bw_840 bw_833) rfl rfl (by decide +kernel) ⟨by decide, by decide⟩ (ci := 12) (q0 := 0) rfl rfl (fun _ _ _ _ _ => trivial) (fun _ _ _ => trivial) rfl rfl hl.1 (Nat.le_of_ble_eq_true rfl) dX12_may_2 ⟨by decide, by decide⟩) hP hS hA (fun r_1 _ H locs hw0 hP hS => ?_)
  have hw : (r_1 = 1 ∧ (0 ≤ p0.toInt ∧ p0.toInt ≤ 7)) ∨ (r_1 = 0) := hw0
  clear hw0
  rcases hw with ⟨e_3, w_2⟩ | e_4
  · subst e_3
    refine lv_if_eq (tgt := 15) hx hb dX12_may_5 (by decide) (fun c9 => absurd c9 (by decide)) (fun _ => ?_)
    refine lv_iload_n hx hb dX12_may_8 rfl (lv_at hl 2 rfl) ?_
    refine k_iR (k_S (n := 1) ⟨hx, hb, hml, hown, hT⟩ hK hP hD [] rfl (by decide +kernel) (s_X12_isSide l g H.size p1) (gS bw_928 bw_929 bw_930 bw_818) rfl rfl (by decide +kernel) ⟨by decide, by decide⟩ (fun _ _ _ _ _ => trivial) (fun _ _ _ => trivial) rfl rfl hl.1 (Nat.le_of_ble_eq_true rfl) dX12_may_9 ⟨by decide, by decide⟩) hP hS hA (fun r_5 _ H locs hw0 hP hS => ?_)
    have hw : (r_5 = 1 ∧ (0 ≤ p1.toInt ∧ p1.toInt ≤ 1)) ∨ (r_5 = 0) := hw0
    clear hw0
    rcases hw with ⟨e_7, w_6⟩ | e_8
    · subst e_7
      refine lv_if_ne (tgt := 17) hx hb dX12_may_12 (by decide) (fun _ => ?_) (fun c9 => absurd c9 (by decide))
      refine lv_iconst (v := 0) hx hb dX12_may_17 (by decide) ?_
      refine lv_istore_n (lv' := [(3, .int 0), (0, .ref h), (1, .int p0), (2, .int p1)]) hx hb dX12_may_18 rfl hl (by decide) rfl (fun ls hl => ?_)
      refine lv_iconst (v := 0) hx hb dX12_may_19 (by decide) ?_
      refine lv_istore (lv' := [(4, .int 0), (3, .int 0), (0, .ref h), (1, .int p0), (2, .int p1)]) hx hb dX12_may_20 hl (by decide) rfl (fun ls hl => ?_)
      refine k_floop 22 (fun n H locs ls => ∃ (L_9 : Int32) (L_10 : Int32), (0 ≤ L_9.toInt ∧ L_9.toInt ≤ 8) ∧ 8 - L_9.toInt ≤ (n : Int) ∧ va_P g.1 vwCl [(h, .inr (12, [.ref mtape, .ref mtext, .int mtaped, .int msize, .int mfaultKind, .int mfaultPlace, .int mat, .int mend, .int mtoken, .int mnumber, .long mname, .ref mmen, .ref mkinds, .ref mreasons, .ref mtold, .ref munits, .ref mhonour, .ref mdraw, .ref mdies, .ref mcoin, .ref msonOf, .ref mkindOf, .ref mowner, .ref mfirst, .ref mlast, .ref mrent, .ref msort, .ref mduelOne, .ref mduelOther, .ref mduelOn, .ref mruleFrom, .ref mruleTo, .ref mhasHonour, .ref mhasDraw, .ref mmName, .ref mkName, .ref mrName, .ref mdName, .ref mcode, .ref mcodeNumber, .ref meWhat, .ref meSign, .ref mpile, .int mbank, .int mrb, .int mcodes, .int mwithin, .int mpiled, .int munitsInRule, .int maskDay, .int maskUses, .int maskSpent, .ref mall, .ref mwas, .int macts, .int mundone, .ref musedBy0, .ref musedBy1, .ref mmornings, .ref mcameFrom, .ref mcameBy, .ref mlevelAt, .ref mwins, .ref mslots, .ref mlevelOf, .ref mworthOf, .int mstates, .int mlevels, .int mside0, .int mside1, .int mdeathDay, .int maway, .int mhires, .int mhirer, .int mslotFound, .int misSpent, .int mfound, .int mlaid, .ref mlaidRow, .ref mgReason, .ref mgDay, .ref mgTold, .ref mgUntold, .int msights, .int mtime, .ref mboxAll, .ref misBoxed])), (mreasons, aI g 2 Fmreasons), (mowner, aI g 16 Fmowner), (mfirst, aI g 16 Fmfirst), (mlast, aI g 16 Fmlast), (msort, aI g 16 Fmsort), (mall, aI g 374 Fmall)] H ∧ va_S A s.heap H locs ∧ lv_has ls 5 [(4, .int L_9), (3, .int L_10), (0, .ref h), (1, .int p0), (2, .int p1)]) (fun n H locs ls hI ih => ?_) ((8 - 0 : Int)).toNat ⟨0, 0, by decide, by have k0 : (0 : Int32).toInt = 0 := (by decide); omega, hP, hS, hl⟩
      refine hI.elim (fun L_9 hI => hI.elim (fun L_10 hI => ?_))
      have g_11 := hI.1
      have hm_12 := hI.2.1
      have hP := hI.2.2.1
      have hS := hI.2.2.2.1
      have hl := hI.2.2.2.2
      clear hI
      refine lv_iload hx hb dX12_may_22 (lv_at hl 0 rfl) ?_
      refine lv_aload_n hx hb dX12_may_24 rfl (lv_at hl 2 rfl) ?_
      refine va_get (D := g.1) (ci := 12) (v := .ref mreasons) (C := RX12) (T := TX12) (N := 87) hx hb hT inF_X12 hown hK.1 hP 0 rfl rfl 13 (by decide) (hT _ bw_830) (fun _ h9 => h9) rfl dX12_may_25 ?_
      refine lv_aload_n hx hb dX12_may_28 rfl (lv_at hl 2 rfl) ?_
      refine va_get (D := g.1) (ci := 12) (v := .int mbank) (C := RX12) (T := TX12) (N := 87) hx hb hT inF_X12 hown hK.1 hP 0 rfl rfl 43 (by decide) (hT _ bw_825) (fun _ h9 => h9) rfl dX12_may_29 ?_
      have h_13 : vp_in mbank 2 := vp_in_iff.mpr (by omega)
      refine va_iald hx hb hK.1 hP 1 1 rfl rfl (i := mbank) h_13 dX12_may_32 ?_
      refine lv_topi (fun x_14 ex_14 => ?_)
      have fx_14 : 0 ≤ x_14.toInt ∧ x_14.toInt ≤ 8 := Rg.rd hh7 h_13 ex_14
      have ux_14 := congrArg Int32.toInt ex_14
      refine lv_icmp_ge (tgt := 60) hx hb dX12_may_33 (by decide) (fun c_15 => ?_) (fun c_15 => ?_)
      · have f_16 := E_le (rfl : x_14.toInt = _) (rfl : L_9.toInt = _) c_15
        refine lv_iload_n hx hb dX12_may_60 rfl (lv_at hl 1 rfl) ?_
        have hP9 : va_P g.1 vwCl [] H := hP.sub [] rfl
        have hD9 : va_D A [] := ⟨fun i j p q h => by simp at h, fun k q h => by simp at h⟩
        exact W.iret (v := L_10) hx hb hr (fun t ht hW => ⟨⟨L_10, (), rfl, trivial, by rw [ht]; exact hP9, by rw [hAe]; exact hD9⟩, hS.F ht⟩) hS.2.2 dX12_may_61
      · have f_17 := E_nle (rfl : x_14.toInt = _) (rfl : L_9.toInt = _) c_15
        refine lv_aload_n hx hb dX12_may_36 rfl (lv_at hl 2 rfl) ?_
        refine lv_iload_n hx hb dX12_may_37 rfl (lv_at hl 3 rfl) ?_
        refine lv_iload_n hx hb dX12_may_38 rfl (lv_at hl 4 rfl) ?_
        refine lv_iload hx hb dX12_may_39 (lv_at hl 0 rfl) ?_
        refine k_iR (k_V (n := 3) ⟨hx, hb, hml, hown, hT⟩ hK hP hD [0, 2, 3, 4, 5, 6] rfl (by decide +kernel) (s_X12_mayToday l g H.size h mtape mtext mtaped msize mfaultKind mfaultPlace mat mend mtoken mnumber mname mmen mkinds mreasons mtold munits mhonour mdraw mdies mcoin msonOf mkindOf mowner Fmowner mfirst Fmfirst mlast Fmlast mrent msort Fmsort mduelOne mduelOther mduelOn mruleFrom mruleTo mhasHonour mhasDraw mmName mkName mrName mdName mcode mcodeNumber meWhat meSign mpile mbank mrb mcodes mwithin mpiled munitsInRule maskDay maskUses maskSpent mall Fmall mwas macts mundone musedBy0 musedBy1 mmornings mcameFrom mcameBy mlevelAt mwins mslots mlevelOf mworthOf mstates mlevels mside0 mside1 mdeathDay maway mhires mhirer mslotFound misSpent mfound mlaid mlaidRow mgReason mgDay mgTold mgUntold msights mtime mboxAll misBoxed p0 p1 L_9 (by first | with_reducible assumption | omega) (by first | with_reducible assumption | omega) (by first | with_reducible assumption | omega) (by first | with_reducible assumption | omega) (by first | with_reducible assumption | omega) hh13 (by first | with_reducible assumption | omega) (by first | with_reducible assumption | omega) (by first | with_reducible assumption | omega) (by first | with_reducible assumption | omega) (by first | with_reducible assumption | omega) hh23 (by first | with_reducible assumption | omega) (by first | with_reducible assumption | omega) (by first | with_reducible assumption | omega) (by first | with_reducible assumption | omega) (by first | with_reducible assumption | omega) (by first | with_reducible assumption | omega) (by first | with_reducible assumption | omega) (by first | with_reducible assumption | omega) (by first | with_reducible assumption | omega) (by first | with_reducible assumption | omega) (by first | with_reducible assumption | omega) (by first | with_reducible assumption | omega) (by first | with_reducible assumption | omega)) (gV bw_931 bw_932 bw_933 bw_840 bw_909) rfl rfl (by decide +kernel) ⟨by decide, by decide⟩ (ci := 12) (q0 := 0) rfl rfl (fun _ _ _ _ _ => trivial) (fun _ _ _ => trivial) rfl rfl hl.1 (Nat.le_of_ble_eq_true rfl) dX12_may_41 ⟨by decide, by decide⟩) hP hS hA (fun r_18 _ H locs hw0 hP hS => ?_)
        have hw : (r_18 = 1 ∧ (0 ≤ p0.toInt ∧ p0.toInt ≤ 7)) ∨ (r_18 = 0) := hw0
        clear hw0
        rcases hw with ⟨e_20, w_19⟩ | e_21
        · subst e_20
          refine lv_if_eq (tgt := 54) hx hb dX12_may_44 (by decide) (fun c9 => absurd c9 (by decide)) (fun _ => ?_)
          refine lv_iload_n hx hb dX12_may_47 rfl (lv_at hl 1 rfl) ?_
          refine lv_iconst (v := 1) hx hb dX12_may_48 (by decide) ?_
          refine lv_iload hx hb dX12_may_49 (lv_at hl 0 rfl) ?_
          refine lv_ishl hx hb dX12_may_51 ?_
          refine lv_topi (fun x_22 ex_22 => ?_)
          have fx_22 : 1 ≤ x_22.toInt ∧ x_22.toInt ≤ 128 := by rw [ex_22]; exact I_shl1 7 128 (by decide) rfl (by omega) (by omega) (by decide)
          refine lv_ior hx hb dX12_may_52 ?_
          refine lv_topi (fun x_23 ex_23 => ?_)
          refine lv_istore_n (lv' := [(3, .int x_23), (4, .int L_9), (0, .ref h), (1, .int p0), (2, .int p1)]) hx hb dX12_may_53 rfl hl (by decide) rfl (fun ls hl => ?_)
          obtain ⟨x_24, ex_24⟩ : ∃ y : Int32, y = L_9 + 1 := ⟨_, rfl⟩
          have fx_24 : x_24.toInt = L_9.toInt + 1 := by rw [ex_24]; exact I_add rfl (by decide) (by omega) (by omega)
          refine lv_iinc (v := x_24) (lv' := [(4, .int x_24), (3, .int x_23), (0, .ref h), (1, .int p0), (2, .int p1)]) hx hb dX12_may_54 hl (k := 1) rfl (by rw [ex_24]; rfl) (by decide) rfl (fun ls hl => ?_)
          refine lv_goto (tgt := 22) hx hb dX12_may_57 (by decide) ?_
          exact ih (n - 1) (by omega) H locs ls ⟨x_24, x_23, (by first | with_reducible assumption | omega), by omega, hP.sub [0, 1, 2, 3, 4, 5, 6] rfl, hS, lv_sub hl [0, 1, 2, 3, 4] rfl⟩
        · subst e_21
          refine lv_if_eq (tgt := 54) hx hb dX12_may_44 (by decide) (fun _ => ?_) (fun c9 => absurd (by decide) c9)
          obtain ⟨x_25, ex_25⟩ : ∃ y : Int32, y = L_9 + 1 := ⟨_, rfl⟩
          have fx_25 : x_25.toInt = L_9.toInt + 1 := by rw [ex_25]; exact I_add rfl (by decide) (by omega) (by omega)
          refine lv_iinc (v := x_25) (lv' := [(4, .int x_25), (3, .int L_10), (0, .ref h), (1, .int p0), (2, .int p1)]) hx hb dX12_may_54 hl (k := 0) rfl (by rw [ex_25]; rfl) (by decide) rfl (fun ls hl => ?_)
          refine lv_goto (tgt := 22) hx hb dX12_may_57 (by decide) ?_
          exact ih (n - 1) (by omega) H locs ls ⟨x_25, L_10, (by first | with_reducible assumption | omega), by omega, hP.sub [0, 1, 2, 3, 4, 5, 6] rfl, hS, lv_sub hl [0, 1, 2, 3, 4] rfl⟩
    · subst e_8
      refine lv_if_ne (tgt := 17) hx hb dX12_may_12 (by decide) (fun c9 => absurd (by decide) c9) (fun _ => ?_)
      refine lv_iconst (v := (-1)) hx hb dX12_may_15 (by decide) ?_
      have hP9 : va_P g.1 vwCl [] H := hP.sub [] rfl
      have hD9 : va_D A [] := ⟨fun i j p q h => by simp at h, fun k q h => by simp at h⟩
      exact W.iret (v := (-1)) hx hb hr (fun t ht hW => ⟨⟨(-1), (), rfl, trivial, by rw [ht]; exact hP9, by rw [hAe]; exact hD9⟩, hS.F ht⟩) hS.2.2 dX12_may_16
  · subst e_4
    refine lv_if_eq (tgt := 15) hx hb dX12_may_5 (by decide) (fun _ => ?_) (fun c9 => absurd (by decide) c9)
    refine lv_iconst (v := (-1)) hx hb dX12_may_15 (by decide) ?_
    have hP9 : va_P g.1 vwCl [] H := hP.sub [] rfl
    have hD9 : va_D A [] := ⟨fun i j p q h => by simp at h, fun k q h => by simp at h⟩
    exact W.iret (v := (-1)) hx hb hr (fun t ht hW => ⟨⟨(-1), (), rfl, trivial, by rw [ht]; exact hP9, by rw [hAe]; exact hD9⟩, hS.F ht⟩) hS.2.2 dX12_may_16

theorem bw_935 : Cond.code yX12_heirOf cX12_heirOf 3 (some .int) ∈ gT := gT_tb 1885 (by decide +kernel) (by decide +kernel)
theorem dX12_heirOf_0 : decode cX12_heirOf 0 = .ok (.iconst 0, 1) := by decide +kernel
theorem dX12_heirOf_1 : decode cX12_heirOf 1 = .ok (.istore_n 2, 1) := by decide +kernel
theorem dX12_heirOf_2 : decode cX12_heirOf 2 = .ok (.iload_n 2, 1) := by decide +kernel
theorem dX12_heirOf_3 : decode cX12_heirOf 3 = .ok (.aload_n 0, 1) := by decide +kernel
theorem dX12_heirOf_4 : decode cX12_heirOf 4 = .ok (.getfield 20, 3) := by decide +kernel
theorem dX12_heirOf_7 : decode cX12_heirOf 7 = .ok (.aload_n 0, 1) := by decide +kernel
theorem dX12_heirOf_8 : decode cX12_heirOf 8 = .ok (.getfield 308, 3) := by decide +kernel
theorem dX12_heirOf_11 : decode cX12_heirOf 11 = .ok (.iaload, 1) := by decide +kernel
theorem dX12_heirOf_12 : decode cX12_heirOf 12 = .ok (.if_icmp .ge 37, 3) := by decide +kernel
theorem dX12_heirOf_15 : decode cX12_heirOf 15 = .ok (.aload_n 0, 1) := by decide +kernel
theorem dX12_heirOf_16 : decode cX12_heirOf 16 = .ok (.iload_n 2, 1) := by decide +kernel
theorem dX12_heirOf_17 : decode cX12_heirOf 17 = .ok (.invokevirtual 440, 3) := by decide +kernel
theorem dX12_heirOf_20 : decode cX12_heirOf 20 = .ok (.ifCond .eq 23, 3) := by decide +kernel
theorem dX12_heirOf_23 : decode cX12_heirOf 23 = .ok (.aload_n 0, 1) := by decide +kernel
theorem dX12_heirOf_24 : decode cX12_heirOf 24 = .ok (.getfield 48, 3) := by decide +kernel
theorem dX12_heirOf_27 : decode cX12_heirOf 27 = .ok (.bipush 6, 2) := by decide +kernel
theorem dX12_heirOf_29 : decode cX12_heirOf 29 = .ok (.aload_n 0, 1) := by decide +kernel
theorem dX12_heirOf_30 : decode cX12_heirOf 30 = .ok (.getfield 308, 3) := by decide +kernel
theorem dX12_heirOf_33 : decode cX12_heirOf 33 = .ok (.imul, 1) := by decide +kernel
theorem dX12_heirOf_34 : decode cX12_heirOf 34 = .ok (.iload_n 2, 1) := by decide +kernel
theorem dX12_heirOf_35 : decode cX12_heirOf 35 = .ok (.iadd, 1) := by decide +kernel
theorem dX12_heirOf_36 : decode cX12_heirOf 36 = .ok (.iaload, 1) := by decide +kernel
theorem dX12_heirOf_37 : decode cX12_heirOf 37 = .ok (.iload_n 1, 1) := by decide +kernel
theorem dX12_heirOf_38 : decode cX12_heirOf 38 = .ok (.if_icmp .ne 5, 3) := by decide +kernel
theorem dX12_heirOf_41 : decode cX12_heirOf 41 = .ok (.iload_n 2, 1) := by decide +kernel
theorem dX12_heirOf_42 : decode cX12_heirOf 42 = .ok (.ireturn, 1) := by decide +kernel
theorem dX12_heirOf_43 : decode cX12_heirOf 43 = .ok (.iinc 2 1, 3) := by decide +kernel
theorem dX12_heirOf_46 : decode cX12_heirOf 46 = .ok (.goto (-44), 3) := by decide +kernel
theorem dX12_heirOf_49 : decode cX12_heirOf 49 = .ok (.iconst (-1), 1) := by decide +kernel
theorem dX12_heirOf_50 : decode cX12_heirOf 50 = .ok (.ireturn, 1) := by decide +kernel
set_option maxHeartbeats 40000000 in
set_option maxRecDepth 100000 in
theorem s_X12_heirOf (l : Launch) (g : GG) (sz : Nat) (h : Nat) (mtape : Nat) (mtext : Nat) (mtaped : Int32) (msize : Int32) (mfaultKind : Int32) (mfaultPlace : Int32) (mat : Int32) (mend : Int32) (mtoken : Int32) (mnumber : Int32) (mname : Int64) (mmen : Nat) (Fmmen : Nat → Int32) (mkinds : Nat) (mreasons : Nat) (mtold : Nat) (munits : Nat) (mhonour : Nat) (mdraw : Nat) (mdies : Nat) (mcoin : Nat) (msonOf : Nat) (FmsonOf : Nat → Int32) (mkindOf : Nat) (mowner : Nat) (mfirst : Nat) (mlast : Nat) (mrent : Nat) (msort : Nat) (mduelOne : Nat) (mduelOther : Nat) (mduelOn : Nat) (mruleFrom : Nat) (mruleTo : Nat) (mhasHonour : Nat) (mhasDraw : Nat) (mmName : Nat) (mkName : Nat) (mrName : Nat) (mdName : Nat) (mcode : Nat) (mcodeNumber : Nat) (meWhat : Nat) (meSign : Nat) (mpile : Nat) (mbank : Int32) (mrb : Int32) (mcodes : Int32) (mwithin : Int32) (mpiled : Int32) (munitsInRule : Int32) (maskDay : Int32) (maskUses : Int32) (maskSpent : Int32) (mall : Nat) (Fmall : Nat → Int32) (mwas : Nat) (macts : Int32) (mundone : Int32) (musedBy0 : Nat) (musedBy1 : Nat) (mmornings : Nat) (mcameFrom : Nat) (mcameBy : Nat) (mlevelAt : Nat) (mwins : Nat) (mslots : Nat) (mlevelOf : Nat) (mworthOf : Nat) (mstates : Int32) (mlevels : Int32) (mside0 : Int32) (mside1 : Int32) (mdeathDay : Int32) (maway : Int32) (mhires : Int32) (mhirer : Int32) (mslotFound : Int32) (misSpent : Int32) (mfound : Int32) (mlaid : Int32) (mlaidRow : Nat) (mgReason : Nat) (mgDay : Nat) (mgTold : Nat) (mgUntold : Nat) (msights : Int32) (mtime : Int32) (mboxAll : Nat) (misBoxed : Nat) (p0 : Int32) (hh0 : 0 ≤ mtaped.toInt ∧ mtaped.toInt ≤ 1600) (hh1 : 0 ≤ msize.toInt ∧ msize.toInt ≤ 1600) (hh2 : 0 ≤ mat.toInt ∧ mat.toInt ≤ 1600) (hh3 : 0 ≤ mend.toInt ∧ mend.toInt ≤ 1600) (hh4 : 0 ≤ mtoken.toInt ∧ mtoken.toInt ≤ 5) (hh5 : Rg 2 0 6 Fmmen) (hh11 : Rg 12 (-1) 5 FmsonOf) (hh18 : 0 ≤ mbank.toInt ∧ mbank.toInt ≤ 1) (hh19 : 0 ≤ mrb.toInt ∧ mrb.toInt ≤ 1) (hh20 : 0 ≤ mcodes.toInt ∧ mcodes.toInt ≤ 1120) (hh21 : 0 ≤ mpiled.toInt ∧ mpiled.toInt ≤ 90) (hh22 : 0 ≤ munitsInRule.toInt ∧ munitsInRule.toInt ≤ 30) (hh23 : Ia Fmall) (hh25 : 0 ≤ macts.toInt ∧ macts.toInt ≤ 40) (hh26 : 0 ≤ mundone.toInt ∧ mundone.toInt ≤ 40) (hh34 : 0 ≤ mstates.toInt ∧ mstates.toInt ≤ 3000) (hh35 : 0 ≤ mlevels.toInt ∧ mlevels.toInt ≤ 18) (hh36 : 0 ≤ mside0.toInt ∧ mside0.toInt ≤ 5) (hh37 : 0 ≤ mside1.toInt ∧ mside1.toInt ≤ 5) (hh38 : 0 ≤ mslotFound.toInt ∧ mslotFound.toInt ≤ 8191) (hh39 : 0 ≤ misSpent.toInt ∧ misSpent.toInt ≤ 1) (hh40 : 0 ≤ mlaid.toInt ∧ mlaid.toInt ≤ 16) (hh41 : 0 ≤ msights.toInt ∧ msights.toInt ≤ 30) (hh42 : 0 ≤ mtime.toInt ∧ mtime.toInt ≤ 100000) : Met l yX12_heirOf (.code yX12_heirOf cX12_heirOf 3 (some .int) :: gT) ({ frames := 1, cells := 0, slots := 0, locals := 21 }) (va_Pc [.ref h, .int p0] (Pst g sz [(h, .inr (12, [.ref mtape, .ref mtext, .int mtaped, .int msize, .int mfaultKind, .int mfaultPlace, .int mat, .int mend, .int mtoken, .int mnumber, .long mname, .ref mmen, .ref mkinds, .ref mreasons, .ref mtold, .ref munits, .ref mhonour, .ref mdraw, .ref mdies, .ref mcoin, .ref msonOf, .ref mkindOf, .ref mowner, .ref mfirst, .ref mlast, .ref mrent, .ref msort, .ref mduelOne, .ref mduelOther, .ref mduelOn, .ref mruleFrom, .ref mruleTo, .ref mhasHonour, .ref mhasDraw, .ref mmName, .ref mkName, .ref mrName, .ref mdName, .ref mcode, .ref mcodeNumber, .ref meWhat, .ref meSign, .ref mpile, .int mbank, .int mrb, .int mcodes, .int mwithin, .int mpiled, .int munitsInRule, .int maskDay, .int maskUses, .int maskSpent, .ref mall, .ref mwas, .int macts, .int mundone, .ref musedBy0, .ref musedBy1, .ref mmornings, .ref mcameFrom, .ref mcameBy, .ref mlevelAt, .ref mwins, .ref mslots, .ref mlevelOf, .ref mworthOf, .int mstates, .int mlevels, .int mside0, .int mside1, .int mdeathDay, .int maway, .int mhires, .int mhirer, .int mslotFound, .int misSpent, .int mfound, .int mlaid, .ref mlaidRow, .ref mgReason, .ref mgDay, .ref mgTold, .ref mgUntold, .int msights, .int mtime, .ref mboxAll, .ref misBoxed])), (mmen, aI g 2 Fmmen), (msonOf, aI g 12 FmsonOf), (mall, aI g 374 Fmall)] nX)) (va_Qi (fun (r : Int32) => fun (_ : Unit) => (-1) ≤ r.toInt ∧ r.toInt ≤ 5) (Qst g [] sz (fun _ => [])) (va_A [] sz)) 0 0 (va_A [] sz) := by
  refine Met.ofW (cc := cX12_heirOf) (maxL := 3) (ret := (some .int)) (by decide) rfl ?_
  intro p e s m args below meth c s₁ B hml hv
  obtain ⟨rfl, hsz, hP, hK, hD0, hX⟩ := hv
  have hx := B.exec
  have hb := B.bytes
  have hr := B.returns
  have hT : ∀ w ∈ gT, w.before _ s = true := fun w h => atoms_spec (ws := .code yX12_heirOf cX12_heirOf 3 (some .int) :: gT) B.pre w (List.mem_cons_of_mem _ h)
  have hown : s.vm.findClass RX12 = some m.cls := findClass_of_methodNamed B.named
  have hlocks := B.notSynchronized
  subst hsz
  have hD := hD0
  generalize hAe : va_A [] s.heap.size = A at ⊢
  have hA : ∀ q : Nat, s.heap.size ≤ q → A q := fun q h => by rw [← hAe]; exact Or.inr h
  have hS : va_S A s.heap s.heap [] := va_S.rf
  have hl := lv_entry ([.ref h, .int p0]) (n := 3) (Nat.le_of_ble_eq_true rfl)
  rw [lg_entry_eq]
  generalize (lg_sl ([.ref h, .int p0]) ++ List.replicate (3 - (lg_sl ([.ref h, .int p0])).length) Slot.unset).toArray = ls at hl ⊢
  have hl : lv_has ls 3 [(0, .ref h), (1, .int p0)] := hl
  refine p_nH (fun H hH => ?_)
  have hP : va_P g.1 vwCl [(h, .inr (12, [.ref mtape, .ref mtext, .int mtaped, .int msize, .int mfaultKind, .int mfaultPlace, .int mat, .int mend, .int mtoken, .int mnumber, .long mname, .ref mmen, .ref mkinds, .ref mreasons, .ref mtold, .ref munits, .ref mhonour, .ref mdraw, .ref mdies, .ref mcoin, .ref msonOf, .ref mkindOf, .ref mowner, .ref mfirst, .ref mlast, .ref mrent, .ref msort, .ref mduelOne, .ref mduelOther, .ref mduelOn, .ref mruleFrom, .ref mruleTo, .ref mhasHonour, .ref mhasDraw, .ref mmName, .ref mkName, .ref mrName, .ref mdName, .ref mcode, .ref mcodeNumber, .ref meWhat, .ref meSign, .ref mpile, .int mbank, .int mrb, .int mcodes, .int mwithin, .int mpiled, .int munitsInRule, .int maskDay, .int maskUses, .int maskSpent, .ref mall, .ref mwas, .int macts, .int mundone, .ref musedBy0, .ref musedBy1, .ref mmornings, .ref mcameFrom, .ref mcameBy, .ref mlevelAt, .ref mwins, .ref mslots, .ref mlevelOf, .ref mworthOf, .int mstates, .int mlevels, .int mside0, .int mside1, .int mdeathDay, .int maway, .int mhires, .int mhirer, .int mslotFound, .int misSpent, .int mfound, .int mlaid, .ref mlaidRow, .ref mgReason, .ref mgDay, .ref mgTold, .ref mgUntold, .int msights, .int mtime, .ref mboxAll, .ref misBoxed])), (mmen, aI g 2 Fmmen), (msonOf, aI g 12 FmsonOf), (mall, aI g 374 Fmall)] H := by rw [hH]; exact hP
  have hS : va_S A s.heap H [] := by rw [hH]; exact hS
  refine lv_iconst (v := 0) hx hb dX12_heirOf_0 (by decide) ?_
  refine lv_istore_n (lv' := [(2, .int 0), (0, .ref h), (1, .int p0)]) hx hb dX12_heirOf_1 rfl hl (by decide) rfl (fun ls hl => ?_)
  refine k_floop 2 (fun n H locs ls => ∃ (L_1 : Int32), (0 ≤ L_1.toInt ∧ L_1.toInt ≤ 6) ∧ 6 - L_1.toInt ≤ (n : Int) ∧ va_P g.1 vwCl [(h, .inr (12, [.ref mtape, .ref mtext, .int mtaped, .int msize, .int mfaultKind, .int mfaultPlace, .int mat, .int mend, .int mtoken, .int mnumber, .long mname, .ref mmen, .ref mkinds, .ref mreasons, .ref mtold, .ref munits, .ref mhonour, .ref mdraw, .ref mdies, .ref mcoin, .ref msonOf, .ref mkindOf, .ref mowner, .ref mfirst, .ref mlast, .ref mrent, .ref msort, .ref mduelOne, .ref mduelOther, .ref mduelOn, .ref mruleFrom, .ref mruleTo, .ref mhasHonour, .ref mhasDraw, .ref mmName, .ref mkName, .ref mrName, .ref mdName, .ref mcode, .ref mcodeNumber, .ref meWhat, .ref meSign, .ref mpile, .int mbank, .int mrb, .int mcodes, .int mwithin, .int mpiled, .int munitsInRule, .int maskDay, .int maskUses, .int maskSpent, .ref mall, .ref mwas, .int macts, .int mundone, .ref musedBy0, .ref musedBy1, .ref mmornings, .ref mcameFrom, .ref mcameBy, .ref mlevelAt, .ref mwins, .ref mslots, .ref mlevelOf, .ref mworthOf, .int mstates, .int mlevels, .int mside0, .int mside1, .int mdeathDay, .int maway, .int mhires, .int mhirer, .int mslotFound, .int misSpent, .int mfound, .int mlaid, .ref mlaidRow, .ref mgReason, .ref mgDay, .ref mgTold, .ref mgUntold, .int msights, .int mtime, .ref mboxAll, .ref misBoxed])), (mmen, aI g 2 Fmmen), (msonOf, aI g 12 FmsonOf), (mall, aI g 374 Fmall)] H ∧ va_S A s.heap H locs ∧ lv_has ls 3 [(2, .int L_1), (0, .ref h), (1, .int p0)]) (fun n H locs ls hI ih => ?_) ((6 - 0 : Int)).toNat ⟨0, by decide, by have k0 : (0 : Int32).toInt = 0 := (by decide); omega, hP, hS, hl⟩
  refine hI.elim (fun L_1 hI => ?_)
  have g_2 := hI.1
  have hm_3 := hI.2.1
  have hP := hI.2.2.1
  have hS := hI.2.2.2.1
  have hl := hI.2.2.2.2
  clear hI
  refine lv_iload_n hx hb dX12_heirOf_2 rfl (lv_at hl 0 rfl) ?_
  refine lv_aload_n hx hb dX12_heirOf_3 rfl (lv_at hl 1 rfl) ?_
  refine va_get (D := g.1) (ci := 12) (v := .ref mmen) (C := RX12) (T := TX12) (N := 87) hx hb hT inF_X12 hown hK.1 hP 0 rfl rfl 11 (by decide) (hT _ bw_824) (fun _ h9 => h9) rfl dX12_heirOf_4 ?_
  refine lv_aload_n hx hb dX12_heirOf_7 rfl (lv_at hl 1 rfl) ?_
  refine va_get (D := g.1) (ci := 12) (v := .int mbank) (C := RX12) (T := TX12) (N := 87) hx hb hT inF_X12 hown hK.1 hP 0 rfl rfl 43 (by decide) (hT _ bw_825) (fun _ h9 => h9) rfl dX12_heirOf_8 ?_
  have h_4 : vp_in mbank 2 := vp_in_iff.mpr (by omega)
  refine va_iald hx hb hK.1 hP 1 1 rfl rfl (i := mbank) h_4 dX12_heirOf_11 ?_
  refine lv_topi (fun x_5 ex_5 => ?_)
  have fx_5 : 0 ≤ x_5.toInt ∧ x_5.toInt ≤ 6 := Rg.rd hh5 h_4 ex_5
  have ux_5 := congrArg Int32.toInt ex_5
  refine lv_icmp_ge (tgt := 49) hx hb dX12_heirOf_12 (by decide) (fun c_6 => ?_) (fun c_6 => ?_)
  · have f_7 := E_le (rfl : x_5.toInt = _) (rfl : L_1.toInt = _) c_6
    refine lv_iconst (v := (-1)) hx hb dX12_heirOf_49 (by decide) ?_
    have hP9 : va_P g.1 vwCl [] H := hP.sub [] rfl
    have hD9 : va_D A [] := ⟨fun i j p q h => by simp at h, fun k q h => by simp at h⟩
    exact W.iret (v := (-1)) hx hb hr (fun t ht hW => ⟨⟨(-1), (), rfl, ⟨by decide, by decide⟩, by rw [ht]; exact hP9, by rw [hAe]; exact hD9⟩, hS.F ht⟩) hS.2.2 dX12_heirOf_50
  · have f_8 := E_nle (rfl : x_5.toInt = _) (rfl : L_1.toInt = _) c_6
    refine lv_aload_n hx hb dX12_heirOf_15 rfl (lv_at hl 1 rfl) ?_
    refine lv_iload_n hx hb dX12_heirOf_16 rfl (lv_at hl 0 rfl) ?_
    refine k_iR (k_V (n := 1) ⟨hx, hb, hml, hown, hT⟩ hK hP hD [0, 3] rfl (by decide +kernel) (s_X12_isAlive l g H.size h mtape mtext mtaped msize mfaultKind mfaultPlace mat mend mtoken mnumber mname mmen mkinds mreasons mtold munits mhonour mdraw mdies mcoin msonOf mkindOf mowner mfirst mlast mrent msort mduelOne mduelOther mduelOn mruleFrom mruleTo mhasHonour mhasDraw mmName mkName mrName mdName mcode mcodeNumber meWhat meSign mpile mbank mrb mcodes mwithin mpiled munitsInRule maskDay maskUses maskSpent mall Fmall mwas macts mundone musedBy0 musedBy1 mmornings mcameFrom mcameBy mlevelAt mwins mslots mlevelOf mworthOf mstates mlevels mside0 mside1 mdeathDay maway mhires mhirer mslotFound misSpent mfound mlaid mlaidRow mgReason mgDay mgTold mgUntold msights mtime mboxAll misBoxed L_1 (by first | with_reducible assumption | omega) (by first | with_reducible assumption | omega) (by first | with_reducible assumption | omega) (by first | with_reducible assumption | omega) (by first | with_reducible assumption | omega) (by first | with_reducible assumption | omega) (by first | with_reducible assumption | omega) (by first | with_reducible assumption | omega) (by first | with_reducible assumption | omega) (by first | with_reducible assumption | omega) hh23 (by first | with_reducible assumption | omega) (by first | with_reducible assumption | omega) (by first | with_reducible assumption | omega) (by first | with_reducible assumption | omega) (by first | with_reducible assumption | omega) (by first | with_reducible assumption | omega) (by first | with_reducible assumption | omega) (by first | with_reducible assumption | omega) (by first | with_reducible assumption | omega) (by first | with_reducible assumption | omega) (by first | with_reducible assumption | omega)) (gV bw_906 bw_907 bw_908 bw_840 bw_834) rfl rfl (by decide +kernel) ⟨by decide, by decide⟩ (ci := 12) (q0 := 0) rfl rfl (fun _ _ _ _ _ => trivial) (fun _ _ _ => trivial) rfl rfl hl.1 (Nat.le_of_ble_eq_true rfl) dX12_heirOf_17 ⟨by decide, by decide⟩) hP hS hA (fun r_9 _ H locs hw0 hP hS => ?_)
    have hw : 0 ≤ r_9.toInt ∧ r_9.toInt ≤ 1 := hw0
    clear hw0
    have w_10 := hw
    refine lv_if_eq (tgt := 43) hx hb dX12_heirOf_20 (by decide) (fun c_11 => ?_) (fun c_11 => ?_)
    · have f_12 := E_eq (rfl : r_9.toInt = _) (by decide : (0 : Int32).toInt = 0) c_11
      obtain ⟨x_13, ex_13⟩ : ∃ y : Int32, y = L_1 + 1 := ⟨_, rfl⟩
      have fx_13 : x_13.toInt = L_1.toInt + 1 := by rw [ex_13]; exact I_add rfl (by decide) (by omega) (by omega)
      refine lv_iinc (v := x_13) (lv' := [(2, .int x_13), (0, .ref h), (1, .int p0)]) hx hb dX12_heirOf_43 hl (k := 0) rfl (by rw [ex_13]; rfl) (by decide) rfl (fun ls hl => ?_)
      refine lv_goto (tgt := 2) hx hb dX12_heirOf_46 (by decide) ?_
      exact ih (n - 1) (by omega) H locs ls ⟨x_13, (by first | with_reducible assumption | omega), by omega, hP.sub [0, 1, 2, 3] rfl, hS, lv_sub hl [0, 1, 2] rfl⟩
    · have f_14 := E_ne (rfl : r_9.toInt = _) (by decide : (0 : Int32).toInt = 0) c_11
      refine lv_aload_n hx hb dX12_heirOf_23 rfl (lv_at hl 1 rfl) ?_
      refine va_get (D := g.1) (ci := 12) (v := .ref msonOf) (C := RX12) (T := TX12) (N := 87) hx hb hT inF_X12 hown hK.1 hP 0 rfl rfl 20 (by decide) (hT _ bw_913) (fun _ h9 => h9) rfl dX12_heirOf_24 ?_
      refine lv_bipush (v := 6) hx hb dX12_heirOf_27 (by decide) ?_
      refine lv_aload_n hx hb dX12_heirOf_29 rfl (lv_at hl 1 rfl) ?_
      refine va_get (D := g.1) (ci := 12) (v := .int mbank) (C := RX12) (T := TX12) (N := 87) hx hb hT inF_X12 hown hK.1 hP 0 rfl rfl 43 (by decide) (hT _ bw_825) (fun _ h9 => h9) rfl dX12_heirOf_30 ?_
      refine lv_imul hx hb dX12_heirOf_33 ?_
      refine lv_topi (fun x_15 ex_15 => ?_)
      have fx_15 : x_15.toInt = 6 * mbank.toInt := by rw [ex_15]; exact I_mul (by decide : (6 : Int32).toInt = 6) rfl (by omega) (by omega)
      refine lv_iload_n hx hb dX12_heirOf_34 rfl (lv_at hl 0 rfl) ?_
      refine lv_iadd hx hb dX12_heirOf_35 ?_
      refine lv_topi (fun x_16 ex_16 => ?_)
      have fx_16 : x_16.toInt = x_15.toInt + L_1.toInt := by rw [ex_16]; exact I_add rfl rfl (by omega) (by omega)
      have h_17 : vp_in x_16 12 := vp_in_iff.mpr (by omega)
      refine va_iald hx hb hK.1 hP 2 1 rfl rfl (i := x_16) h_17 dX12_heirOf_36 ?_
      refine lv_topi (fun x_18 ex_18 => ?_)
      have fx_18 : (-1) ≤ x_18.toInt ∧ x_18.toInt ≤ 5 := Rg.rd hh11 h_17 ex_18
      have ux_18 := congrArg Int32.toInt ex_18
      refine lv_iload_n hx hb dX12_heirOf_37 rfl (lv_at hl 2 rfl) ?_
      refine lv_icmp_ne (tgt := 43) hx hb dX12_heirOf_38 (by decide) (fun c_19 => ?_) (fun c_19 => ?_)
      · have f_20 := E_ne (rfl : x_18.toInt = _) (rfl : p0.toInt = _) c_19
        obtain ⟨x_21, ex_21⟩ : ∃ y : Int32, y = L_1 + 1 := ⟨_, rfl⟩
        have fx_21 : x_21.toInt = L_1.toInt + 1 := by rw [ex_21]; exact I_add rfl (by decide) (by omega) (by omega)
        refine lv_iinc (v := x_21) (lv' := [(2, .int x_21), (0, .ref h), (1, .int p0)]) hx hb dX12_heirOf_43 hl (k := 0) rfl (by rw [ex_21]; rfl) (by decide) rfl (fun ls hl => ?_)
        refine lv_goto (tgt := 2) hx hb dX12_heirOf_46 (by decide) ?_
        exact ih (n - 1) (by omega) H locs ls ⟨x_21, (by first | with_reducible assumption | omega), by omega, hP.sub [0, 1, 2, 3] rfl, hS, lv_sub hl [0, 1, 2] rfl⟩
      · have f_22 := E_eq (rfl : x_18.toInt = _) (rfl : p0.toInt = _) c_19
        refine lv_iload_n hx hb dX12_heirOf_41 rfl (lv_at hl 0 rfl) ?_
        have hP9 : va_P g.1 vwCl [] H := hP.sub [] rfl
        have hD9 : va_D A [] := ⟨fun i j p q h => by simp at h, fun k q h => by simp at h⟩
        exact W.iret (v := L_1) hx hb hr (fun t ht hW => ⟨⟨L_1, (), rfl, (by first | with_reducible assumption | omega), by rw [ht]; exact hP9, by rw [hAe]; exact hD9⟩, hS.F ht⟩) hS.2.2 dX12_heirOf_42

theorem bw_936 : Cond.methodLink RX12 500 yX12_heirOf ∈ gT := gT_tb 1882 (by decide +kernel) (by decide +kernel)
theorem bw_937 : Cond.instanceMethod yX12_heirOf ∈ gT := gT_tb 1884 (by decide +kernel) (by decide +kernel)
theorem bw_938 : Cond.selects RX12 yX12_heirOf yX12_heirOf ∈ gT := gT_sl 107 (by decide +kernel) (by decide +kernel)
theorem bw_939 : Cond.code yX12_heir cX12_heir 2 (some .int) ∈ gT := gT_tb 2010 (by decide +kernel) (by decide +kernel)
theorem dX12_heir_0 : decode cX12_heir 0 = .ok (.aload_n 0, 1) := by decide +kernel
theorem dX12_heir_1 : decode cX12_heir 1 = .ok (.iload_n 1, 1) := by decide +kernel
theorem dX12_heir_2 : decode cX12_heir 2 = .ok (.invokevirtual 437, 3) := by decide +kernel
theorem dX12_heir_5 : decode cX12_heir 5 = .ok (.ifCond .eq 11, 3) := by decide +kernel
theorem dX12_heir_8 : decode cX12_heir 8 = .ok (.aload_n 0, 1) := by decide +kernel
theorem dX12_heir_9 : decode cX12_heir 9 = .ok (.iload_n 1, 1) := by decide +kernel
theorem dX12_heir_10 : decode cX12_heir 10 = .ok (.invokevirtual 500, 3) := by decide +kernel
theorem dX12_heir_13 : decode cX12_heir 13 = .ok (.goto 4, 3) := by decide +kernel
theorem dX12_heir_16 : decode cX12_heir 16 = .ok (.iconst (-1), 1) := by decide +kernel
theorem dX12_heir_17 : decode cX12_heir 17 = .ok (.ireturn, 1) := by decide +kernel
set_option maxHeartbeats 40000000 in
set_option maxRecDepth 100000 in
theorem s_X12_heir (l : Launch) (g : GG) (sz : Nat) (h : Nat) (mtape : Nat) (mtext : Nat) (mtaped : Int32) (msize : Int32) (mfaultKind : Int32) (mfaultPlace : Int32) (mat : Int32) (mend : Int32) (mtoken : Int32) (mnumber : Int32) (mname : Int64) (mmen : Nat) (Fmmen : Nat → Int32) (mkinds : Nat) (mreasons : Nat) (mtold : Nat) (munits : Nat) (mhonour : Nat) (mdraw : Nat) (mdies : Nat) (mcoin : Nat) (msonOf : Nat) (FmsonOf : Nat → Int32) (mkindOf : Nat) (mowner : Nat) (mfirst : Nat) (mlast : Nat) (mrent : Nat) (msort : Nat) (mduelOne : Nat) (mduelOther : Nat) (mduelOn : Nat) (mruleFrom : Nat) (mruleTo : Nat) (mhasHonour : Nat) (mhasDraw : Nat) (mmName : Nat) (mkName : Nat) (mrName : Nat) (mdName : Nat) (mcode : Nat) (mcodeNumber : Nat) (meWhat : Nat) (meSign : Nat) (mpile : Nat) (mbank : Int32) (mrb : Int32) (mcodes : Int32) (mwithin : Int32) (mpiled : Int32) (munitsInRule : Int32) (maskDay : Int32) (maskUses : Int32) (maskSpent : Int32) (mall : Nat) (Fmall : Nat → Int32) (mwas : Nat) (macts : Int32) (mundone : Int32) (musedBy0 : Nat) (musedBy1 : Nat) (mmornings : Nat) (mcameFrom : Nat) (mcameBy : Nat) (mlevelAt : Nat) (mwins : Nat) (mslots : Nat) (mlevelOf : Nat) (mworthOf : Nat) (mstates : Int32) (mlevels : Int32) (mside0 : Int32) (mside1 : Int32) (mdeathDay : Int32) (maway : Int32) (mhires : Int32) (mhirer : Int32) (mslotFound : Int32) (misSpent : Int32) (mfound : Int32) (mlaid : Int32) (mlaidRow : Nat) (mgReason : Nat) (mgDay : Nat) (mgTold : Nat) (mgUntold : Nat) (msights : Int32) (mtime : Int32) (mboxAll : Nat) (misBoxed : Nat) (p0 : Int32) (hh0 : 0 ≤ mtaped.toInt ∧ mtaped.toInt ≤ 1600) (hh1 : 0 ≤ msize.toInt ∧ msize.toInt ≤ 1600) (hh2 : 0 ≤ mat.toInt ∧ mat.toInt ≤ 1600) (hh3 : 0 ≤ mend.toInt ∧ mend.toInt ≤ 1600) (hh4 : 0 ≤ mtoken.toInt ∧ mtoken.toInt ≤ 5) (hh5 : Rg 2 0 6 Fmmen) (hh11 : Rg 12 (-1) 5 FmsonOf) (hh18 : 0 ≤ mbank.toInt ∧ mbank.toInt ≤ 1) (hh19 : 0 ≤ mrb.toInt ∧ mrb.toInt ≤ 1) (hh20 : 0 ≤ mcodes.toInt ∧ mcodes.toInt ≤ 1120) (hh21 : 0 ≤ mpiled.toInt ∧ mpiled.toInt ≤ 90) (hh22 : 0 ≤ munitsInRule.toInt ∧ munitsInRule.toInt ≤ 30) (hh23 : Ia Fmall) (hh25 : 0 ≤ macts.toInt ∧ macts.toInt ≤ 40) (hh26 : 0 ≤ mundone.toInt ∧ mundone.toInt ≤ 40) (hh34 : 0 ≤ mstates.toInt ∧ mstates.toInt ≤ 3000) (hh35 : 0 ≤ mlevels.toInt ∧ mlevels.toInt ≤ 18) (hh36 : 0 ≤ mside0.toInt ∧ mside0.toInt ≤ 5) (hh37 : 0 ≤ mside1.toInt ∧ mside1.toInt ≤ 5) (hh38 : 0 ≤ mslotFound.toInt ∧ mslotFound.toInt ≤ 8191) (hh39 : 0 ≤ misSpent.toInt ∧ misSpent.toInt ≤ 1) (hh40 : 0 ≤ mlaid.toInt ∧ mlaid.toInt ≤ 16) (hh41 : 0 ≤ msights.toInt ∧ msights.toInt ≤ 30) (hh42 : 0 ≤ mtime.toInt ∧ mtime.toInt ≤ 100000) : Met l yX12_heir (.code yX12_heir cX12_heir 2 (some .int) :: gT) ({ frames := 2, cells := 0, slots := 0, locals := 43 }) (va_Pc [.ref h, .int p0] (Pst g sz [(h, .inr (12, [.ref mtape, .ref mtext, .int mtaped, .int msize, .int mfaultKind, .int mfaultPlace, .int mat, .int mend, .int mtoken, .int mnumber, .long mname, .ref mmen, .ref mkinds, .ref mreasons, .ref mtold, .ref munits, .ref mhonour, .ref mdraw, .ref mdies, .ref mcoin, .ref msonOf, .ref mkindOf, .ref mowner, .ref mfirst, .ref mlast, .ref mrent, .ref msort, .ref mduelOne, .ref mduelOther, .ref mduelOn, .ref mruleFrom, .ref mruleTo, .ref mhasHonour, .ref mhasDraw, .ref mmName, .ref mkName, .ref mrName, .ref mdName, .ref mcode, .ref mcodeNumber, .ref meWhat, .ref meSign, .ref mpile, .int mbank, .int mrb, .int mcodes, .int mwithin, .int mpiled, .int munitsInRule, .int maskDay, .int maskUses, .int maskSpent, .ref mall, .ref mwas, .int macts, .int mundone, .ref musedBy0, .ref musedBy1, .ref mmornings, .ref mcameFrom, .ref mcameBy, .ref mlevelAt, .ref mwins, .ref mslots, .ref mlevelOf, .ref mworthOf, .int mstates, .int mlevels, .int mside0, .int mside1, .int mdeathDay, .int maway, .int mhires, .int mhirer, .int mslotFound, .int misSpent, .int mfound, .int mlaid, .ref mlaidRow, .ref mgReason, .ref mgDay, .ref mgTold, .ref mgUntold, .int msights, .int mtime, .ref mboxAll, .ref misBoxed])), (mmen, aI g 2 Fmmen), (msonOf, aI g 12 FmsonOf), (mall, aI g 374 Fmall)] nX)) (va_Qi (fun (r : Int32) => fun (_ : Unit) => (-1) ≤ r.toInt ∧ r.toInt ≤ 5) (Qst g [] sz (fun _ => [])) (va_A [] sz)) 0 0 (va_A [] sz) := by
  refine Met.ofW (cc := cX12_heir) (maxL := 2) (ret := (some .int)) (by decide) rfl ?_
  intro p e s m args below meth c s₁ B hml hv
  obtain ⟨rfl, hsz, hP, hK, hD0, hX⟩ := hv
  have hx := B.exec
  have hb := B.bytes
  have hr := B.returns
  have hT : ∀ w ∈ gT, w.before _ s = true := fun w h => atoms_spec (ws := .code yX12_heir cX12_heir 2 (some .int) :: gT) B.pre w (List.mem_cons_of_mem _ h)
  have hown : s.vm.findClass RX12 = some m.cls := findClass_of_methodNamed B.named
  have hlocks := B.notSynchronized
  subst hsz
  have hD := hD0
  generalize hAe : va_A [] s.heap.size = A at ⊢
  have hA : ∀ q : Nat, s.heap.size ≤ q → A q := fun q h => by rw [← hAe]; exact Or.inr h
  have hS : va_S A s.heap s.heap [] := va_S.rf
  have hl := lv_entry ([.ref h, .int p0]) (n := 2) (Nat.le_of_ble_eq_true rfl)
  rw [lg_entry_eq]
  generalize (lg_sl ([.ref h, .int p0]) ++ List.replicate (2 - (lg_sl ([.ref h, .int p0])).length) Slot.unset).toArray = ls at hl ⊢
  have hl : lv_has ls 2 [(0, .ref h), (1, .int p0)] := hl
  refine p_nH (fun H hH => ?_)
  have hP : va_P g.1 vwCl [(h, .inr (12, [.ref mtape, .ref mtext, .int mtaped, .int msize, .int mfaultKind, .int mfaultPlace, .int mat, .int mend, .int mtoken, .int mnumber, .long mname, .ref mmen, .ref mkinds, .ref mreasons, .ref mtold, .ref munits, .ref mhonour, .ref mdraw, .ref mdies, .ref mcoin, .ref msonOf, .ref mkindOf, .ref mowner, .ref mfirst, .ref mlast, .ref mrent, .ref msort, .ref mduelOne, .ref mduelOther, .ref mduelOn, .ref mruleFrom, .ref mruleTo, .ref mhasHonour, .ref mhasDraw, .ref mmName, .ref mkName, .ref mrName, .ref mdName, .ref mcode, .ref mcodeNumber, .ref meWhat, .ref meSign, .ref mpile, .int mbank, .int mrb, .int mcodes, .int mwithin, .int mpiled, .int munitsInRule, .int maskDay, .int maskUses, .int maskSpent, .ref mall, .ref mwas, .int macts, .int mundone, .ref musedBy0, .ref musedBy1, .ref mmornings, .ref mcameFrom, .ref mcameBy, .ref mlevelAt, .ref mwins, .ref mslots, .ref mlevelOf, .ref mworthOf, .int mstates, .int mlevels, .int mside0, .int mside1, .int mdeathDay, .int maway, .int mhires, .int mhirer, .int mslotFound, .int misSpent, .int mfound, .int mlaid, .ref mlaidRow, .ref mgReason, .ref mgDay, .ref mgTold, .ref mgUntold, .int msights, .int mtime, .ref mboxAll, .ref misBoxed])), (mmen, aI g 2 Fmmen), (msonOf, aI g 12 FmsonOf), (mall, aI g 374 Fmall)] H := by rw [hH]; exact hP
  have hS : va_S A s.heap H [] := by rw [hH]; exact hS
  refine lv_aload_n hx hb dX12_heir_0 rfl (lv_at hl 0 rfl) ?_
  refine lv_iload_n hx hb dX12_heir_1 rfl (lv_at hl 1 rfl) ?_
  refine k_iR (k_V (n := 1) ⟨hx, hb, hml, hown, hT⟩ hK hP hD [0, 1] rfl (by decide +kernel) (s_X12_isMan l g H.size h mtape mtext mtaped msize mfaultKind mfaultPlace mat mend mtoken mnumber mname mmen Fmmen mkinds mreasons mtold munits mhonour mdraw mdies mcoin msonOf mkindOf mowner mfirst mlast mrent msort mduelOne mduelOther mduelOn mruleFrom mruleTo mhasHonour mhasDraw mmName mkName mrName mdName mcode mcodeNumber meWhat meSign mpile mbank mrb mcodes mwithin mpiled munitsInRule maskDay maskUses maskSpent mall mwas macts mundone musedBy0 musedBy1 mmornings mcameFrom mcameBy mlevelAt mwins mslots mlevelOf mworthOf mstates mlevels mside0 mside1 mdeathDay maway mhires mhirer mslotFound misSpent mfound mlaid mlaidRow mgReason mgDay mgTold mgUntold msights mtime mboxAll misBoxed p0 (by first | with_reducible assumption | omega) (by first | with_reducible assumption | omega) (by first | with_reducible assumption | omega) (by first | with_reducible assumption | omega) (by first | with_reducible assumption | omega) hh5 (by first | with_reducible assumption | omega) (by first | with_reducible assumption | omega) (by first | with_reducible assumption | omega) (by first | with_reducible assumption | omega) (by first | with_reducible assumption | omega) (by first | with_reducible assumption | omega) (by first | with_reducible assumption | omega) (by first | with_reducible assumption | omega) (by first | with_reducible assumption | omega) (by first | with_reducible assumption | omega) (by first | with_reducible assumption | omega) (by first | with_reducible assumption | omega) (by first | with_reducible assumption | omega) (by first | with_reducible assumption | omega) (by first | with_reducible assumption | omega) (by first | with_reducible assumption | omega)) (gV bw_910 bw_911 bw_912 bw_840 bw_829) rfl rfl (by decide +kernel) ⟨by decide, by decide⟩ (ci := 12) (q0 := 0) rfl rfl (fun _ _ _ _ _ => trivial) (fun _ _ _ => trivial) rfl rfl hl.1 (Nat.le_of_ble_eq_true rfl) dX12_heir_2 ⟨by decide, by decide⟩) hP hS hA (fun r_1 _ H locs hw0 hP hS => ?_)
  have hw : (r_1 = 1 ∧ (0 ≤ p0.toInt ∧ p0.toInt < (Fmmen mbank.toNatClampNeg).toInt) ∧ (p0.toInt ≤ 5)) ∨ (r_1 = 0) := hw0
  clear hw0
  rcases hw with ⟨e_4, w_2, w_3⟩ | e_5
  · subst e_4
    refine lv_if_eq (tgt := 16) hx hb dX12_heir_5 (by decide) (fun c9 => absurd c9 (by decide)) (fun _ => ?_)
    refine lv_aload_n hx hb dX12_heir_8 rfl (lv_at hl 0 rfl) ?_
    refine lv_iload_n hx hb dX12_heir_9 rfl (lv_at hl 1 rfl) ?_
    refine k_iR (k_V (n := 1) ⟨hx, hb, hml, hown, hT⟩ hK hP hD [0, 1, 2, 3] rfl (by decide +kernel) (s_X12_heirOf l g H.size h mtape mtext mtaped msize mfaultKind mfaultPlace mat mend mtoken mnumber mname mmen Fmmen mkinds mreasons mtold munits mhonour mdraw mdies mcoin msonOf FmsonOf mkindOf mowner mfirst mlast mrent msort mduelOne mduelOther mduelOn mruleFrom mruleTo mhasHonour mhasDraw mmName mkName mrName mdName mcode mcodeNumber meWhat meSign mpile mbank mrb mcodes mwithin mpiled munitsInRule maskDay maskUses maskSpent mall Fmall mwas macts mundone musedBy0 musedBy1 mmornings mcameFrom mcameBy mlevelAt mwins mslots mlevelOf mworthOf mstates mlevels mside0 mside1 mdeathDay maway mhires mhirer mslotFound misSpent mfound mlaid mlaidRow mgReason mgDay mgTold mgUntold msights mtime mboxAll misBoxed p0 (by first | with_reducible assumption | omega) (by first | with_reducible assumption | omega) (by first | with_reducible assumption | omega) (by first | with_reducible assumption | omega) (by first | with_reducible assumption | omega) hh5 hh11 (by first | with_reducible assumption | omega) (by first | with_reducible assumption | omega) (by first | with_reducible assumption | omega) (by first | with_reducible assumption | omega) (by first | with_reducible assumption | omega) hh23 (by first | with_reducible assumption | omega) (by first | with_reducible assumption | omega) (by first | with_reducible assumption | omega) (by first | with_reducible assumption | omega) (by first | with_reducible assumption | omega) (by first | with_reducible assumption | omega) (by first | with_reducible assumption | omega) (by first | with_reducible assumption | omega) (by first | with_reducible assumption | omega) (by first | with_reducible assumption | omega) (by first | with_reducible assumption | omega)) (gV bw_936 bw_937 bw_938 bw_840 bw_935) rfl rfl (by decide +kernel) ⟨by decide, by decide⟩ (ci := 12) (q0 := 0) rfl rfl (fun _ _ _ _ _ => trivial) (fun _ _ _ => trivial) rfl rfl hl.1 (Nat.le_of_ble_eq_true rfl) dX12_heir_10 ⟨by decide, by decide⟩) hP hS hA (fun r_6 _ H locs hw0 hP hS => ?_)
    have hw : (-1) ≤ r_6.toInt ∧ r_6.toInt ≤ 5 := hw0
    clear hw0
    have w_7 := hw
    refine lv_goto (tgt := 17) hx hb dX12_heir_13 (by decide) ?_
    have hP9 : va_P g.1 vwCl [] H := hP.sub [] rfl
    have hD9 : va_D A [] := ⟨fun i j p q h => by simp at h, fun k q h => by simp at h⟩
    exact W.iret (v := r_6) hx hb hr (fun t ht hW => ⟨⟨r_6, (), rfl, (by first | with_reducible assumption | omega), by rw [ht]; exact hP9, by rw [hAe]; exact hD9⟩, hS.F ht⟩) hS.2.2 dX12_heir_17
  · subst e_5
    refine lv_if_eq (tgt := 16) hx hb dX12_heir_5 (by decide) (fun _ => ?_) (fun c9 => absurd (by decide) c9)
    refine lv_iconst (v := (-1)) hx hb dX12_heir_16 (by decide) ?_
    have hP9 : va_P g.1 vwCl [] H := hP.sub [] rfl
    have hD9 : va_D A [] := ⟨fun i j p q h => by simp at h, fun k q h => by simp at h⟩
    exact W.iret (v := (-1)) hx hb hr (fun t ht hW => ⟨⟨(-1), (), rfl, ⟨by decide, by decide⟩, by rw [ht]; exact hP9, by rw [hAe]; exact hD9⟩, hS.F ht⟩) hS.2.2 dX12_heir_17

theorem bw_940 : Cond.code yX12_doOppose cX12_doOppose 4 (some .boolean) ∈ gT := gT_tb 1869 (by decide +kernel) (by decide +kernel)
theorem dX12_doOppose_0 : decode cX12_doOppose 0 = .ok (.aload_n 0, 1) := by decide +kernel
theorem dX12_doOppose_1 : decode cX12_doOppose 1 = .ok (.iload_n 1, 1) := by decide +kernel
theorem dX12_doOppose_2 : decode cX12_doOppose 2 = .ok (.invokevirtual 461, 3) := by decide +kernel
theorem dX12_doOppose_5 : decode cX12_doOppose 5 = .ok (.ifCond .eq 47, 3) := by decide +kernel
theorem dX12_doOppose_8 : decode cX12_doOppose 8 = .ok (.aload_n 0, 1) := by decide +kernel
theorem dX12_doOppose_9 : decode cX12_doOppose 9 = .ok (.iload_n 1, 1) := by decide +kernel
theorem dX12_doOppose_10 : decode cX12_doOppose 10 = .ok (.iconst 0, 1) := by decide +kernel
theorem dX12_doOppose_11 : decode cX12_doOppose 11 = .ok (.invokevirtual 418, 3) := by decide +kernel
theorem dX12_doOppose_14 : decode cX12_doOppose 14 = .ok (.iload_n 2, 1) := by decide +kernel
theorem dX12_doOppose_15 : decode cX12_doOppose 15 = .ok (.if_icmp .ne 13, 3) := by decide +kernel
theorem dX12_doOppose_18 : decode cX12_doOppose 18 = .ok (.aload_n 0, 1) := by decide +kernel
theorem dX12_doOppose_19 : decode cX12_doOppose 19 = .ok (.iload_n 1, 1) := by decide +kernel
theorem dX12_doOppose_20 : decode cX12_doOppose 20 = .ok (.iconst 1, 1) := by decide +kernel
theorem dX12_doOppose_21 : decode cX12_doOppose 21 = .ok (.invokevirtual 418, 3) := by decide +kernel
theorem dX12_doOppose_24 : decode cX12_doOppose 24 = .ok (.iload_n 3, 1) := by decide +kernel
theorem dX12_doOppose_25 : decode cX12_doOppose 25 = .ok (.if_icmp .eq 23, 3) := by decide +kernel
theorem dX12_doOppose_28 : decode cX12_doOppose 28 = .ok (.aload_n 0, 1) := by decide +kernel
theorem dX12_doOppose_29 : decode cX12_doOppose 29 = .ok (.iload_n 1, 1) := by decide +kernel
theorem dX12_doOppose_30 : decode cX12_doOppose 30 = .ok (.iconst 0, 1) := by decide +kernel
theorem dX12_doOppose_31 : decode cX12_doOppose 31 = .ok (.invokevirtual 418, 3) := by decide +kernel
theorem dX12_doOppose_34 : decode cX12_doOppose 34 = .ok (.iload_n 3, 1) := by decide +kernel
theorem dX12_doOppose_35 : decode cX12_doOppose 35 = .ok (.if_icmp .ne 17, 3) := by decide +kernel
theorem dX12_doOppose_38 : decode cX12_doOppose 38 = .ok (.aload_n 0, 1) := by decide +kernel
theorem dX12_doOppose_39 : decode cX12_doOppose 39 = .ok (.iload_n 1, 1) := by decide +kernel
theorem dX12_doOppose_40 : decode cX12_doOppose 40 = .ok (.iconst 1, 1) := by decide +kernel
theorem dX12_doOppose_41 : decode cX12_doOppose 41 = .ok (.invokevirtual 418, 3) := by decide +kernel
theorem dX12_doOppose_44 : decode cX12_doOppose 44 = .ok (.iload_n 2, 1) := by decide +kernel
theorem dX12_doOppose_45 : decode cX12_doOppose 45 = .ok (.if_icmp .ne 7, 3) := by decide +kernel
theorem dX12_doOppose_48 : decode cX12_doOppose 48 = .ok (.iconst 1, 1) := by decide +kernel
theorem dX12_doOppose_49 : decode cX12_doOppose 49 = .ok (.goto 4, 3) := by decide +kernel
theorem dX12_doOppose_52 : decode cX12_doOppose 52 = .ok (.iconst 0, 1) := by decide +kernel
theorem dX12_doOppose_53 : decode cX12_doOppose 53 = .ok (.ireturn, 1) := by decide +kernel
set_option maxHeartbeats 40000000 in
set_option maxRecDepth 100000 in
theorem s_X12_doOppose (l : Launch) (g : GG) (sz : Nat) (h : Nat) (mtape : Nat) (mtext : Nat) (mtaped : Int32) (msize : Int32) (mfaultKind : Int32) (mfaultPlace : Int32) (mat : Int32) (mend : Int32) (mtoken : Int32) (mnumber : Int32) (mname : Int64) (mmen : Nat) (mkinds : Nat) (mreasons : Nat) (mtold : Nat) (munits : Nat) (mhonour : Nat) (mdraw : Nat) (mdies : Nat) (mcoin : Nat) (msonOf : Nat) (mkindOf : Nat) (mowner : Nat) (mfirst : Nat) (mlast : Nat) (mrent : Nat) (msort : Nat) (mduelOne : Nat) (mduelOther : Nat) (mduelOn : Nat) (mruleFrom : Nat) (mruleTo : Nat) (mhasHonour : Nat) (mhasDraw : Nat) (mmName : Nat) (mkName : Nat) (mrName : Nat) (mdName : Nat) (mcode : Nat) (mcodeNumber : Nat) (meWhat : Nat) (meSign : Nat) (mpile : Nat) (mbank : Int32) (mrb : Int32) (mcodes : Int32) (mwithin : Int32) (mpiled : Int32) (munitsInRule : Int32) (maskDay : Int32) (maskUses : Int32) (maskSpent : Int32) (mall : Nat) (Fmall : Nat → Int32) (mwas : Nat) (macts : Int32) (mundone : Int32) (musedBy0 : Nat) (musedBy1 : Nat) (mmornings : Nat) (mcameFrom : Nat) (mcameBy : Nat) (mlevelAt : Nat) (mwins : Nat) (mslots : Nat) (mlevelOf : Nat) (mworthOf : Nat) (mstates : Int32) (mlevels : Int32) (mside0 : Int32) (mside1 : Int32) (mdeathDay : Int32) (maway : Int32) (mhires : Int32) (mhirer : Int32) (mslotFound : Int32) (misSpent : Int32) (mfound : Int32) (mlaid : Int32) (mlaidRow : Nat) (mgReason : Nat) (mgDay : Nat) (mgTold : Nat) (mgUntold : Nat) (msights : Int32) (mtime : Int32) (mboxAll : Nat) (misBoxed : Nat) (p0 : Int32) (p1 : Int32) (p2 : Int32) (hh0 : 0 ≤ mtaped.toInt ∧ mtaped.toInt ≤ 1600) (hh1 : 0 ≤ msize.toInt ∧ msize.toInt ≤ 1600) (hh2 : 0 ≤ mat.toInt ∧ mat.toInt ≤ 1600) (hh3 : 0 ≤ mend.toInt ∧ mend.toInt ≤ 1600) (hh4 : 0 ≤ mtoken.toInt ∧ mtoken.toInt ≤ 5) (hh18 : 0 ≤ mbank.toInt ∧ mbank.toInt ≤ 1) (hh19 : 0 ≤ mrb.toInt ∧ mrb.toInt ≤ 1) (hh20 : 0 ≤ mcodes.toInt ∧ mcodes.toInt ≤ 1120) (hh21 : 0 ≤ mpiled.toInt ∧ mpiled.toInt ≤ 90) (hh22 : 0 ≤ munitsInRule.toInt ∧ munitsInRule.toInt ≤ 30) (hh23 : Ia Fmall) (hh25 : 0 ≤ macts.toInt ∧ macts.toInt ≤ 40) (hh26 : 0 ≤ mundone.toInt ∧ mundone.toInt ≤ 40) (hh34 : 0 ≤ mstates.toInt ∧ mstates.toInt ≤ 3000) (hh35 : 0 ≤ mlevels.toInt ∧ mlevels.toInt ≤ 18) (hh36 : 0 ≤ mside0.toInt ∧ mside0.toInt ≤ 5) (hh37 : 0 ≤ mside1.toInt ∧ mside1.toInt ≤ 5) (hh38 : 0 ≤ mslotFound.toInt ∧ mslotFound.toInt ≤ 8191) (hh39 : 0 ≤ misSpent.toInt ∧ misSpent.toInt ≤ 1) (hh40 : 0 ≤ mlaid.toInt ∧ mlaid.toInt ≤ 16) (hh41 : 0 ≤ msights.toInt ∧ msights.toInt ≤ 30) (hh42 : 0 ≤ mtime.toInt ∧ mtime.toInt ≤ 100000) : Met l yX12_doOppose (.code yX12_doOppose cX12_doOppose 4 (some .boolean) :: gT) ({ frames := 3, cells := 0, slots := 0, locals := 64 }) (va_Pc [.ref h, .int p0, .int p1, .int p2] (Pst g sz [(h, .inr (12, [.ref mtape, .ref mtext, .int mtaped, .int msize, .int mfaultKind, .int mfaultPlace, .int mat, .int mend, .int mtoken, .int mnumber, .long mname, .ref mmen, .ref mkinds, .ref mreasons, .ref mtold, .ref munits, .ref mhonour, .ref mdraw, .ref mdies, .ref mcoin, .ref msonOf, .ref mkindOf, .ref mowner, .ref mfirst, .ref mlast, .ref mrent, .ref msort, .ref mduelOne, .ref mduelOther, .ref mduelOn, .ref mruleFrom, .ref mruleTo, .ref mhasHonour, .ref mhasDraw, .ref mmName, .ref mkName, .ref mrName, .ref mdName, .ref mcode, .ref mcodeNumber, .ref meWhat, .ref meSign, .ref mpile, .int mbank, .int mrb, .int mcodes, .int mwithin, .int mpiled, .int munitsInRule, .int maskDay, .int maskUses, .int maskSpent, .ref mall, .ref mwas, .int macts, .int mundone, .ref musedBy0, .ref musedBy1, .ref mmornings, .ref mcameFrom, .ref mcameBy, .ref mlevelAt, .ref mwins, .ref mslots, .ref mlevelOf, .ref mworthOf, .int mstates, .int mlevels, .int mside0, .int mside1, .int mdeathDay, .int maway, .int mhires, .int mhirer, .int mslotFound, .int misSpent, .int mfound, .int mlaid, .ref mlaidRow, .ref mgReason, .ref mgDay, .ref mgTold, .ref mgUntold, .int msights, .int mtime, .ref mboxAll, .ref misBoxed])), (mall, aI g 374 Fmall)] nX)) (va_Qi (fun (r : Int32) => fun (_ : Unit) => 0 ≤ r.toInt ∧ r.toInt ≤ 1) (Qst g [] sz (fun _ => [])) (va_A [] sz)) 0 0 (va_A [] sz) := by
  refine Met.ofW (cc := cX12_doOppose) (maxL := 4) (ret := (some .boolean)) (by decide) rfl ?_
  intro p e s m args below meth c s₁ B hml hv
  obtain ⟨rfl, hsz, hP, hK, hD0, hX⟩ := hv
  have hx := B.exec
  have hb := B.bytes
  have hr := B.returns
  have hT : ∀ w ∈ gT, w.before _ s = true := fun w h => atoms_spec (ws := .code yX12_doOppose cX12_doOppose 4 (some .boolean) :: gT) B.pre w (List.mem_cons_of_mem _ h)
  have hown : s.vm.findClass RX12 = some m.cls := findClass_of_methodNamed B.named
  have hlocks := B.notSynchronized
  subst hsz
  have hD := hD0
  generalize hAe : va_A [] s.heap.size = A at ⊢
  have hA : ∀ q : Nat, s.heap.size ≤ q → A q := fun q h => by rw [← hAe]; exact Or.inr h
  have hS : va_S A s.heap s.heap [] := va_S.rf
  have hl := lv_entry ([.ref h, .int p0, .int p1, .int p2]) (n := 4) (Nat.le_of_ble_eq_true rfl)
  rw [lg_entry_eq]
  generalize (lg_sl ([.ref h, .int p0, .int p1, .int p2]) ++ List.replicate (4 - (lg_sl ([.ref h, .int p0, .int p1, .int p2])).length) Slot.unset).toArray = ls at hl ⊢
  have hl : lv_has ls 4 [(0, .ref h), (1, .int p0), (2, .int p1), (3, .int p2)] := hl
  refine p_nH (fun H hH => ?_)
  have hP : va_P g.1 vwCl [(h, .inr (12, [.ref mtape, .ref mtext, .int mtaped, .int msize, .int mfaultKind, .int mfaultPlace, .int mat, .int mend, .int mtoken, .int mnumber, .long mname, .ref mmen, .ref mkinds, .ref mreasons, .ref mtold, .ref munits, .ref mhonour, .ref mdraw, .ref mdies, .ref mcoin, .ref msonOf, .ref mkindOf, .ref mowner, .ref mfirst, .ref mlast, .ref mrent, .ref msort, .ref mduelOne, .ref mduelOther, .ref mduelOn, .ref mruleFrom, .ref mruleTo, .ref mhasHonour, .ref mhasDraw, .ref mmName, .ref mkName, .ref mrName, .ref mdName, .ref mcode, .ref mcodeNumber, .ref meWhat, .ref meSign, .ref mpile, .int mbank, .int mrb, .int mcodes, .int mwithin, .int mpiled, .int munitsInRule, .int maskDay, .int maskUses, .int maskSpent, .ref mall, .ref mwas, .int macts, .int mundone, .ref musedBy0, .ref musedBy1, .ref mmornings, .ref mcameFrom, .ref mcameBy, .ref mlevelAt, .ref mwins, .ref mslots, .ref mlevelOf, .ref mworthOf, .int mstates, .int mlevels, .int mside0, .int mside1, .int mdeathDay, .int maway, .int mhires, .int mhirer, .int mslotFound, .int misSpent, .int mfound, .int mlaid, .ref mlaidRow, .ref mgReason, .ref mgDay, .ref mgTold, .ref mgUntold, .int msights, .int mtime, .ref mboxAll, .ref misBoxed])), (mall, aI g 374 Fmall)] H := by rw [hH]; exact hP
  have hS : va_S A s.heap H [] := by rw [hH]; exact hS
  refine lv_aload_n hx hb dX12_doOppose_0 rfl (lv_at hl 0 rfl) ?_
  refine lv_iload_n hx hb dX12_doOppose_1 rfl (lv_at hl 1 rfl) ?_
  refine k_iR (k_V (n := 1) ⟨hx, hb, hml, hown, hT⟩ hK hP hD [0, 1] rfl (by decide +kernel) (s_X12_isOpen l g H.size h mtape mtext mtaped msize mfaultKind mfaultPlace mat mend mtoken mnumber mname mmen mkinds mreasons mtold munits mhonour mdraw mdies mcoin msonOf mkindOf mowner mfirst mlast mrent msort mduelOne mduelOther mduelOn mruleFrom mruleTo mhasHonour mhasDraw mmName mkName mrName mdName mcode mcodeNumber meWhat meSign mpile mbank mrb mcodes mwithin mpiled munitsInRule maskDay maskUses maskSpent mall Fmall mwas macts mundone musedBy0 musedBy1 mmornings mcameFrom mcameBy mlevelAt mwins mslots mlevelOf mworthOf mstates mlevels mside0 mside1 mdeathDay maway mhires mhirer mslotFound misSpent mfound mlaid mlaidRow mgReason mgDay mgTold mgUntold msights mtime mboxAll misBoxed p0 (by first | with_reducible assumption | omega) (by first | with_reducible assumption | omega) (by first | with_reducible assumption | omega) (by first | with_reducible assumption | omega) (by first | with_reducible assumption | omega) (by first | with_reducible assumption | omega) (by first | with_reducible assumption | omega) (by first | with_reducible assumption | omega) (by first | with_reducible assumption | omega) (by first | with_reducible assumption | omega) hh23 (by first | with_reducible assumption | omega) (by first | with_reducible assumption | omega) (by first | with_reducible assumption | omega) (by first | with_reducible assumption | omega) (by first | with_reducible assumption | omega) (by first | with_reducible assumption | omega) (by first | with_reducible assumption | omega) (by first | with_reducible assumption | omega) (by first | with_reducible assumption | omega) (by first | with_reducible assumption | omega) (by first | with_reducible assumption | omega)) (gV bw_888 bw_889 bw_890 bw_840 bw_844) rfl rfl (by decide +kernel) ⟨by decide, by decide⟩ (ci := 12) (q0 := 0) rfl rfl (fun _ _ _ _ _ => trivial) (fun _ _ _ => trivial) rfl rfl hl.1 (Nat.le_of_ble_eq_true rfl) dX12_doOppose_2 ⟨by decide, by decide⟩) hP hS hA (fun r_1 _ H locs hw0 hP hS => ?_)
  have hw : (r_1 = 1 ∧ (0 ≤ p0.toInt ∧ p0.toInt ≤ 7)) ∨ (r_1 = 0) := hw0
  clear hw0
  rcases hw with ⟨e_3, w_2⟩ | e_4
  · subst e_3
    refine lv_if_eq (tgt := 52) hx hb dX12_doOppose_5 (by decide) (fun c9 => absurd c9 (by decide)) (fun _ => ?_)
    refine lv_aload_n hx hb dX12_doOppose_8 rfl (lv_at hl 0 rfl) ?_
    refine lv_iload_n hx hb dX12_doOppose_9 rfl (lv_at hl 1 rfl) ?_
    refine lv_iconst (v := 0) hx hb dX12_doOppose_10 (by decide) ?_
    refine k_iR (k_V (n := 2) ⟨hx, hb, hml, hown, hT⟩ hK hP hD [0, 1] rfl (by decide +kernel) (s_X12_of_0 l g H.size h mtape mtext mtaped msize mfaultKind mfaultPlace mat mend mtoken mnumber mname mmen mkinds mreasons mtold munits mhonour mdraw mdies mcoin msonOf mkindOf mowner mfirst mlast mrent msort mduelOne mduelOther mduelOn mruleFrom mruleTo mhasHonour mhasDraw mmName mkName mrName mdName mcode mcodeNumber meWhat meSign mpile mbank mrb mcodes mwithin mpiled munitsInRule maskDay maskUses maskSpent mall Fmall mwas macts mundone musedBy0 musedBy1 mmornings mcameFrom mcameBy mlevelAt mwins mslots mlevelOf mworthOf mstates mlevels mside0 mside1 mdeathDay maway mhires mhirer mslotFound misSpent mfound mlaid mlaidRow mgReason mgDay mgTold mgUntold msights mtime mboxAll misBoxed p0 (by first | with_reducible assumption | omega) (by first | with_reducible assumption | omega) (by first | with_reducible assumption | omega) (by first | with_reducible assumption | omega) (by first | with_reducible assumption | omega) (by first | with_reducible assumption | omega) (by first | with_reducible assumption | omega) (by first | with_reducible assumption | omega) (by first | with_reducible assumption | omega) (by first | with_reducible assumption | omega) hh23 (by first | with_reducible assumption | omega) (by first | with_reducible assumption | omega) (by first | with_reducible assumption | omega) (by first | with_reducible assumption | omega) (by first | with_reducible assumption | omega) (by first | with_reducible assumption | omega) (by first | with_reducible assumption | omega) (by first | with_reducible assumption | omega) (by first | with_reducible assumption | omega) (by first | with_reducible assumption | omega) (by first | with_reducible assumption | omega) (by first | with_reducible assumption | omega)) (gV bw_841 bw_842 bw_843 bw_840 bw_836) rfl rfl (by decide +kernel) ⟨by decide, by decide⟩ (ci := 12) (q0 := 0) rfl rfl (fun _ _ _ _ _ => trivial) (fun _ _ _ => trivial) rfl rfl hl.1 (Nat.le_of_ble_eq_true rfl) dX12_doOppose_11 ⟨by decide, by decide⟩) hP hS hA (fun r_5 _ H locs hw0 hP hS => ?_)
    have hw : 0 ≤ r_5.toInt ∧ r_5.toInt ≤ 5 := hw0
    clear hw0
    have w_6 := hw
    refine lv_iload_n hx hb dX12_doOppose_14 rfl (lv_at hl 2 rfl) ?_
    refine lv_icmp_ne (tgt := 28) hx hb dX12_doOppose_15 (by decide) (fun c_7 => ?_) (fun c_7 => ?_)
    · have f_8 := E_ne (rfl : r_5.toInt = _) (rfl : p1.toInt = _) c_7
      refine lv_aload_n hx hb dX12_doOppose_28 rfl (lv_at hl 0 rfl) ?_
      refine lv_iload_n hx hb dX12_doOppose_29 rfl (lv_at hl 1 rfl) ?_
      refine lv_iconst (v := 0) hx hb dX12_doOppose_30 (by decide) ?_
      refine k_iR (k_V (n := 2) ⟨hx, hb, hml, hown, hT⟩ hK hP hD [0, 1] rfl (by decide +kernel) (s_X12_of_0 l g H.size h mtape mtext mtaped msize mfaultKind mfaultPlace mat mend mtoken mnumber mname mmen mkinds mreasons mtold munits mhonour mdraw mdies mcoin msonOf mkindOf mowner mfirst mlast mrent msort mduelOne mduelOther mduelOn mruleFrom mruleTo mhasHonour mhasDraw mmName mkName mrName mdName mcode mcodeNumber meWhat meSign mpile mbank mrb mcodes mwithin mpiled munitsInRule maskDay maskUses maskSpent mall Fmall mwas macts mundone musedBy0 musedBy1 mmornings mcameFrom mcameBy mlevelAt mwins mslots mlevelOf mworthOf mstates mlevels mside0 mside1 mdeathDay maway mhires mhirer mslotFound misSpent mfound mlaid mlaidRow mgReason mgDay mgTold mgUntold msights mtime mboxAll misBoxed p0 (by first | with_reducible assumption | omega) (by first | with_reducible assumption | omega) (by first | with_reducible assumption | omega) (by first | with_reducible assumption | omega) (by first | with_reducible assumption | omega) (by first | with_reducible assumption | omega) (by first | with_reducible assumption | omega) (by first | with_reducible assumption | omega) (by first | with_reducible assumption | omega) (by first | with_reducible assumption | omega) hh23 (by first | with_reducible assumption | omega) (by first | with_reducible assumption | omega) (by first | with_reducible assumption | omega) (by first | with_reducible assumption | omega) (by first | with_reducible assumption | omega) (by first | with_reducible assumption | omega) (by first | with_reducible assumption | omega) (by first | with_reducible assumption | omega) (by first | with_reducible assumption | omega) (by first | with_reducible assumption | omega) (by first | with_reducible assumption | omega) (by first | with_reducible assumption | omega)) (gV bw_841 bw_842 bw_843 bw_840 bw_836) rfl rfl (by decide +kernel) ⟨by decide, by decide⟩ (ci := 12) (q0 := 0) rfl rfl (fun _ _ _ _ _ => trivial) (fun _ _ _ => trivial) rfl rfl hl.1 (Nat.le_of_ble_eq_true rfl) dX12_doOppose_31 ⟨by decide, by decide⟩) hP hS hA (fun r_9 _ H locs hw0 hP hS => ?_)
      have hw : 0 ≤ r_9.toInt ∧ r_9.toInt ≤ 5 := hw0
      clear hw0
      have w_10 := hw
      refine lv_iload_n hx hb dX12_doOppose_34 rfl (lv_at hl 3 rfl) ?_
      refine lv_icmp_ne (tgt := 52) hx hb dX12_doOppose_35 (by decide) (fun c_11 => ?_) (fun c_11 => ?_)
      · have f_12 := E_ne (rfl : r_9.toInt = _) (rfl : p2.toInt = _) c_11
        refine lv_iconst (v := 0) hx hb dX12_doOppose_52 (by decide) ?_
        have hP9 : va_P g.1 vwCl [] H := hP.sub [] rfl
        have hD9 : va_D A [] := ⟨fun i j p q h => by simp at h, fun k q h => by simp at h⟩
        exact W.zret (v := 0) (ty := .boolean) hx hb hr rfl (fun t ht hW => ⟨⟨0, (), rfl, ⟨by decide, by decide⟩, by rw [ht]; exact hP9, by rw [hAe]; exact hD9⟩, hS.F ht⟩) hS.2.2 dX12_doOppose_53
      · have f_13 := E_eq (rfl : r_9.toInt = _) (rfl : p2.toInt = _) c_11
        refine lv_aload_n hx hb dX12_doOppose_38 rfl (lv_at hl 0 rfl) ?_
        refine lv_iload_n hx hb dX12_doOppose_39 rfl (lv_at hl 1 rfl) ?_
        refine lv_iconst (v := 1) hx hb dX12_doOppose_40 (by decide) ?_
        refine k_iR (k_V (n := 2) ⟨hx, hb, hml, hown, hT⟩ hK hP hD [0, 1] rfl (by decide +kernel) (s_X12_of_1 l g H.size h mtape mtext mtaped msize mfaultKind mfaultPlace mat mend mtoken mnumber mname mmen mkinds mreasons mtold munits mhonour mdraw mdies mcoin msonOf mkindOf mowner mfirst mlast mrent msort mduelOne mduelOther mduelOn mruleFrom mruleTo mhasHonour mhasDraw mmName mkName mrName mdName mcode mcodeNumber meWhat meSign mpile mbank mrb mcodes mwithin mpiled munitsInRule maskDay maskUses maskSpent mall Fmall mwas macts mundone musedBy0 musedBy1 mmornings mcameFrom mcameBy mlevelAt mwins mslots mlevelOf mworthOf mstates mlevels mside0 mside1 mdeathDay maway mhires mhirer mslotFound misSpent mfound mlaid mlaidRow mgReason mgDay mgTold mgUntold msights mtime mboxAll misBoxed p0 (by first | with_reducible assumption | omega) (by first | with_reducible assumption | omega) (by first | with_reducible assumption | omega) (by first | with_reducible assumption | omega) (by first | with_reducible assumption | omega) (by first | with_reducible assumption | omega) (by first | with_reducible assumption | omega) (by first | with_reducible assumption | omega) (by first | with_reducible assumption | omega) (by first | with_reducible assumption | omega) hh23 (by first | with_reducible assumption | omega) (by first | with_reducible assumption | omega) (by first | with_reducible assumption | omega) (by first | with_reducible assumption | omega) (by first | with_reducible assumption | omega) (by first | with_reducible assumption | omega) (by first | with_reducible assumption | omega) (by first | with_reducible assumption | omega) (by first | with_reducible assumption | omega) (by first | with_reducible assumption | omega) (by first | with_reducible assumption | omega) (by first | with_reducible assumption | omega)) (gV bw_841 bw_842 bw_843 bw_840 bw_836) rfl rfl (by decide +kernel) ⟨by decide, by decide⟩ (ci := 12) (q0 := 0) rfl rfl (fun _ _ _ _ _ => trivial) (fun _ _ _ => trivial) rfl rfl hl.1 (Nat.le_of_ble_eq_true rfl) dX12_doOppose_41 ⟨by decide, by decide⟩) hP hS hA (fun r_14 _ H locs hw0 hP hS => ?_)
        have hw : 0 ≤ r_14.toInt ∧ r_14.toInt ≤ 5 := hw0
        clear hw0
        have w_15 := hw
        refine lv_iload_n hx hb dX12_doOppose_44 rfl (lv_at hl 2 rfl) ?_
        refine lv_icmp_ne (tgt := 52) hx hb dX12_doOppose_45 (by decide) (fun c_16 => ?_) (fun c_16 => ?_)
        · have f_17 := E_ne (rfl : r_14.toInt = _) (rfl : p1.toInt = _) c_16
          refine lv_iconst (v := 0) hx hb dX12_doOppose_52 (by decide) ?_
          have hP9 : va_P g.1 vwCl [] H := hP.sub [] rfl
          have hD9 : va_D A [] := ⟨fun i j p q h => by simp at h, fun k q h => by simp at h⟩
          exact W.zret (v := 0) (ty := .boolean) hx hb hr rfl (fun t ht hW => ⟨⟨0, (), rfl, ⟨by decide, by decide⟩, by rw [ht]; exact hP9, by rw [hAe]; exact hD9⟩, hS.F ht⟩) hS.2.2 dX12_doOppose_53
        · have f_18 := E_eq (rfl : r_14.toInt = _) (rfl : p1.toInt = _) c_16
          refine lv_iconst (v := 1) hx hb dX12_doOppose_48 (by decide) ?_
          refine lv_goto (tgt := 53) hx hb dX12_doOppose_49 (by decide) ?_
          have hP9 : va_P g.1 vwCl [] H := hP.sub [] rfl
          have hD9 : va_D A [] := ⟨fun i j p q h => by simp at h, fun k q h => by simp at h⟩
          exact W.zret (v := 1) (ty := .boolean) hx hb hr rfl (fun t ht hW => ⟨⟨1, (), rfl, ⟨by decide, by decide⟩, by rw [ht]; exact hP9, by rw [hAe]; exact hD9⟩, hS.F ht⟩) hS.2.2 dX12_doOppose_53
    · have f_19 := E_eq (rfl : r_5.toInt = _) (rfl : p1.toInt = _) c_7
      refine lv_aload_n hx hb dX12_doOppose_18 rfl (lv_at hl 0 rfl) ?_
      refine lv_iload_n hx hb dX12_doOppose_19 rfl (lv_at hl 1 rfl) ?_
      refine lv_iconst (v := 1) hx hb dX12_doOppose_20 (by decide) ?_
      refine k_iR (k_V (n := 2) ⟨hx, hb, hml, hown, hT⟩ hK hP hD [0, 1] rfl (by decide +kernel) (s_X12_of_1 l g H.size h mtape mtext mtaped msize mfaultKind mfaultPlace mat mend mtoken mnumber mname mmen mkinds mreasons mtold munits mhonour mdraw mdies mcoin msonOf mkindOf mowner mfirst mlast mrent msort mduelOne mduelOther mduelOn mruleFrom mruleTo mhasHonour mhasDraw mmName mkName mrName mdName mcode mcodeNumber meWhat meSign mpile mbank mrb mcodes mwithin mpiled munitsInRule maskDay maskUses maskSpent mall Fmall mwas macts mundone musedBy0 musedBy1 mmornings mcameFrom mcameBy mlevelAt mwins mslots mlevelOf mworthOf mstates mlevels mside0 mside1 mdeathDay maway mhires mhirer mslotFound misSpent mfound mlaid mlaidRow mgReason mgDay mgTold mgUntold msights mtime mboxAll misBoxed p0 (by first | with_reducible assumption | omega) (by first | with_reducible assumption | omega) (by first | with_reducible assumption | omega) (by first | with_reducible assumption | omega) (by first | with_reducible assumption | omega) (by first | with_reducible assumption | omega) (by first | with_reducible assumption | omega) (by first | with_reducible assumption | omega) (by first | with_reducible assumption | omega) (by first | with_reducible assumption | omega) hh23 (by first | with_reducible assumption | omega) (by first | with_reducible assumption | omega) (by first | with_reducible assumption | omega) (by first | with_reducible assumption | omega) (by first | with_reducible assumption | omega) (by first | with_reducible assumption | omega) (by first | with_reducible assumption | omega) (by first | with_reducible assumption | omega) (by first | with_reducible assumption | omega) (by first | with_reducible assumption | omega) (by first | with_reducible assumption | omega) (by first | with_reducible assumption | omega)) (gV bw_841 bw_842 bw_843 bw_840 bw_836) rfl rfl (by decide +kernel) ⟨by decide, by decide⟩ (ci := 12) (q0 := 0) rfl rfl (fun _ _ _ _ _ => trivial) (fun _ _ _ => trivial) rfl rfl hl.1 (Nat.le_of_ble_eq_true rfl) dX12_doOppose_21 ⟨by decide, by decide⟩) hP hS hA (fun r_20 _ H locs hw0 hP hS => ?_)
      have hw : 0 ≤ r_20.toInt ∧ r_20.toInt ≤ 5 := hw0
      clear hw0
      have w_21 := hw
      refine lv_iload_n hx hb dX12_doOppose_24 rfl (lv_at hl 3 rfl) ?_
      refine lv_icmp_eq (tgt := 48) hx hb dX12_doOppose_25 (by decide) (fun c_22 => ?_) (fun c_22 => ?_)
      · have f_23 := E_eq (rfl : r_20.toInt = _) (rfl : p2.toInt = _) c_22
        refine lv_iconst (v := 1) hx hb dX12_doOppose_48 (by decide) ?_
        refine lv_goto (tgt := 53) hx hb dX12_doOppose_49 (by decide) ?_
        have hP9 : va_P g.1 vwCl [] H := hP.sub [] rfl
        have hD9 : va_D A [] := ⟨fun i j p q h => by simp at h, fun k q h => by simp at h⟩
        exact W.zret (v := 1) (ty := .boolean) hx hb hr rfl (fun t ht hW => ⟨⟨1, (), rfl, ⟨by decide, by decide⟩, by rw [ht]; exact hP9, by rw [hAe]; exact hD9⟩, hS.F ht⟩) hS.2.2 dX12_doOppose_53
      · have f_24 := E_ne (rfl : r_20.toInt = _) (rfl : p2.toInt = _) c_22
        refine lv_aload_n hx hb dX12_doOppose_28 rfl (lv_at hl 0 rfl) ?_
        refine lv_iload_n hx hb dX12_doOppose_29 rfl (lv_at hl 1 rfl) ?_
        refine lv_iconst (v := 0) hx hb dX12_doOppose_30 (by decide) ?_
        refine k_iR (k_V (n := 2) ⟨hx, hb, hml, hown, hT⟩ hK hP hD [0, 1] rfl (by decide +kernel) (s_X12_of_0 l g H.size h mtape mtext mtaped msize mfaultKind mfaultPlace mat mend mtoken mnumber mname mmen mkinds mreasons mtold munits mhonour mdraw mdies mcoin msonOf mkindOf mowner mfirst mlast mrent msort mduelOne mduelOther mduelOn mruleFrom mruleTo mhasHonour mhasDraw mmName mkName mrName mdName mcode mcodeNumber meWhat meSign mpile mbank mrb mcodes mwithin mpiled munitsInRule maskDay maskUses maskSpent mall Fmall mwas macts mundone musedBy0 musedBy1 mmornings mcameFrom mcameBy mlevelAt mwins mslots mlevelOf mworthOf mstates mlevels mside0 mside1 mdeathDay maway mhires mhirer mslotFound misSpent mfound mlaid mlaidRow mgReason mgDay mgTold mgUntold msights mtime mboxAll misBoxed p0 (by first | with_reducible assumption | omega) (by first | with_reducible assumption | omega) (by first | with_reducible assumption | omega) (by first | with_reducible assumption | omega) (by first | with_reducible assumption | omega) (by first | with_reducible assumption | omega) (by first | with_reducible assumption | omega) (by first | with_reducible assumption | omega) (by first | with_reducible assumption | omega) (by first | with_reducible assumption | omega) hh23 (by first | with_reducible assumption | omega) (by first | with_reducible assumption | omega) (by first | with_reducible assumption | omega) (by first | with_reducible assumption | omega) (by first | with_reducible assumption | omega) (by first | with_reducible assumption | omega) (by first | with_reducible assumption | omega) (by first | with_reducible assumption | omega) (by first | with_reducible assumption | omega) (by first | with_reducible assumption | omega) (by first | with_reducible assumption | omega) (by first | with_reducible assumption | omega)) (gV bw_841 bw_842 bw_843 bw_840 bw_836) rfl rfl (by decide +kernel) ⟨by decide, by decide⟩ (ci := 12) (q0 := 0) rfl rfl (fun _ _ _ _ _ => trivial) (fun _ _ _ => trivial) rfl rfl hl.1 (Nat.le_of_ble_eq_true rfl) dX12_doOppose_31 ⟨by decide, by decide⟩) hP hS hA (fun r_25 _ H locs hw0 hP hS => ?_)
        have hw : 0 ≤ r_25.toInt ∧ r_25.toInt ≤ 5 := hw0
        clear hw0
        have w_26 := hw
        refine lv_iload_n hx hb dX12_doOppose_34 rfl (lv_at hl 3 rfl) ?_
        refine lv_icmp_ne (tgt := 52) hx hb dX12_doOppose_35 (by decide) (fun c_27 => ?_) (fun c_27 => ?_)
        · have f_28 := E_ne (rfl : r_25.toInt = _) (rfl : p2.toInt = _) c_27
          refine lv_iconst (v := 0) hx hb dX12_doOppose_52 (by decide) ?_
          have hP9 : va_P g.1 vwCl [] H := hP.sub [] rfl
          have hD9 : va_D A [] := ⟨fun i j p q h => by simp at h, fun k q h => by simp at h⟩
          exact W.zret (v := 0) (ty := .boolean) hx hb hr rfl (fun t ht hW => ⟨⟨0, (), rfl, ⟨by decide, by decide⟩, by rw [ht]; exact hP9, by rw [hAe]; exact hD9⟩, hS.F ht⟩) hS.2.2 dX12_doOppose_53
        · have f_29 := E_eq (rfl : r_25.toInt = _) (rfl : p2.toInt = _) c_27
          refine lv_aload_n hx hb dX12_doOppose_38 rfl (lv_at hl 0 rfl) ?_
          refine lv_iload_n hx hb dX12_doOppose_39 rfl (lv_at hl 1 rfl) ?_
          refine lv_iconst (v := 1) hx hb dX12_doOppose_40 (by decide) ?_
          refine k_iR (k_V (n := 2) ⟨hx, hb, hml, hown, hT⟩ hK hP hD [0, 1] rfl (by decide +kernel) (s_X12_of_1 l g H.size h mtape mtext mtaped msize mfaultKind mfaultPlace mat mend mtoken mnumber mname mmen mkinds mreasons mtold munits mhonour mdraw mdies mcoin msonOf mkindOf mowner mfirst mlast mrent msort mduelOne mduelOther mduelOn mruleFrom mruleTo mhasHonour mhasDraw mmName mkName mrName mdName mcode mcodeNumber meWhat meSign mpile mbank mrb mcodes mwithin mpiled munitsInRule maskDay maskUses maskSpent mall Fmall mwas macts mundone musedBy0 musedBy1 mmornings mcameFrom mcameBy mlevelAt mwins mslots mlevelOf mworthOf mstates mlevels mside0 mside1 mdeathDay maway mhires mhirer mslotFound misSpent mfound mlaid mlaidRow mgReason mgDay mgTold mgUntold msights mtime mboxAll misBoxed p0 (by first | with_reducible assumption | omega) (by first | with_reducible assumption | omega) (by first | with_reducible assumption | omega) (by first | with_reducible assumption | omega) (by first | with_reducible assumption | omega) (by first | with_reducible assumption | omega) (by first | with_reducible assumption | omega) (by first | with_reducible assumption | omega) (by first | with_reducible assumption | omega) (by first | with_reducible assumption | omega) hh23 (by first | with_reducible assumption | omega) (by first | with_reducible assumption | omega) (by first | with_reducible assumption | omega) (by first | with_reducible assumption | omega) (by first | with_reducible assumption | omega) (by first | with_reducible assumption | omega) (by first | with_reducible assumption | omega) (by first | with_reducible assumption | omega) (by first | with_reducible assumption | omega) (by first | with_reducible assumption | omega) (by first | with_reducible assumption | omega) (by first | with_reducible assumption | omega)) (gV bw_841 bw_842 bw_843 bw_840 bw_836) rfl rfl (by decide +kernel) ⟨by decide, by decide⟩ (ci := 12) (q0 := 0) rfl rfl (fun _ _ _ _ _ => trivial) (fun _ _ _ => trivial) rfl rfl hl.1 (Nat.le_of_ble_eq_true rfl) dX12_doOppose_41 ⟨by decide, by decide⟩) hP hS hA (fun r_30 _ H locs hw0 hP hS => ?_)
          have hw : 0 ≤ r_30.toInt ∧ r_30.toInt ≤ 5 := hw0
          clear hw0
          have w_31 := hw
          refine lv_iload_n hx hb dX12_doOppose_44 rfl (lv_at hl 2 rfl) ?_
          refine lv_icmp_ne (tgt := 52) hx hb dX12_doOppose_45 (by decide) (fun c_32 => ?_) (fun c_32 => ?_)
          · have f_33 := E_ne (rfl : r_30.toInt = _) (rfl : p1.toInt = _) c_32
            refine lv_iconst (v := 0) hx hb dX12_doOppose_52 (by decide) ?_
            have hP9 : va_P g.1 vwCl [] H := hP.sub [] rfl
            have hD9 : va_D A [] := ⟨fun i j p q h => by simp at h, fun k q h => by simp at h⟩
            exact W.zret (v := 0) (ty := .boolean) hx hb hr rfl (fun t ht hW => ⟨⟨0, (), rfl, ⟨by decide, by decide⟩, by rw [ht]; exact hP9, by rw [hAe]; exact hD9⟩, hS.F ht⟩) hS.2.2 dX12_doOppose_53
          · have f_34 := E_eq (rfl : r_30.toInt = _) (rfl : p1.toInt = _) c_32
            refine lv_iconst (v := 1) hx hb dX12_doOppose_48 (by decide) ?_
            refine lv_goto (tgt := 53) hx hb dX12_doOppose_49 (by decide) ?_
            have hP9 : va_P g.1 vwCl [] H := hP.sub [] rfl
            have hD9 : va_D A [] := ⟨fun i j p q h => by simp at h, fun k q h => by simp at h⟩
            exact W.zret (v := 1) (ty := .boolean) hx hb hr rfl (fun t ht hW => ⟨⟨1, (), rfl, ⟨by decide, by decide⟩, by rw [ht]; exact hP9, by rw [hAe]; exact hD9⟩, hS.F ht⟩) hS.2.2 dX12_doOppose_53
  · subst e_4
    refine lv_if_eq (tgt := 52) hx hb dX12_doOppose_5 (by decide) (fun _ => ?_) (fun c9 => absurd (by decide) c9)
    refine lv_iconst (v := 0) hx hb dX12_doOppose_52 (by decide) ?_
    have hP9 : va_P g.1 vwCl [] H := hP.sub [] rfl
    have hD9 : va_D A [] := ⟨fun i j p q h => by simp at h, fun k q h => by simp at h⟩
    exact W.zret (v := 0) (ty := .boolean) hx hb hr rfl (fun t ht hW => ⟨⟨0, (), rfl, ⟨by decide, by decide⟩, by rw [ht]; exact hP9, by rw [hAe]; exact hD9⟩, hS.F ht⟩) hS.2.2 dX12_doOppose_53

theorem bw_941 : Cond.methodLink RX12 494 yX12_doOppose ∈ gT := gT_tb 1866 (by decide +kernel) (by decide +kernel)
theorem bw_942 : Cond.instanceMethod yX12_doOppose ∈ gT := gT_tb 1868 (by decide +kernel) (by decide +kernel)
theorem bw_943 : Cond.selects RX12 yX12_doOppose yX12_doOppose ∈ gT := gT_sl 104 (by decide +kernel) (by decide +kernel)
theorem bw_944 : Cond.code yX12_haveOpen cX12_haveOpen 4 (some .boolean) ∈ gT := gT_tb 1865 (by decide +kernel) (by decide +kernel)
theorem dX12_haveOpen_0 : decode cX12_haveOpen 0 = .ok (.iconst 0, 1) := by decide +kernel
theorem dX12_haveOpen_1 : decode cX12_haveOpen 1 = .ok (.istore_n 3, 1) := by decide +kernel
theorem dX12_haveOpen_2 : decode cX12_haveOpen 2 = .ok (.iload_n 3, 1) := by decide +kernel
theorem dX12_haveOpen_3 : decode cX12_haveOpen 3 = .ok (.aload_n 0, 1) := by decide +kernel
theorem dX12_haveOpen_4 : decode cX12_haveOpen 4 = .ok (.getfield 119, 3) := by decide +kernel
theorem dX12_haveOpen_7 : decode cX12_haveOpen 7 = .ok (.bipush 70, 2) := by decide +kernel
theorem dX12_haveOpen_9 : decode cX12_haveOpen 9 = .ok (.iaload, 1) := by decide +kernel
theorem dX12_haveOpen_10 : decode cX12_haveOpen 10 = .ok (.if_icmp .ge 21, 3) := by decide +kernel
theorem dX12_haveOpen_13 : decode cX12_haveOpen 13 = .ok (.aload_n 0, 1) := by decide +kernel
theorem dX12_haveOpen_14 : decode cX12_haveOpen 14 = .ok (.iload_n 3, 1) := by decide +kernel
theorem dX12_haveOpen_15 : decode cX12_haveOpen 15 = .ok (.iload_n 1, 1) := by decide +kernel
theorem dX12_haveOpen_16 : decode cX12_haveOpen 16 = .ok (.iload_n 2, 1) := by decide +kernel
theorem dX12_haveOpen_17 : decode cX12_haveOpen 17 = .ok (.invokevirtual 494, 3) := by decide +kernel
theorem dX12_haveOpen_20 : decode cX12_haveOpen 20 = .ok (.ifCond .eq 5, 3) := by decide +kernel
theorem dX12_haveOpen_23 : decode cX12_haveOpen 23 = .ok (.iconst 1, 1) := by decide +kernel
theorem dX12_haveOpen_24 : decode cX12_haveOpen 24 = .ok (.ireturn, 1) := by decide +kernel
theorem dX12_haveOpen_25 : decode cX12_haveOpen 25 = .ok (.iinc 3 1, 3) := by decide +kernel
theorem dX12_haveOpen_28 : decode cX12_haveOpen 28 = .ok (.goto (-26), 3) := by decide +kernel
theorem dX12_haveOpen_31 : decode cX12_haveOpen 31 = .ok (.iconst 0, 1) := by decide +kernel
theorem dX12_haveOpen_32 : decode cX12_haveOpen 32 = .ok (.ireturn, 1) := by decide +kernel
set_option maxHeartbeats 40000000 in
set_option maxRecDepth 100000 in
theorem s_X12_haveOpen (l : Launch) (g : GG) (sz : Nat) (h : Nat) (mtape : Nat) (mtext : Nat) (mtaped : Int32) (msize : Int32) (mfaultKind : Int32) (mfaultPlace : Int32) (mat : Int32) (mend : Int32) (mtoken : Int32) (mnumber : Int32) (mname : Int64) (mmen : Nat) (mkinds : Nat) (mreasons : Nat) (mtold : Nat) (munits : Nat) (mhonour : Nat) (mdraw : Nat) (mdies : Nat) (mcoin : Nat) (msonOf : Nat) (mkindOf : Nat) (mowner : Nat) (mfirst : Nat) (mlast : Nat) (mrent : Nat) (msort : Nat) (mduelOne : Nat) (mduelOther : Nat) (mduelOn : Nat) (mruleFrom : Nat) (mruleTo : Nat) (mhasHonour : Nat) (mhasDraw : Nat) (mmName : Nat) (mkName : Nat) (mrName : Nat) (mdName : Nat) (mcode : Nat) (mcodeNumber : Nat) (meWhat : Nat) (meSign : Nat) (mpile : Nat) (mbank : Int32) (mrb : Int32) (mcodes : Int32) (mwithin : Int32) (mpiled : Int32) (munitsInRule : Int32) (maskDay : Int32) (maskUses : Int32) (maskSpent : Int32) (mall : Nat) (Fmall : Nat → Int32) (mwas : Nat) (macts : Int32) (mundone : Int32) (musedBy0 : Nat) (musedBy1 : Nat) (mmornings : Nat) (mcameFrom : Nat) (mcameBy : Nat) (mlevelAt : Nat) (mwins : Nat) (mslots : Nat) (mlevelOf : Nat) (mworthOf : Nat) (mstates : Int32) (mlevels : Int32) (mside0 : Int32) (mside1 : Int32) (mdeathDay : Int32) (maway : Int32) (mhires : Int32) (mhirer : Int32) (mslotFound : Int32) (misSpent : Int32) (mfound : Int32) (mlaid : Int32) (mlaidRow : Nat) (mgReason : Nat) (mgDay : Nat) (mgTold : Nat) (mgUntold : Nat) (msights : Int32) (mtime : Int32) (mboxAll : Nat) (misBoxed : Nat) (p0 : Int32) (p1 : Int32) (hh0 : 0 ≤ mtaped.toInt ∧ mtaped.toInt ≤ 1600) (hh1 : 0 ≤ msize.toInt ∧ msize.toInt ≤ 1600) (hh2 : 0 ≤ mat.toInt ∧ mat.toInt ≤ 1600) (hh3 : 0 ≤ mend.toInt ∧ mend.toInt ≤ 1600) (hh4 : 0 ≤ mtoken.toInt ∧ mtoken.toInt ≤ 5) (hh18 : 0 ≤ mbank.toInt ∧ mbank.toInt ≤ 1) (hh19 : 0 ≤ mrb.toInt ∧ mrb.toInt ≤ 1) (hh20 : 0 ≤ mcodes.toInt ∧ mcodes.toInt ≤ 1120) (hh21 : 0 ≤ mpiled.toInt ∧ mpiled.toInt ≤ 90) (hh22 : 0 ≤ munitsInRule.toInt ∧ munitsInRule.toInt ≤ 30) (hh23 : Ia Fmall) (hh25 : 0 ≤ macts.toInt ∧ macts.toInt ≤ 40) (hh26 : 0 ≤ mundone.toInt ∧ mundone.toInt ≤ 40) (hh34 : 0 ≤ mstates.toInt ∧ mstates.toInt ≤ 3000) (hh35 : 0 ≤ mlevels.toInt ∧ mlevels.toInt ≤ 18) (hh36 : 0 ≤ mside0.toInt ∧ mside0.toInt ≤ 5) (hh37 : 0 ≤ mside1.toInt ∧ mside1.toInt ≤ 5) (hh38 : 0 ≤ mslotFound.toInt ∧ mslotFound.toInt ≤ 8191) (hh39 : 0 ≤ misSpent.toInt ∧ misSpent.toInt ≤ 1) (hh40 : 0 ≤ mlaid.toInt ∧ mlaid.toInt ≤ 16) (hh41 : 0 ≤ msights.toInt ∧ msights.toInt ≤ 30) (hh42 : 0 ≤ mtime.toInt ∧ mtime.toInt ≤ 100000) : Met l yX12_haveOpen (.code yX12_haveOpen cX12_haveOpen 4 (some .boolean) :: gT) ({ frames := 4, cells := 0, slots := 0, locals := 87 }) (va_Pc [.ref h, .int p0, .int p1] (Pst g sz [(h, .inr (12, [.ref mtape, .ref mtext, .int mtaped, .int msize, .int mfaultKind, .int mfaultPlace, .int mat, .int mend, .int mtoken, .int mnumber, .long mname, .ref mmen, .ref mkinds, .ref mreasons, .ref mtold, .ref munits, .ref mhonour, .ref mdraw, .ref mdies, .ref mcoin, .ref msonOf, .ref mkindOf, .ref mowner, .ref mfirst, .ref mlast, .ref mrent, .ref msort, .ref mduelOne, .ref mduelOther, .ref mduelOn, .ref mruleFrom, .ref mruleTo, .ref mhasHonour, .ref mhasDraw, .ref mmName, .ref mkName, .ref mrName, .ref mdName, .ref mcode, .ref mcodeNumber, .ref meWhat, .ref meSign, .ref mpile, .int mbank, .int mrb, .int mcodes, .int mwithin, .int mpiled, .int munitsInRule, .int maskDay, .int maskUses, .int maskSpent, .ref mall, .ref mwas, .int macts, .int mundone, .ref musedBy0, .ref musedBy1, .ref mmornings, .ref mcameFrom, .ref mcameBy, .ref mlevelAt, .ref mwins, .ref mslots, .ref mlevelOf, .ref mworthOf, .int mstates, .int mlevels, .int mside0, .int mside1, .int mdeathDay, .int maway, .int mhires, .int mhirer, .int mslotFound, .int misSpent, .int mfound, .int mlaid, .ref mlaidRow, .ref mgReason, .ref mgDay, .ref mgTold, .ref mgUntold, .int msights, .int mtime, .ref mboxAll, .ref misBoxed])), (mall, aI g 374 Fmall)] nX)) (va_Qi (fun (r : Int32) => fun (_ : Unit) => 0 ≤ r.toInt ∧ r.toInt ≤ 1) (Qst g [] sz (fun _ => [])) (va_A [] sz)) 0 0 (va_A [] sz) := by
  refine Met.ofW (cc := cX12_haveOpen) (maxL := 4) (ret := (some .boolean)) (by decide) rfl ?_
  intro p e s m args below meth c s₁ B hml hv
  obtain ⟨rfl, hsz, hP, hK, hD0, hX⟩ := hv
  have hx := B.exec
  have hb := B.bytes
  have hr := B.returns
  have hT : ∀ w ∈ gT, w.before _ s = true := fun w h => atoms_spec (ws := .code yX12_haveOpen cX12_haveOpen 4 (some .boolean) :: gT) B.pre w (List.mem_cons_of_mem _ h)
  have hown : s.vm.findClass RX12 = some m.cls := findClass_of_methodNamed B.named
  have hlocks := B.notSynchronized
  subst hsz
  have hD := hD0
  generalize hAe : va_A [] s.heap.size = A at ⊢
  have hA : ∀ q : Nat, s.heap.size ≤ q → A q := fun q h => by rw [← hAe]; exact Or.inr h
  have hS : va_S A s.heap s.heap [] := va_S.rf
  have hl := lv_entry ([.ref h, .int p0, .int p1]) (n := 4) (Nat.le_of_ble_eq_true rfl)
  rw [lg_entry_eq]
  generalize (lg_sl ([.ref h, .int p0, .int p1]) ++ List.replicate (4 - (lg_sl ([.ref h, .int p0, .int p1])).length) Slot.unset).toArray = ls at hl ⊢
  have hl : lv_has ls 4 [(0, .ref h), (1, .int p0), (2, .int p1)] := hl
  refine p_nH (fun H hH => ?_)
  have hP : va_P g.1 vwCl [(h, .inr (12, [.ref mtape, .ref mtext, .int mtaped, .int msize, .int mfaultKind, .int mfaultPlace, .int mat, .int mend, .int mtoken, .int mnumber, .long mname, .ref mmen, .ref mkinds, .ref mreasons, .ref mtold, .ref munits, .ref mhonour, .ref mdraw, .ref mdies, .ref mcoin, .ref msonOf, .ref mkindOf, .ref mowner, .ref mfirst, .ref mlast, .ref mrent, .ref msort, .ref mduelOne, .ref mduelOther, .ref mduelOn, .ref mruleFrom, .ref mruleTo, .ref mhasHonour, .ref mhasDraw, .ref mmName, .ref mkName, .ref mrName, .ref mdName, .ref mcode, .ref mcodeNumber, .ref meWhat, .ref meSign, .ref mpile, .int mbank, .int mrb, .int mcodes, .int mwithin, .int mpiled, .int munitsInRule, .int maskDay, .int maskUses, .int maskSpent, .ref mall, .ref mwas, .int macts, .int mundone, .ref musedBy0, .ref musedBy1, .ref mmornings, .ref mcameFrom, .ref mcameBy, .ref mlevelAt, .ref mwins, .ref mslots, .ref mlevelOf, .ref mworthOf, .int mstates, .int mlevels, .int mside0, .int mside1, .int mdeathDay, .int maway, .int mhires, .int mhirer, .int mslotFound, .int misSpent, .int mfound, .int mlaid, .ref mlaidRow, .ref mgReason, .ref mgDay, .ref mgTold, .ref mgUntold, .int msights, .int mtime, .ref mboxAll, .ref misBoxed])), (mall, aI g 374 Fmall)] H := by rw [hH]; exact hP
  have hS : va_S A s.heap H [] := by rw [hH]; exact hS
  refine lv_iconst (v := 0) hx hb dX12_haveOpen_0 (by decide) ?_
  refine lv_istore_n (lv' := [(3, .int 0), (0, .ref h), (1, .int p0), (2, .int p1)]) hx hb dX12_haveOpen_1 rfl hl (by decide) rfl (fun ls hl => ?_)
  refine k_floop 2 (fun n H locs ls => ∃ (L_1 : Int32), (0 ≤ L_1.toInt ∧ L_1.toInt ≤ 8) ∧ 8 - L_1.toInt ≤ (n : Int) ∧ va_P g.1 vwCl [(h, .inr (12, [.ref mtape, .ref mtext, .int mtaped, .int msize, .int mfaultKind, .int mfaultPlace, .int mat, .int mend, .int mtoken, .int mnumber, .long mname, .ref mmen, .ref mkinds, .ref mreasons, .ref mtold, .ref munits, .ref mhonour, .ref mdraw, .ref mdies, .ref mcoin, .ref msonOf, .ref mkindOf, .ref mowner, .ref mfirst, .ref mlast, .ref mrent, .ref msort, .ref mduelOne, .ref mduelOther, .ref mduelOn, .ref mruleFrom, .ref mruleTo, .ref mhasHonour, .ref mhasDraw, .ref mmName, .ref mkName, .ref mrName, .ref mdName, .ref mcode, .ref mcodeNumber, .ref meWhat, .ref meSign, .ref mpile, .int mbank, .int mrb, .int mcodes, .int mwithin, .int mpiled, .int munitsInRule, .int maskDay, .int maskUses, .int maskSpent, .ref mall, .ref mwas, .int macts, .int mundone, .ref musedBy0, .ref musedBy1, .ref mmornings, .ref mcameFrom, .ref mcameBy, .ref mlevelAt, .ref mwins, .ref mslots, .ref mlevelOf, .ref mworthOf, .int mstates, .int mlevels, .int mside0, .int mside1, .int mdeathDay, .int maway, .int mhires, .int mhirer, .int mslotFound, .int misSpent, .int mfound, .int mlaid, .ref mlaidRow, .ref mgReason, .ref mgDay, .ref mgTold, .ref mgUntold, .int msights, .int mtime, .ref mboxAll, .ref misBoxed])), (mall, aI g 374 Fmall)] H ∧ va_S A s.heap H locs ∧ lv_has ls 4 [(3, .int L_1), (0, .ref h), (1, .int p0), (2, .int p1)]) (fun n H locs ls hI ih => ?_) ((8 - 0 : Int)).toNat ⟨0, by decide, by have k0 : (0 : Int32).toInt = 0 := (by decide); omega, hP, hS, hl⟩
  refine hI.elim (fun L_1 hI => ?_)
  have g_2 := hI.1
  have hm_3 := hI.2.1
  have hP := hI.2.2.1
  have hS := hI.2.2.2.1
  have hl := hI.2.2.2.2
  clear hI
  refine lv_iload_n hx hb dX12_haveOpen_2 rfl (lv_at hl 0 rfl) ?_
  refine lv_aload_n hx hb dX12_haveOpen_3 rfl (lv_at hl 1 rfl) ?_
  refine va_get (D := g.1) (ci := 12) (v := .ref mall) (C := RX12) (T := TX12) (N := 87) hx hb hT inF_X12 hown hK.1 hP 0 rfl rfl 52 (by decide) (hT _ bw_832) (fun _ h9 => h9) rfl dX12_haveOpen_4 ?_
  refine lv_bipush (v := 70) hx hb dX12_haveOpen_7 (by decide) ?_
  have h_4 : vp_in 70 374 := vp_in_iff.mpr (by decide)
  refine va_iald hx hb hK.1 hP 1 1 rfl rfl (i := 70) h_4 dX12_haveOpen_9 ?_
  refine lv_topi (fun x_5 ex_5 => ?_)
  have cn_6 : (70 : Int32).toNatClampNeg = 70 := by decide
  have ux_5 := congrArg Int32.toInt ex_5
  have px_5 : In ((70 : Int32).toNatClampNeg % 374) x_5.toInt := Im.rd hh23 h_4 ex_5
  have fx_5 : 0 ≤ x_5.toInt ∧ x_5.toInt ≤ 8 := px_5.1 (by omega)
  refine lv_icmp_ge (tgt := 31) hx hb dX12_haveOpen_10 (by decide) (fun c_7 => ?_) (fun c_7 => ?_)
  · have f_8 := E_le (rfl : x_5.toInt = _) (rfl : L_1.toInt = _) c_7
    refine lv_iconst (v := 0) hx hb dX12_haveOpen_31 (by decide) ?_
    have hP9 : va_P g.1 vwCl [] H := hP.sub [] rfl
    have hD9 : va_D A [] := ⟨fun i j p q h => by simp at h, fun k q h => by simp at h⟩
    exact W.zret (v := 0) (ty := .boolean) hx hb hr rfl (fun t ht hW => ⟨⟨0, (), rfl, ⟨by decide, by decide⟩, by rw [ht]; exact hP9, by rw [hAe]; exact hD9⟩, hS.F ht⟩) hS.2.2 dX12_haveOpen_32
  · have f_9 := E_nle (rfl : x_5.toInt = _) (rfl : L_1.toInt = _) c_7
    refine lv_aload_n hx hb dX12_haveOpen_13 rfl (lv_at hl 1 rfl) ?_
    refine lv_iload_n hx hb dX12_haveOpen_14 rfl (lv_at hl 0 rfl) ?_
    refine lv_iload_n hx hb dX12_haveOpen_15 rfl (lv_at hl 2 rfl) ?_
    refine lv_iload_n hx hb dX12_haveOpen_16 rfl (lv_at hl 3 rfl) ?_
    refine k_iR (k_V (n := 3) ⟨hx, hb, hml, hown, hT⟩ hK hP hD [0, 1] rfl (by decide +kernel) (s_X12_doOppose l g H.size h mtape mtext mtaped msize mfaultKind mfaultPlace mat mend mtoken mnumber mname mmen mkinds mreasons mtold munits mhonour mdraw mdies mcoin msonOf mkindOf mowner mfirst mlast mrent msort mduelOne mduelOther mduelOn mruleFrom mruleTo mhasHonour mhasDraw mmName mkName mrName mdName mcode mcodeNumber meWhat meSign mpile mbank mrb mcodes mwithin mpiled munitsInRule maskDay maskUses maskSpent mall Fmall mwas macts mundone musedBy0 musedBy1 mmornings mcameFrom mcameBy mlevelAt mwins mslots mlevelOf mworthOf mstates mlevels mside0 mside1 mdeathDay maway mhires mhirer mslotFound misSpent mfound mlaid mlaidRow mgReason mgDay mgTold mgUntold msights mtime mboxAll misBoxed L_1 p0 p1 (by first | with_reducible assumption | omega) (by first | with_reducible assumption | omega) (by first | with_reducible assumption | omega) (by first | with_reducible assumption | omega) (by first | with_reducible assumption | omega) (by first | with_reducible assumption | omega) (by first | with_reducible assumption | omega) (by first | with_reducible assumption | omega) (by first | with_reducible assumption | omega) (by first | with_reducible assumption | omega) hh23 (by first | with_reducible assumption | omega) (by first | with_reducible assumption | omega) (by first | with_reducible assumption | omega) (by first | with_reducible assumption | omega) (by first | with_reducible assumption | omega) (by first | with_reducible assumption | omega) (by first | with_reducible assumption | omega) (by first | with_reducible assumption | omega) (by first | with_reducible assumption | omega) (by first | with_reducible assumption | omega) (by first | with_reducible assumption | omega)) (gV bw_941 bw_942 bw_943 bw_840 bw_940) rfl rfl (by decide +kernel) ⟨by decide, by decide⟩ (ci := 12) (q0 := 0) rfl rfl (fun _ _ _ _ _ => trivial) (fun _ _ _ => trivial) rfl rfl hl.1 (Nat.le_of_ble_eq_true rfl) dX12_haveOpen_17 ⟨by decide, by decide⟩) hP hS hA (fun r_10 _ H locs hw0 hP hS => ?_)
    have hw : 0 ≤ r_10.toInt ∧ r_10.toInt ≤ 1 := hw0
    clear hw0
    have w_11 := hw
    refine lv_if_eq (tgt := 25) hx hb dX12_haveOpen_20 (by decide) (fun c_12 => ?_) (fun c_12 => ?_)
    · have f_13 := E_eq (rfl : r_10.toInt = _) (by decide : (0 : Int32).toInt = 0) c_12
      obtain ⟨x_14, ex_14⟩ : ∃ y : Int32, y = L_1 + 1 := ⟨_, rfl⟩
      have fx_14 : x_14.toInt = L_1.toInt + 1 := by rw [ex_14]; exact I_add rfl (by decide) (by omega) (by omega)
      refine lv_iinc (v := x_14) (lv' := [(3, .int x_14), (0, .ref h), (1, .int p0), (2, .int p1)]) hx hb dX12_haveOpen_25 hl (k := 0) rfl (by rw [ex_14]; rfl) (by decide) rfl (fun ls hl => ?_)
      refine lv_goto (tgt := 2) hx hb dX12_haveOpen_28 (by decide) ?_
      exact ih (n - 1) (by omega) H locs ls ⟨x_14, (by first | with_reducible assumption | omega), by omega, hP.sub [0, 1] rfl, hS, lv_sub hl [0, 1, 2, 3] rfl⟩
    · have f_15 := E_ne (rfl : r_10.toInt = _) (by decide : (0 : Int32).toInt = 0) c_12
      refine lv_iconst (v := 1) hx hb dX12_haveOpen_23 (by decide) ?_
      have hP9 : va_P g.1 vwCl [] H := hP.sub [] rfl
      have hD9 : va_D A [] := ⟨fun i j p q h => by simp at h, fun k q h => by simp at h⟩
      exact W.zret (v := 1) (ty := .boolean) hx hb hr rfl (fun t ht hW => ⟨⟨1, (), rfl, ⟨by decide, by decide⟩, by rw [ht]; exact hP9, by rw [hAe]; exact hD9⟩, hS.F ht⟩) hS.2.2 dX12_haveOpen_24

theorem bw_945 : Cond.methodLink RX12 605 yX12_may ∈ gT := gT_tb 2015 (by decide +kernel) (by decide +kernel)
theorem bw_946 : Cond.instanceMethod yX12_may ∈ gT := gT_tb 1805 (by decide +kernel) (by decide +kernel)
theorem bw_947 : Cond.selects RX12 yX12_may yX12_may ∈ gT := gT_tb 1806 (by decide +kernel) (by decide +kernel)
theorem bw_948 : Cond.code yX12_his cX12_his 4 (some .int) ∈ gT := gT_tb 2014 (by decide +kernel) (by decide +kernel)
theorem dX12_his_0 : decode cX12_his 0 = .ok (.aload_n 0, 1) := by decide +kernel
theorem dX12_his_1 : decode cX12_his 1 = .ok (.iload_n 1, 1) := by decide +kernel
theorem dX12_his_2 : decode cX12_his 2 = .ok (.invokevirtual 437, 3) := by decide +kernel
theorem dX12_his_5 : decode cX12_his 5 = .ok (.ifCond .ne 5, 3) := by decide +kernel
theorem dX12_his_8 : decode cX12_his 8 = .ok (.iconst (-1), 1) := by decide +kernel
theorem dX12_his_9 : decode cX12_his 9 = .ok (.ireturn, 1) := by decide +kernel
theorem dX12_his_10 : decode cX12_his 10 = .ok (.iconst 0, 1) := by decide +kernel
theorem dX12_his_11 : decode cX12_his 11 = .ok (.istore_n 2, 1) := by decide +kernel
theorem dX12_his_12 : decode cX12_his 12 = .ok (.iconst 0, 1) := by decide +kernel
theorem dX12_his_13 : decode cX12_his 13 = .ok (.istore_n 3, 1) := by decide +kernel
theorem dX12_his_14 : decode cX12_his 14 = .ok (.iload_n 3, 1) := by decide +kernel
theorem dX12_his_15 : decode cX12_his 15 = .ok (.aload_n 0, 1) := by decide +kernel
theorem dX12_his_16 : decode cX12_his 16 = .ok (.getfield 119, 3) := by decide +kernel
theorem dX12_his_19 : decode cX12_his 19 = .ok (.bipush 70, 2) := by decide +kernel
theorem dX12_his_21 : decode cX12_his 21 = .ok (.iaload, 1) := by decide +kernel
theorem dX12_his_22 : decode cX12_his 22 = .ok (.if_icmp .ge 47, 3) := by decide +kernel
theorem dX12_his_25 : decode cX12_his 25 = .ok (.aload_n 0, 1) := by decide +kernel
theorem dX12_his_26 : decode cX12_his 26 = .ok (.iload_n 3, 1) := by decide +kernel
theorem dX12_his_27 : decode cX12_his 27 = .ok (.iconst 0, 1) := by decide +kernel
theorem dX12_his_28 : decode cX12_his 28 = .ok (.invokevirtual 418, 3) := by decide +kernel
theorem dX12_his_31 : decode cX12_his 31 = .ok (.iload_n 1, 1) := by decide +kernel
theorem dX12_his_32 : decode cX12_his 32 = .ok (.if_icmp .ne 12, 3) := by decide +kernel
theorem dX12_his_35 : decode cX12_his 35 = .ok (.iload_n 2, 1) := by decide +kernel
theorem dX12_his_36 : decode cX12_his 36 = .ok (.aload_n 0, 1) := by decide +kernel
theorem dX12_his_37 : decode cX12_his 37 = .ok (.iload_n 3, 1) := by decide +kernel
theorem dX12_his_38 : decode cX12_his 38 = .ok (.iconst 0, 1) := by decide +kernel
theorem dX12_his_39 : decode cX12_his 39 = .ok (.invokevirtual 605, 3) := by decide +kernel
theorem dX12_his_42 : decode cX12_his 42 = .ok (.ior, 1) := by decide +kernel
theorem dX12_his_43 : decode cX12_his 43 = .ok (.istore_n 2, 1) := by decide +kernel
theorem dX12_his_44 : decode cX12_his 44 = .ok (.aload_n 0, 1) := by decide +kernel
theorem dX12_his_45 : decode cX12_his 45 = .ok (.iload_n 3, 1) := by decide +kernel
theorem dX12_his_46 : decode cX12_his 46 = .ok (.iconst 1, 1) := by decide +kernel
theorem dX12_his_47 : decode cX12_his 47 = .ok (.invokevirtual 418, 3) := by decide +kernel
theorem dX12_his_50 : decode cX12_his 50 = .ok (.iload_n 1, 1) := by decide +kernel
theorem dX12_his_51 : decode cX12_his 51 = .ok (.if_icmp .ne 12, 3) := by decide +kernel
theorem dX12_his_54 : decode cX12_his 54 = .ok (.iload_n 2, 1) := by decide +kernel
theorem dX12_his_55 : decode cX12_his 55 = .ok (.aload_n 0, 1) := by decide +kernel
theorem dX12_his_56 : decode cX12_his 56 = .ok (.iload_n 3, 1) := by decide +kernel
theorem dX12_his_57 : decode cX12_his 57 = .ok (.iconst 1, 1) := by decide +kernel
theorem dX12_his_58 : decode cX12_his 58 = .ok (.invokevirtual 605, 3) := by decide +kernel
theorem dX12_his_61 : decode cX12_his 61 = .ok (.ior, 1) := by decide +kernel
theorem dX12_his_62 : decode cX12_his 62 = .ok (.istore_n 2, 1) := by decide +kernel
theorem dX12_his_63 : decode cX12_his 63 = .ok (.iinc 3 1, 3) := by decide +kernel
theorem dX12_his_66 : decode cX12_his 66 = .ok (.goto (-52), 3) := by decide +kernel
theorem dX12_his_69 : decode cX12_his 69 = .ok (.iload_n 2, 1) := by decide +kernel
theorem dX12_his_70 : decode cX12_his 70 = .ok (.ireturn, 1) := by decide +kernel
set_option maxHeartbeats 40000000 in
set_option maxRecDepth 100000 in
theorem s_X12_his (l : Launch) (g : GG) (sz : Nat) (h : Nat) (mtape : Nat) (mtext : Nat) (mtaped : Int32) (msize : Int32) (mfaultKind : Int32) (mfaultPlace : Int32) (mat : Int32) (mend : Int32) (mtoken : Int32) (mnumber : Int32) (mname : Int64) (mmen : Nat) (Fmmen : Nat → Int32) (mkinds : Nat) (mreasons : Nat) (Fmreasons : Nat → Int32) (mtold : Nat) (munits : Nat) (mhonour : Nat) (mdraw : Nat) (mdies : Nat) (mcoin : Nat) (msonOf : Nat) (mkindOf : Nat) (mowner : Nat) (Fmowner : Nat → Int32) (mfirst : Nat) (Fmfirst : Nat → Int32) (mlast : Nat) (Fmlast : Nat → Int32) (mrent : Nat) (msort : Nat) (Fmsort : Nat → Int32) (mduelOne : Nat) (mduelOther : Nat) (mduelOn : Nat) (mruleFrom : Nat) (mruleTo : Nat) (mhasHonour : Nat) (mhasDraw : Nat) (mmName : Nat) (mkName : Nat) (mrName : Nat) (mdName : Nat) (mcode : Nat) (mcodeNumber : Nat) (meWhat : Nat) (meSign : Nat) (mpile : Nat) (mbank : Int32) (mrb : Int32) (mcodes : Int32) (mwithin : Int32) (mpiled : Int32) (munitsInRule : Int32) (maskDay : Int32) (maskUses : Int32) (maskSpent : Int32) (mall : Nat) (Fmall : Nat → Int32) (mwas : Nat) (macts : Int32) (mundone : Int32) (musedBy0 : Nat) (musedBy1 : Nat) (mmornings : Nat) (mcameFrom : Nat) (mcameBy : Nat) (mlevelAt : Nat) (mwins : Nat) (mslots : Nat) (mlevelOf : Nat) (mworthOf : Nat) (mstates : Int32) (mlevels : Int32) (mside0 : Int32) (mside1 : Int32) (mdeathDay : Int32) (maway : Int32) (mhires : Int32) (mhirer : Int32) (mslotFound : Int32) (misSpent : Int32) (mfound : Int32) (mlaid : Int32) (mlaidRow : Nat) (mgReason : Nat) (mgDay : Nat) (mgTold : Nat) (mgUntold : Nat) (msights : Int32) (mtime : Int32) (mboxAll : Nat) (misBoxed : Nat) (p0 : Int32) (hh0 : 0 ≤ mtaped.toInt ∧ mtaped.toInt ≤ 1600) (hh1 : 0 ≤ msize.toInt ∧ msize.toInt ≤ 1600) (hh2 : 0 ≤ mat.toInt ∧ mat.toInt ≤ 1600) (hh3 : 0 ≤ mend.toInt ∧ mend.toInt ≤ 1600) (hh4 : 0 ≤ mtoken.toInt ∧ mtoken.toInt ≤ 5) (hh5 : Rg 2 0 6 Fmmen) (hh7 : Rg 2 0 8 Fmreasons) (hh13 : Rg 16 (-1) 5 Fmowner) (hh18 : 0 ≤ mbank.toInt ∧ mbank.toInt ≤ 1) (hh19 : 0 ≤ mrb.toInt ∧ mrb.toInt ≤ 1) (hh20 : 0 ≤ mcodes.toInt ∧ mcodes.toInt ≤ 1120) (hh21 : 0 ≤ mpiled.toInt ∧ mpiled.toInt ≤ 90) (hh22 : 0 ≤ munitsInRule.toInt ∧ munitsInRule.toInt ≤ 30) (hh23 : Ia Fmall) (hh25 : 0 ≤ macts.toInt ∧ macts.toInt ≤ 40) (hh26 : 0 ≤ mundone.toInt ∧ mundone.toInt ≤ 40) (hh34 : 0 ≤ mstates.toInt ∧ mstates.toInt ≤ 3000) (hh35 : 0 ≤ mlevels.toInt ∧ mlevels.toInt ≤ 18) (hh36 : 0 ≤ mside0.toInt ∧ mside0.toInt ≤ 5) (hh37 : 0 ≤ mside1.toInt ∧ mside1.toInt ≤ 5) (hh38 : 0 ≤ mslotFound.toInt ∧ mslotFound.toInt ≤ 8191) (hh39 : 0 ≤ misSpent.toInt ∧ misSpent.toInt ≤ 1) (hh40 : 0 ≤ mlaid.toInt ∧ mlaid.toInt ≤ 16) (hh41 : 0 ≤ msights.toInt ∧ msights.toInt ≤ 30) (hh42 : 0 ≤ mtime.toInt ∧ mtime.toInt ≤ 100000) : Met l yX12_his (.code yX12_his cX12_his 4 (some .int) :: gT) ({ frames := 5, cells := 0, slots := 0, locals := 112 }) (va_Pc [.ref h, .int p0] (Pst g sz [(h, .inr (12, [.ref mtape, .ref mtext, .int mtaped, .int msize, .int mfaultKind, .int mfaultPlace, .int mat, .int mend, .int mtoken, .int mnumber, .long mname, .ref mmen, .ref mkinds, .ref mreasons, .ref mtold, .ref munits, .ref mhonour, .ref mdraw, .ref mdies, .ref mcoin, .ref msonOf, .ref mkindOf, .ref mowner, .ref mfirst, .ref mlast, .ref mrent, .ref msort, .ref mduelOne, .ref mduelOther, .ref mduelOn, .ref mruleFrom, .ref mruleTo, .ref mhasHonour, .ref mhasDraw, .ref mmName, .ref mkName, .ref mrName, .ref mdName, .ref mcode, .ref mcodeNumber, .ref meWhat, .ref meSign, .ref mpile, .int mbank, .int mrb, .int mcodes, .int mwithin, .int mpiled, .int munitsInRule, .int maskDay, .int maskUses, .int maskSpent, .ref mall, .ref mwas, .int macts, .int mundone, .ref musedBy0, .ref musedBy1, .ref mmornings, .ref mcameFrom, .ref mcameBy, .ref mlevelAt, .ref mwins, .ref mslots, .ref mlevelOf, .ref mworthOf, .int mstates, .int mlevels, .int mside0, .int mside1, .int mdeathDay, .int maway, .int mhires, .int mhirer, .int mslotFound, .int misSpent, .int mfound, .int mlaid, .ref mlaidRow, .ref mgReason, .ref mgDay, .ref mgTold, .ref mgUntold, .int msights, .int mtime, .ref mboxAll, .ref misBoxed])), (mmen, aI g 2 Fmmen), (mreasons, aI g 2 Fmreasons), (mowner, aI g 16 Fmowner), (mfirst, aI g 16 Fmfirst), (mlast, aI g 16 Fmlast), (msort, aI g 16 Fmsort), (mall, aI g 374 Fmall)] nX)) (va_Qi (fun (r : Int32) => fun (_ : Unit) => True) (Qst g [] sz (fun _ => [])) (va_A [] sz)) 0 0 (va_A [] sz) := by
  refine Met.ofW (cc := cX12_his) (maxL := 4) (ret := (some .int)) (by decide) rfl ?_
  intro p e s m args below meth c s₁ B hml hv
  obtain ⟨rfl, hsz, hP, hK, hD0, hX⟩ := hv
  have hx := B.exec
  have hb := B.bytes
  have hr := B.returns
  have hT : ∀ w ∈ gT, w.before _ s = true := fun w h => atoms_spec (ws := .code yX12_his cX12_his 4 (some .int) :: gT) B.pre w (List.mem_cons_of_mem _ h)
  have hown : s.vm.findClass RX12 = some m.cls := findClass_of_methodNamed B.named
  have hlocks := B.notSynchronized
  subst hsz
  have hD := hD0
  generalize hAe : va_A [] s.heap.size = A at ⊢
  have hA : ∀ q : Nat, s.heap.size ≤ q → A q := fun q h => by rw [← hAe]; exact Or.inr h
  have hS : va_S A s.heap s.heap [] := va_S.rf
  have hl := lv_entry ([.ref h, .int p0]) (n := 4) (Nat.le_of_ble_eq_true rfl)
  rw [lg_entry_eq]
  generalize (lg_sl ([.ref h, .int p0]) ++ List.replicate (4 - (lg_sl ([.ref h, .int p0])).length) Slot.unset).toArray = ls at hl ⊢
  have hl : lv_has ls 4 [(0, .ref h), (1, .int p0)] := hl
  refine p_nH (fun H hH => ?_)
  have hP : va_P g.1 vwCl [(h, .inr (12, [.ref mtape, .ref mtext, .int mtaped, .int msize, .int mfaultKind, .int mfaultPlace, .int mat, .int mend, .int mtoken, .int mnumber, .long mname, .ref mmen, .ref mkinds, .ref mreasons, .ref mtold, .ref munits, .ref mhonour, .ref mdraw, .ref mdies, .ref mcoin, .ref msonOf, .ref mkindOf, .ref mowner, .ref mfirst, .ref mlast, .ref mrent, .ref msort, .ref mduelOne, .ref mduelOther, .ref mduelOn, .ref mruleFrom, .ref mruleTo, .ref mhasHonour, .ref mhasDraw, .ref mmName, .ref mkName, .ref mrName, .ref mdName, .ref mcode, .ref mcodeNumber, .ref meWhat, .ref meSign, .ref mpile, .int mbank, .int mrb, .int mcodes, .int mwithin, .int mpiled, .int munitsInRule, .int maskDay, .int maskUses, .int maskSpent, .ref mall, .ref mwas, .int macts, .int mundone, .ref musedBy0, .ref musedBy1, .ref mmornings, .ref mcameFrom, .ref mcameBy, .ref mlevelAt, .ref mwins, .ref mslots, .ref mlevelOf, .ref mworthOf, .int mstates, .int mlevels, .int mside0, .int mside1, .int mdeathDay, .int maway, .int mhires, .int mhirer, .int mslotFound, .int misSpent, .int mfound, .int mlaid, .ref mlaidRow, .ref mgReason, .ref mgDay, .ref mgTold, .ref mgUntold, .int msights, .int mtime, .ref mboxAll, .ref misBoxed])), (mmen, aI g 2 Fmmen), (mreasons, aI g 2 Fmreasons), (mowner, aI g 16 Fmowner), (mfirst, aI g 16 Fmfirst), (mlast, aI g 16 Fmlast), (msort, aI g 16 Fmsort), (mall, aI g 374 Fmall)] H := by rw [hH]; exact hP
  have hS : va_S A s.heap H [] := by rw [hH]; exact hS
  refine lv_aload_n hx hb dX12_his_0 rfl (lv_at hl 0 rfl) ?_
  refine lv_iload_n hx hb dX12_his_1 rfl (lv_at hl 1 rfl) ?_
  refine k_iR (k_V (n := 1) ⟨hx, hb, hml, hown, hT⟩ hK hP hD [0, 1] rfl (by decide +kernel) (s_X12_isMan l g H.size h mtape mtext mtaped msize mfaultKind mfaultPlace mat mend mtoken mnumber mname mmen Fmmen mkinds mreasons mtold munits mhonour mdraw mdies mcoin msonOf mkindOf mowner mfirst mlast mrent msort mduelOne mduelOther mduelOn mruleFrom mruleTo mhasHonour mhasDraw mmName mkName mrName mdName mcode mcodeNumber meWhat meSign mpile mbank mrb mcodes mwithin mpiled munitsInRule maskDay maskUses maskSpent mall mwas macts mundone musedBy0 musedBy1 mmornings mcameFrom mcameBy mlevelAt mwins mslots mlevelOf mworthOf mstates mlevels mside0 mside1 mdeathDay maway mhires mhirer mslotFound misSpent mfound mlaid mlaidRow mgReason mgDay mgTold mgUntold msights mtime mboxAll misBoxed p0 (by first | with_reducible assumption | omega) (by first | with_reducible assumption | omega) (by first | with_reducible assumption | omega) (by first | with_reducible assumption | omega) (by first | with_reducible assumption | omega) hh5 (by first | with_reducible assumption | omega) (by first | with_reducible assumption | omega) (by first | with_reducible assumption | omega) (by first | with_reducible assumption | omega) (by first | with_reducible assumption | omega) (by first | with_reducible assumption | omega) (by first | with_reducible assumption | omega) (by first | with_reducible assumption | omega) (by first | with_reducible assumption | omega) (by first | with_reducible assumption | omega) (by first | with_reducible assumption | omega) (by first | with_reducible assumption | omega) (by first | with_reducible assumption | omega) (by first | with_reducible assumption | omega) (by first | with_reducible assumption | omega) (by first | with_reducible assumption | omega)) (gV bw_910 bw_911 bw_912 bw_840 bw_829) rfl rfl (by decide +kernel) ⟨by decide, by decide⟩ (ci := 12) (q0 := 0) rfl rfl (fun _ _ _ _ _ => trivial) (fun _ _ _ => trivial) rfl rfl hl.1 (Nat.le_of_ble_eq_true rfl) dX12_his_2 ⟨by decide, by decide⟩) hP hS hA (fun r_1 _ H locs hw0 hP hS => ?_)
  have hw : (r_1 = 1 ∧ (0 ≤ p0.toInt ∧ p0.toInt < (Fmmen mbank.toNatClampNeg).toInt) ∧ (p0.toInt ≤ 5)) ∨ (r_1 = 0) := hw0
  clear hw0
  rcases hw with ⟨e_4, w_2, w_3⟩ | e_5
  · subst e_4
    refine lv_if_ne (tgt := 10) hx hb dX12_his_5 (by decide) (fun _ => ?_) (fun c9 => absurd c9 (by decide))
    refine lv_iconst (v := 0) hx hb dX12_his_10 (by decide) ?_
    refine lv_istore_n (lv' := [(2, .int 0), (0, .ref h), (1, .int p0)]) hx hb dX12_his_11 rfl hl (by decide) rfl (fun ls hl => ?_)
    refine lv_iconst (v := 0) hx hb dX12_his_12 (by decide) ?_
    refine lv_istore_n (lv' := [(3, .int 0), (2, .int 0), (0, .ref h), (1, .int p0)]) hx hb dX12_his_13 rfl hl (by decide) rfl (fun ls hl => ?_)
    refine k_floop 14 (fun n H locs ls => ∃ (L_6 : Int32) (L_7 : Int32), (0 ≤ L_6.toInt ∧ L_6.toInt ≤ 8) ∧ 8 - L_6.toInt ≤ (n : Int) ∧ va_P g.1 vwCl [(h, .inr (12, [.ref mtape, .ref mtext, .int mtaped, .int msize, .int mfaultKind, .int mfaultPlace, .int mat, .int mend, .int mtoken, .int mnumber, .long mname, .ref mmen, .ref mkinds, .ref mreasons, .ref mtold, .ref munits, .ref mhonour, .ref mdraw, .ref mdies, .ref mcoin, .ref msonOf, .ref mkindOf, .ref mowner, .ref mfirst, .ref mlast, .ref mrent, .ref msort, .ref mduelOne, .ref mduelOther, .ref mduelOn, .ref mruleFrom, .ref mruleTo, .ref mhasHonour, .ref mhasDraw, .ref mmName, .ref mkName, .ref mrName, .ref mdName, .ref mcode, .ref mcodeNumber, .ref meWhat, .ref meSign, .ref mpile, .int mbank, .int mrb, .int mcodes, .int mwithin, .int mpiled, .int munitsInRule, .int maskDay, .int maskUses, .int maskSpent, .ref mall, .ref mwas, .int macts, .int mundone, .ref musedBy0, .ref musedBy1, .ref mmornings, .ref mcameFrom, .ref mcameBy, .ref mlevelAt, .ref mwins, .ref mslots, .ref mlevelOf, .ref mworthOf, .int mstates, .int mlevels, .int mside0, .int mside1, .int mdeathDay, .int maway, .int mhires, .int mhirer, .int mslotFound, .int misSpent, .int mfound, .int mlaid, .ref mlaidRow, .ref mgReason, .ref mgDay, .ref mgTold, .ref mgUntold, .int msights, .int mtime, .ref mboxAll, .ref misBoxed])), (mmen, aI g 2 Fmmen), (mreasons, aI g 2 Fmreasons), (mowner, aI g 16 Fmowner), (mfirst, aI g 16 Fmfirst), (mlast, aI g 16 Fmlast), (msort, aI g 16 Fmsort), (mall, aI g 374 Fmall)] H ∧ va_S A s.heap H locs ∧ lv_has ls 4 [(3, .int L_6), (2, .int L_7), (0, .ref h), (1, .int p0)]) (fun n H locs ls hI ih => ?_) ((8 - 0 : Int)).toNat ⟨0, 0, by decide, by have k0 : (0 : Int32).toInt = 0 := (by decide); omega, hP, hS, hl⟩
    refine hI.elim (fun L_6 hI => hI.elim (fun L_7 hI => ?_))
    have g_8 := hI.1
    have hm_9 := hI.2.1
    have hP := hI.2.2.1
    have hS := hI.2.2.2.1
    have hl := hI.2.2.2.2
    clear hI
    refine lv_iload_n hx hb dX12_his_14 rfl (lv_at hl 0 rfl) ?_
    refine lv_aload_n hx hb dX12_his_15 rfl (lv_at hl 2 rfl) ?_
    refine va_get (D := g.1) (ci := 12) (v := .ref mall) (C := RX12) (T := TX12) (N := 87) hx hb hT inF_X12 hown hK.1 hP 0 rfl rfl 52 (by decide) (hT _ bw_832) (fun _ h9 => h9) rfl dX12_his_16 ?_
    refine lv_bipush (v := 70) hx hb dX12_his_19 (by decide) ?_
    have h_10 : vp_in 70 374 := vp_in_iff.mpr (by decide)
    refine va_iald hx hb hK.1 hP 7 1 rfl rfl (i := 70) h_10 dX12_his_21 ?_
    refine lv_topi (fun x_11 ex_11 => ?_)
    have cn_12 : (70 : Int32).toNatClampNeg = 70 := by decide
    have ux_11 := congrArg Int32.toInt ex_11
    have px_11 : In ((70 : Int32).toNatClampNeg % 374) x_11.toInt := Im.rd hh23 h_10 ex_11
    have fx_11 : 0 ≤ x_11.toInt ∧ x_11.toInt ≤ 8 := px_11.1 (by omega)
    refine lv_icmp_ge (tgt := 69) hx hb dX12_his_22 (by decide) (fun c_13 => ?_) (fun c_13 => ?_)
    · have f_14 := E_le (rfl : x_11.toInt = _) (rfl : L_6.toInt = _) c_13
      refine lv_iload_n hx hb dX12_his_69 rfl (lv_at hl 1 rfl) ?_
      have hP9 : va_P g.1 vwCl [] H := hP.sub [] rfl
      have hD9 : va_D A [] := ⟨fun i j p q h => by simp at h, fun k q h => by simp at h⟩
      exact W.iret (v := L_7) hx hb hr (fun t ht hW => ⟨⟨L_7, (), rfl, trivial, by rw [ht]; exact hP9, by rw [hAe]; exact hD9⟩, hS.F ht⟩) hS.2.2 dX12_his_70
    · have f_15 := E_nle (rfl : x_11.toInt = _) (rfl : L_6.toInt = _) c_13
      refine lv_aload_n hx hb dX12_his_25 rfl (lv_at hl 2 rfl) ?_
      refine lv_iload_n hx hb dX12_his_26 rfl (lv_at hl 0 rfl) ?_
      refine lv_iconst (v := 0) hx hb dX12_his_27 (by decide) ?_
      refine k_iR (k_V (n := 2) ⟨hx, hb, hml, hown, hT⟩ hK hP hD [0, 7] rfl (by decide +kernel) (s_X12_of_0 l g H.size h mtape mtext mtaped msize mfaultKind mfaultPlace mat mend mtoken mnumber mname mmen mkinds mreasons mtold munits mhonour mdraw mdies mcoin msonOf mkindOf mowner mfirst mlast mrent msort mduelOne mduelOther mduelOn mruleFrom mruleTo mhasHonour mhasDraw mmName mkName mrName mdName mcode mcodeNumber meWhat meSign mpile mbank mrb mcodes mwithin mpiled munitsInRule maskDay maskUses maskSpent mall Fmall mwas macts mundone musedBy0 musedBy1 mmornings mcameFrom mcameBy mlevelAt mwins mslots mlevelOf mworthOf mstates mlevels mside0 mside1 mdeathDay maway mhires mhirer mslotFound misSpent mfound mlaid mlaidRow mgReason mgDay mgTold mgUntold msights mtime mboxAll misBoxed L_6 (by first | with_reducible assumption | omega) (by first | with_reducible assumption | omega) (by first | with_reducible assumption | omega) (by first | with_reducible assumption | omega) (by first | with_reducible assumption | omega) (by first | with_reducible assumption | omega) (by first | with_reducible assumption | omega) (by first | with_reducible assumption | omega) (by first | with_reducible assumption | omega) (by first | with_reducible assumption | omega) hh23 (by first | with_reducible assumption | omega) (by first | with_reducible assumption | omega) (by first | with_reducible assumption | omega) (by first | with_reducible assumption | omega) (by first | with_reducible assumption | omega) (by first | with_reducible assumption | omega) (by first | with_reducible assumption | omega) (by first | with_reducible assumption | omega) (by first | with_reducible assumption | omega) (by first | with_reducible assumption | omega) (by first | with_reducible assumption | omega) (by first | with_reducible assumption | omega)) (gV bw_841 bw_842 bw_843 bw_840 bw_836) rfl rfl (by decide +kernel) ⟨by decide, by decide⟩ (ci := 12) (q0 := 0) rfl rfl (fun _ _ _ _ _ => trivial) (fun _ _ _ => trivial) rfl rfl hl.1 (Nat.le_of_ble_eq_true rfl) dX12_his_28 ⟨by decide, by decide⟩) hP hS hA (fun r_16 _ H locs hw0 hP hS => ?_)
      have hw : 0 ≤ r_16.toInt ∧ r_16.toInt ≤ 5 := hw0
      clear hw0
      have w_17 := hw
      refine lv_iload_n hx hb dX12_his_31 rfl (lv_at hl 3 rfl) ?_
      refine lv_icmp_ne (tgt := 44) hx hb dX12_his_32 (by decide) (fun c_18 => ?_) (fun c_18 => ?_)
      · have f_19 := E_ne (rfl : r_16.toInt = _) (rfl : p0.toInt = _) c_18
        refine lv_aload_n hx hb dX12_his_44 rfl (lv_at hl 2 rfl) ?_
        refine lv_iload_n hx hb dX12_his_45 rfl (lv_at hl 0 rfl) ?_
        refine lv_iconst (v := 1) hx hb dX12_his_46 (by decide) ?_
        refine k_iR (k_V (n := 2) ⟨hx, hb, hml, hown, hT⟩ hK hP hD [0, 7] rfl (by decide +kernel) (s_X12_of_1 l g H.size h mtape mtext mtaped msize mfaultKind mfaultPlace mat mend mtoken mnumber mname mmen mkinds mreasons mtold munits mhonour mdraw mdies mcoin msonOf mkindOf mowner mfirst mlast mrent msort mduelOne mduelOther mduelOn mruleFrom mruleTo mhasHonour mhasDraw mmName mkName mrName mdName mcode mcodeNumber meWhat meSign mpile mbank mrb mcodes mwithin mpiled munitsInRule maskDay maskUses maskSpent mall Fmall mwas macts mundone musedBy0 musedBy1 mmornings mcameFrom mcameBy mlevelAt mwins mslots mlevelOf mworthOf mstates mlevels mside0 mside1 mdeathDay maway mhires mhirer mslotFound misSpent mfound mlaid mlaidRow mgReason mgDay mgTold mgUntold msights mtime mboxAll misBoxed L_6 (by first | with_reducible assumption | omega) (by first | with_reducible assumption | omega) (by first | with_reducible assumption | omega) (by first | with_reducible assumption | omega) (by first | with_reducible assumption | omega) (by first | with_reducible assumption | omega) (by first | with_reducible assumption | omega) (by first | with_reducible assumption | omega) (by first | with_reducible assumption | omega) (by first | with_reducible assumption | omega) hh23 (by first | with_reducible assumption | omega) (by first | with_reducible assumption | omega) (by first | with_reducible assumption | omega) (by first | with_reducible assumption | omega) (by first | with_reducible assumption | omega) (by first | with_reducible assumption | omega) (by first | with_reducible assumption | omega) (by first | with_reducible assumption | omega) (by first | with_reducible assumption | omega) (by first | with_reducible assumption | omega) (by first | with_reducible assumption | omega) (by first | with_reducible assumption | omega)) (gV bw_841 bw_842 bw_843 bw_840 bw_836) rfl rfl (by decide +kernel) ⟨by decide, by decide⟩ (ci := 12) (q0 := 0) rfl rfl (fun _ _ _ _ _ => trivial) (fun _ _ _ => trivial) rfl rfl hl.1 (Nat.le_of_ble_eq_true rfl) dX12_his_47 ⟨by decide, by decide⟩) hP hS hA (fun r_20 _ H locs hw0 hP hS => ?_)
        have hw : 0 ≤ r_20.toInt ∧ r_20.toInt ≤ 5 := hw0
        clear hw0
        have w_21 := hw
        refine lv_iload_n hx hb dX12_his_50 rfl (lv_at hl 3 rfl) ?_
        refine lv_icmp_ne (tgt := 63) hx hb dX12_his_51 (by decide) (fun c_22 => ?_) (fun c_22 => ?_)
        · have f_23 := E_ne (rfl : r_20.toInt = _) (rfl : p0.toInt = _) c_22
          obtain ⟨x_24, ex_24⟩ : ∃ y : Int32, y = L_6 + 1 := ⟨_, rfl⟩
          have fx_24 : x_24.toInt = L_6.toInt + 1 := by rw [ex_24]; exact I_add rfl (by decide) (by omega) (by omega)
          refine lv_iinc (v := x_24) (lv' := [(3, .int x_24), (2, .int L_7), (0, .ref h), (1, .int p0)]) hx hb dX12_his_63 hl (k := 0) rfl (by rw [ex_24]; rfl) (by decide) rfl (fun ls hl => ?_)
          refine lv_goto (tgt := 14) hx hb dX12_his_66 (by decide) ?_
          exact ih (n - 1) (by omega) H locs ls ⟨x_24, L_7, (by first | with_reducible assumption | omega), by omega, hP.sub [0, 1, 2, 3, 4, 5, 6, 7] rfl, hS, lv_sub hl [0, 1, 2, 3] rfl⟩
        · have f_25 := E_eq (rfl : r_20.toInt = _) (rfl : p0.toInt = _) c_22
          refine lv_iload_n hx hb dX12_his_54 rfl (lv_at hl 1 rfl) ?_
          refine lv_aload_n hx hb dX12_his_55 rfl (lv_at hl 2 rfl) ?_
          refine lv_iload_n hx hb dX12_his_56 rfl (lv_at hl 0 rfl) ?_
          refine lv_iconst (v := 1) hx hb dX12_his_57 (by decide) ?_
          refine k_iR (k_V (n := 2) ⟨hx, hb, hml, hown, hT⟩ hK hP hD [0, 2, 3, 4, 5, 6, 7] rfl (by decide +kernel) (s_X12_may l g H.size h mtape mtext mtaped msize mfaultKind mfaultPlace mat mend mtoken mnumber mname mmen mkinds mreasons Fmreasons mtold munits mhonour mdraw mdies mcoin msonOf mkindOf mowner Fmowner mfirst Fmfirst mlast Fmlast mrent msort Fmsort mduelOne mduelOther mduelOn mruleFrom mruleTo mhasHonour mhasDraw mmName mkName mrName mdName mcode mcodeNumber meWhat meSign mpile mbank mrb mcodes mwithin mpiled munitsInRule maskDay maskUses maskSpent mall Fmall mwas macts mundone musedBy0 musedBy1 mmornings mcameFrom mcameBy mlevelAt mwins mslots mlevelOf mworthOf mstates mlevels mside0 mside1 mdeathDay maway mhires mhirer mslotFound misSpent mfound mlaid mlaidRow mgReason mgDay mgTold mgUntold msights mtime mboxAll misBoxed L_6 1 (by first | with_reducible assumption | omega) (by first | with_reducible assumption | omega) (by first | with_reducible assumption | omega) (by first | with_reducible assumption | omega) (by first | with_reducible assumption | omega) hh7 hh13 (by first | with_reducible assumption | omega) (by first | with_reducible assumption | omega) (by first | with_reducible assumption | omega) (by first | with_reducible assumption | omega) (by first | with_reducible assumption | omega) hh23 (by first | with_reducible assumption | omega) (by first | with_reducible assumption | omega) (by first | with_reducible assumption | omega) (by first | with_reducible assumption | omega) (by first | with_reducible assumption | omega) (by first | with_reducible assumption | omega) (by first | with_reducible assumption | omega) (by first | with_reducible assumption | omega) (by first | with_reducible assumption | omega) (by first | with_reducible assumption | omega) (by first | with_reducible assumption | omega)) (gV bw_945 bw_946 bw_947 bw_840 bw_934) rfl rfl (by decide +kernel) ⟨by decide, by decide⟩ (ci := 12) (q0 := 0) rfl rfl (fun _ _ _ _ _ => trivial) (fun _ _ _ => trivial) rfl rfl hl.1 (Nat.le_of_ble_eq_true rfl) dX12_his_58 ⟨by decide, by decide⟩) hP hS hA (fun r_26 _ H locs hw0 hP hS => ?_)
          refine lv_ior hx hb dX12_his_61 ?_
          refine lv_topi (fun x_27 ex_27 => ?_)
          refine lv_istore_n (lv' := [(2, .int x_27), (3, .int L_6), (0, .ref h), (1, .int p0)]) hx hb dX12_his_62 rfl hl (by decide) rfl (fun ls hl => ?_)
          obtain ⟨x_28, ex_28⟩ : ∃ y : Int32, y = L_6 + 1 := ⟨_, rfl⟩
          have fx_28 : x_28.toInt = L_6.toInt + 1 := by rw [ex_28]; exact I_add rfl (by decide) (by omega) (by omega)
          refine lv_iinc (v := x_28) (lv' := [(3, .int x_28), (2, .int x_27), (0, .ref h), (1, .int p0)]) hx hb dX12_his_63 hl (k := 1) rfl (by rw [ex_28]; rfl) (by decide) rfl (fun ls hl => ?_)
          refine lv_goto (tgt := 14) hx hb dX12_his_66 (by decide) ?_
          exact ih (n - 1) (by omega) H locs ls ⟨x_28, x_27, (by first | with_reducible assumption | omega), by omega, hP.sub [0, 1, 2, 3, 4, 5, 6, 7] rfl, hS, lv_sub hl [0, 1, 2, 3] rfl⟩
      · have f_29 := E_eq (rfl : r_16.toInt = _) (rfl : p0.toInt = _) c_18
        refine lv_iload_n hx hb dX12_his_35 rfl (lv_at hl 1 rfl) ?_
        refine lv_aload_n hx hb dX12_his_36 rfl (lv_at hl 2 rfl) ?_
        refine lv_iload_n hx hb dX12_his_37 rfl (lv_at hl 0 rfl) ?_
        refine lv_iconst (v := 0) hx hb dX12_his_38 (by decide) ?_
        refine k_iR (k_V (n := 2) ⟨hx, hb, hml, hown, hT⟩ hK hP hD [0, 2, 3, 4, 5, 6, 7] rfl (by decide +kernel) (s_X12_may l g H.size h mtape mtext mtaped msize mfaultKind mfaultPlace mat mend mtoken mnumber mname mmen mkinds mreasons Fmreasons mtold munits mhonour mdraw mdies mcoin msonOf mkindOf mowner Fmowner mfirst Fmfirst mlast Fmlast mrent msort Fmsort mduelOne mduelOther mduelOn mruleFrom mruleTo mhasHonour mhasDraw mmName mkName mrName mdName mcode mcodeNumber meWhat meSign mpile mbank mrb mcodes mwithin mpiled munitsInRule maskDay maskUses maskSpent mall Fmall mwas macts mundone musedBy0 musedBy1 mmornings mcameFrom mcameBy mlevelAt mwins mslots mlevelOf mworthOf mstates mlevels mside0 mside1 mdeathDay maway mhires mhirer mslotFound misSpent mfound mlaid mlaidRow mgReason mgDay mgTold mgUntold msights mtime mboxAll misBoxed L_6 0 (by first | with_reducible assumption | omega) (by first | with_reducible assumption | omega) (by first | with_reducible assumption | omega) (by first | with_reducible assumption | omega) (by first | with_reducible assumption | omega) hh7 hh13 (by first | with_reducible assumption | omega) (by first | with_reducible assumption | omega) (by first | with_reducible assumption | omega) (by first | with_reducible assumption | omega) (by first | with_reducible assumption | omega) hh23 (by first | with_reducible assumption | omega) (by first | with_reducible assumption | omega) (by first | with_reducible assumption | omega) (by first | with_reducible assumption | omega) (by first | with_reducible assumption | omega) (by first | with_reducible assumption | omega) (by first | with_reducible assumption | omega) (by first | with_reducible assumption | omega) (by first | with_reducible assumption | omega) (by first | with_reducible assumption | omega) (by first | with_reducible assumption | omega)) (gV bw_945 bw_946 bw_947 bw_840 bw_934) rfl rfl (by decide +kernel) ⟨by decide, by decide⟩ (ci := 12) (q0 := 0) rfl rfl (fun _ _ _ _ _ => trivial) (fun _ _ _ => trivial) rfl rfl hl.1 (Nat.le_of_ble_eq_true rfl) dX12_his_39 ⟨by decide, by decide⟩) hP hS hA (fun r_30 _ H locs hw0 hP hS => ?_)
        refine lv_ior hx hb dX12_his_42 ?_
        refine lv_topi (fun x_31 ex_31 => ?_)
        refine lv_istore_n (lv' := [(2, .int x_31), (3, .int L_6), (0, .ref h), (1, .int p0)]) hx hb dX12_his_43 rfl hl (by decide) rfl (fun ls hl => ?_)
        refine lv_aload_n hx hb dX12_his_44 rfl (lv_at hl 2 rfl) ?_
        refine lv_iload_n hx hb dX12_his_45 rfl (lv_at hl 1 rfl) ?_
        refine lv_iconst (v := 1) hx hb dX12_his_46 (by decide) ?_
        refine k_iR (k_V (n := 2) ⟨hx, hb, hml, hown, hT⟩ hK hP hD [0, 7] rfl (by decide +kernel) (s_X12_of_1 l g H.size h mtape mtext mtaped msize mfaultKind mfaultPlace mat mend mtoken mnumber mname mmen mkinds mreasons mtold munits mhonour mdraw mdies mcoin msonOf mkindOf mowner mfirst mlast mrent msort mduelOne mduelOther mduelOn mruleFrom mruleTo mhasHonour mhasDraw mmName mkName mrName mdName mcode mcodeNumber meWhat meSign mpile mbank mrb mcodes mwithin mpiled munitsInRule maskDay maskUses maskSpent mall Fmall mwas macts mundone musedBy0 musedBy1 mmornings mcameFrom mcameBy mlevelAt mwins mslots mlevelOf mworthOf mstates mlevels mside0 mside1 mdeathDay maway mhires mhirer mslotFound misSpent mfound mlaid mlaidRow mgReason mgDay mgTold mgUntold msights mtime mboxAll misBoxed L_6 (by first | with_reducible assumption | omega) (by first | with_reducible assumption | omega) (by first | with_reducible assumption | omega) (by first | with_reducible assumption | omega) (by first | with_reducible assumption | omega) (by first | with_reducible assumption | omega) (by first | with_reducible assumption | omega) (by first | with_reducible assumption | omega) (by first | with_reducible assumption | omega) (by first | with_reducible assumption | omega) hh23 (by first | with_reducible assumption | omega) (by first | with_reducible assumption | omega) (by first | with_reducible assumption | omega) (by first | with_reducible assumption | omega) (by first | with_reducible assumption | omega) (by first | with_reducible assumption | omega) (by first | with_reducible assumption | omega) (by first | with_reducible assumption | omega) (by first | with_reducible assumption | omega) (by first | with_reducible assumption | omega) (by first | with_reducible assumption | omega) (by first | with_reducible assumption | omega)) (gV bw_841 bw_842 bw_843 bw_840 bw_836) rfl rfl (by decide +kernel) ⟨by decide, by decide⟩ (ci := 12) (q0 := 0) rfl rfl (fun _ _ _ _ _ => trivial) (fun _ _ _ => trivial) rfl rfl hl.1 (Nat.le_of_ble_eq_true rfl) dX12_his_47 ⟨by decide, by decide⟩) hP hS hA (fun r_32 _ H locs hw0 hP hS => ?_)
        have hw : 0 ≤ r_32.toInt ∧ r_32.toInt ≤ 5 := hw0
        clear hw0
        have w_33 := hw
        refine lv_iload_n hx hb dX12_his_50 rfl (lv_at hl 3 rfl) ?_
        refine lv_icmp_ne (tgt := 63) hx hb dX12_his_51 (by decide) (fun c_34 => ?_) (fun c_34 => ?_)
        · have f_35 := E_ne (rfl : r_32.toInt = _) (rfl : p0.toInt = _) c_34
          obtain ⟨x_36, ex_36⟩ : ∃ y : Int32, y = L_6 + 1 := ⟨_, rfl⟩
          have fx_36 : x_36.toInt = L_6.toInt + 1 := by rw [ex_36]; exact I_add rfl (by decide) (by omega) (by omega)
          refine lv_iinc (v := x_36) (lv' := [(3, .int x_36), (2, .int x_31), (0, .ref h), (1, .int p0)]) hx hb dX12_his_63 hl (k := 1) rfl (by rw [ex_36]; rfl) (by decide) rfl (fun ls hl => ?_)
          refine lv_goto (tgt := 14) hx hb dX12_his_66 (by decide) ?_
          exact ih (n - 1) (by omega) H locs ls ⟨x_36, x_31, (by first | with_reducible assumption | omega), by omega, hP.sub [0, 1, 2, 3, 4, 5, 6, 7] rfl, hS, lv_sub hl [0, 1, 2, 3] rfl⟩
        · have f_37 := E_eq (rfl : r_32.toInt = _) (rfl : p0.toInt = _) c_34
          refine lv_iload_n hx hb dX12_his_54 rfl (lv_at hl 0 rfl) ?_
          refine lv_aload_n hx hb dX12_his_55 rfl (lv_at hl 2 rfl) ?_
          refine lv_iload_n hx hb dX12_his_56 rfl (lv_at hl 1 rfl) ?_
          refine lv_iconst (v := 1) hx hb dX12_his_57 (by decide) ?_
          refine k_iR (k_V (n := 2) ⟨hx, hb, hml, hown, hT⟩ hK hP hD [0, 2, 3, 4, 5, 6, 7] rfl (by decide +kernel) (s_X12_may l g H.size h mtape mtext mtaped msize mfaultKind mfaultPlace mat mend mtoken mnumber mname mmen mkinds mreasons Fmreasons mtold munits mhonour mdraw mdies mcoin msonOf mkindOf mowner Fmowner mfirst Fmfirst mlast Fmlast mrent msort Fmsort mduelOne mduelOther mduelOn mruleFrom mruleTo mhasHonour mhasDraw mmName mkName mrName mdName mcode mcodeNumber meWhat meSign mpile mbank mrb mcodes mwithin mpiled munitsInRule maskDay maskUses maskSpent mall Fmall mwas macts mundone musedBy0 musedBy1 mmornings mcameFrom mcameBy mlevelAt mwins mslots mlevelOf mworthOf mstates mlevels mside0 mside1 mdeathDay maway mhires mhirer mslotFound misSpent mfound mlaid mlaidRow mgReason mgDay mgTold mgUntold msights mtime mboxAll misBoxed L_6 1 (by first | with_reducible assumption | omega) (by first | with_reducible assumption | omega) (by first | with_reducible assumption | omega) (by first | with_reducible assumption | omega) (by first | with_reducible assumption | omega) hh7 hh13 (by first | with_reducible assumption | omega) (by first | with_reducible assumption | omega) (by first | with_reducible assumption | omega) (by first | with_reducible assumption | omega) (by first | with_reducible assumption | omega) hh23 (by first | with_reducible assumption | omega) (by first | with_reducible assumption | omega) (by first | with_reducible assumption | omega) (by first | with_reducible assumption | omega) (by first | with_reducible assumption | omega) (by first | with_reducible assumption | omega) (by first | with_reducible assumption | omega) (by first | with_reducible assumption | omega) (by first | with_reducible assumption | omega) (by first | with_reducible assumption | omega) (by first | with_reducible assumption | omega)) (gV bw_945 bw_946 bw_947 bw_840 bw_934) rfl rfl (by decide +kernel) ⟨by decide, by decide⟩ (ci := 12) (q0 := 0) rfl rfl (fun _ _ _ _ _ => trivial) (fun _ _ _ => trivial) rfl rfl hl.1 (Nat.le_of_ble_eq_true rfl) dX12_his_58 ⟨by decide, by decide⟩) hP hS hA (fun r_38 _ H locs hw0 hP hS => ?_)
          refine lv_ior hx hb dX12_his_61 ?_
          refine lv_topi (fun x_39 ex_39 => ?_)
          refine lv_istore_n (lv' := [(2, .int x_39), (3, .int L_6), (0, .ref h), (1, .int p0)]) hx hb dX12_his_62 rfl hl (by decide) rfl (fun ls hl => ?_)
          obtain ⟨x_40, ex_40⟩ : ∃ y : Int32, y = L_6 + 1 := ⟨_, rfl⟩
          have fx_40 : x_40.toInt = L_6.toInt + 1 := by rw [ex_40]; exact I_add rfl (by decide) (by omega) (by omega)
          refine lv_iinc (v := x_40) (lv' := [(3, .int x_40), (2, .int x_39), (0, .ref h), (1, .int p0)]) hx hb dX12_his_63 hl (k := 1) rfl (by rw [ex_40]; rfl) (by decide) rfl (fun ls hl => ?_)
          refine lv_goto (tgt := 14) hx hb dX12_his_66 (by decide) ?_
          exact ih (n - 1) (by omega) H locs ls ⟨x_40, x_39, (by first | with_reducible assumption | omega), by omega, hP.sub [0, 1, 2, 3, 4, 5, 6, 7] rfl, hS, lv_sub hl [0, 1, 2, 3] rfl⟩
  · subst e_5
    refine lv_if_ne (tgt := 10) hx hb dX12_his_5 (by decide) (fun c9 => absurd (by decide) c9) (fun _ => ?_)
    refine lv_iconst (v := (-1)) hx hb dX12_his_8 (by decide) ?_
    have hP9 : va_P g.1 vwCl [] H := hP.sub [] rfl
    have hD9 : va_D A [] := ⟨fun i j p q h => by simp at h, fun k q h => by simp at h⟩
    exact W.iret (v := (-1)) hx hb hr (fun t ht hW => ⟨⟨(-1), (), rfl, trivial, by rw [ht]; exact hP9, by rw [hAe]; exact hD9⟩, hS.F ht⟩) hS.2.2 dX12_his_9

theorem bw_949 : Cond.code yX12_next cX12_next 4 (some .int) ∈ gT := gT_tb 2006 (by decide +kernel) (by decide +kernel)
theorem dX12_next_0 : decode cX12_next 0 = .ok (.iload_n 1, 1) := by decide +kernel
theorem dX12_next_1 : decode cX12_next 1 = .ok (.iconst 0, 1) := by decide +kernel
theorem dX12_next_2 : decode cX12_next 2 = .ok (.iconst 1, 1) := by decide +kernel
theorem dX12_next_3 : decode cX12_next 3 = .ok (.invokestatic 411, 3) := by decide +kernel
theorem dX12_next_6 : decode cX12_next 6 = .ok (.ifCond .ne 5, 3) := by decide +kernel
theorem dX12_next_9 : decode cX12_next 9 = .ok (.iconst (-1), 1) := by decide +kernel
theorem dX12_next_10 : decode cX12_next 10 = .ok (.ireturn, 1) := by decide +kernel
theorem dX12_next_11 : decode cX12_next 11 = .ok (.iconst (-1), 1) := by decide +kernel
theorem dX12_next_12 : decode cX12_next 12 = .ok (.istore_n 2, 1) := by decide +kernel
theorem dX12_next_13 : decode cX12_next 13 = .ok (.iconst 0, 1) := by decide +kernel
theorem dX12_next_14 : decode cX12_next 14 = .ok (.istore_n 3, 1) := by decide +kernel
theorem dX12_next_15 : decode cX12_next 15 = .ok (.iload_n 3, 1) := by decide +kernel
theorem dX12_next_16 : decode cX12_next 16 = .ok (.aload_n 0, 1) := by decide +kernel
theorem dX12_next_17 : decode cX12_next 17 = .ok (.getfield 119, 3) := by decide +kernel
theorem dX12_next_20 : decode cX12_next 20 = .ok (.bipush 70, 2) := by decide +kernel
theorem dX12_next_22 : decode cX12_next 22 = .ok (.iaload, 1) := by decide +kernel
theorem dX12_next_23 : decode cX12_next 23 = .ok (.if_icmp .ge 38, 3) := by decide +kernel
theorem dX12_next_26 : decode cX12_next 26 = .ok (.aload_n 0, 1) := by decide +kernel
theorem dX12_next_27 : decode cX12_next 27 = .ok (.iload_n 3, 1) := by decide +kernel
theorem dX12_next_28 : decode cX12_next 28 = .ok (.invokevirtual 461, 3) := by decide +kernel
theorem dX12_next_31 : decode cX12_next 31 = .ok (.ifCond .eq 24, 3) := by decide +kernel
theorem dX12_next_34 : decode cX12_next 34 = .ok (.iload_n 2, 1) := by decide +kernel
theorem dX12_next_35 : decode cX12_next 35 = .ok (.ifCond .lt 18, 3) := by decide +kernel
theorem dX12_next_38 : decode cX12_next 38 = .ok (.aload_n 0, 1) := by decide +kernel
theorem dX12_next_39 : decode cX12_next 39 = .ok (.iload_n 3, 1) := by decide +kernel
theorem dX12_next_40 : decode cX12_next 40 = .ok (.iconst 2, 1) := by decide +kernel
theorem dX12_next_41 : decode cX12_next 41 = .ok (.invokevirtual 418, 3) := by decide +kernel
theorem dX12_next_44 : decode cX12_next 44 = .ok (.aload_n 0, 1) := by decide +kernel
theorem dX12_next_45 : decode cX12_next 45 = .ok (.iload_n 2, 1) := by decide +kernel
theorem dX12_next_46 : decode cX12_next 46 = .ok (.iconst 2, 1) := by decide +kernel
theorem dX12_next_47 : decode cX12_next 47 = .ok (.invokevirtual 418, 3) := by decide +kernel
theorem dX12_next_50 : decode cX12_next 50 = .ok (.if_icmp .ge 5, 3) := by decide +kernel
theorem dX12_next_53 : decode cX12_next 53 = .ok (.iload_n 3, 1) := by decide +kernel
theorem dX12_next_54 : decode cX12_next 54 = .ok (.istore_n 2, 1) := by decide +kernel
theorem dX12_next_55 : decode cX12_next 55 = .ok (.iinc 3 1, 3) := by decide +kernel
theorem dX12_next_58 : decode cX12_next 58 = .ok (.goto (-43), 3) := by decide +kernel
theorem dX12_next_61 : decode cX12_next 61 = .ok (.iload_n 2, 1) := by decide +kernel
theorem dX12_next_62 : decode cX12_next 62 = .ok (.ifCond .ge 7, 3) := by decide +kernel
theorem dX12_next_65 : decode cX12_next 65 = .ok (.iconst (-1), 1) := by decide +kernel
theorem dX12_next_66 : decode cX12_next 66 = .ok (.goto 17, 3) := by decide +kernel
theorem dX12_next_69 : decode cX12_next 69 = .ok (.iload_n 1, 1) := by decide +kernel
theorem dX12_next_70 : decode cX12_next 70 = .ok (.ifCond .ne 12, 3) := by decide +kernel
theorem dX12_next_73 : decode cX12_next 73 = .ok (.aload_n 0, 1) := by decide +kernel
theorem dX12_next_74 : decode cX12_next 74 = .ok (.iload_n 2, 1) := by decide +kernel
theorem dX12_next_75 : decode cX12_next 75 = .ok (.iconst 2, 1) := by decide +kernel
theorem dX12_next_76 : decode cX12_next 76 = .ok (.invokevirtual 418, 3) := by decide +kernel
theorem dX12_next_79 : decode cX12_next 79 = .ok (.goto 4, 3) := by decide +kernel
theorem dX12_next_82 : decode cX12_next 82 = .ok (.iload_n 2, 1) := by decide +kernel
theorem dX12_next_83 : decode cX12_next 83 = .ok (.ireturn, 1) := by decide +kernel
set_option maxHeartbeats 40000000 in
set_option maxRecDepth 100000 in
theorem s_X12_next (l : Launch) (g : GG) (sz : Nat) (h : Nat) (mtape : Nat) (mtext : Nat) (mtaped : Int32) (msize : Int32) (mfaultKind : Int32) (mfaultPlace : Int32) (mat : Int32) (mend : Int32) (mtoken : Int32) (mnumber : Int32) (mname : Int64) (mmen : Nat) (mkinds : Nat) (mreasons : Nat) (mtold : Nat) (munits : Nat) (mhonour : Nat) (mdraw : Nat) (mdies : Nat) (mcoin : Nat) (msonOf : Nat) (mkindOf : Nat) (mowner : Nat) (mfirst : Nat) (mlast : Nat) (mrent : Nat) (msort : Nat) (mduelOne : Nat) (mduelOther : Nat) (mduelOn : Nat) (mruleFrom : Nat) (mruleTo : Nat) (mhasHonour : Nat) (mhasDraw : Nat) (mmName : Nat) (mkName : Nat) (mrName : Nat) (mdName : Nat) (mcode : Nat) (mcodeNumber : Nat) (meWhat : Nat) (meSign : Nat) (mpile : Nat) (mbank : Int32) (mrb : Int32) (mcodes : Int32) (mwithin : Int32) (mpiled : Int32) (munitsInRule : Int32) (maskDay : Int32) (maskUses : Int32) (maskSpent : Int32) (mall : Nat) (Fmall : Nat → Int32) (mwas : Nat) (macts : Int32) (mundone : Int32) (musedBy0 : Nat) (musedBy1 : Nat) (mmornings : Nat) (mcameFrom : Nat) (mcameBy : Nat) (mlevelAt : Nat) (mwins : Nat) (mslots : Nat) (mlevelOf : Nat) (mworthOf : Nat) (mstates : Int32) (mlevels : Int32) (mside0 : Int32) (mside1 : Int32) (mdeathDay : Int32) (maway : Int32) (mhires : Int32) (mhirer : Int32) (mslotFound : Int32) (misSpent : Int32) (mfound : Int32) (mlaid : Int32) (mlaidRow : Nat) (mgReason : Nat) (mgDay : Nat) (mgTold : Nat) (mgUntold : Nat) (msights : Int32) (mtime : Int32) (mboxAll : Nat) (misBoxed : Nat) (p0 : Int32) (hh0 : 0 ≤ mtaped.toInt ∧ mtaped.toInt ≤ 1600) (hh1 : 0 ≤ msize.toInt ∧ msize.toInt ≤ 1600) (hh2 : 0 ≤ mat.toInt ∧ mat.toInt ≤ 1600) (hh3 : 0 ≤ mend.toInt ∧ mend.toInt ≤ 1600) (hh4 : 0 ≤ mtoken.toInt ∧ mtoken.toInt ≤ 5) (hh18 : 0 ≤ mbank.toInt ∧ mbank.toInt ≤ 1) (hh19 : 0 ≤ mrb.toInt ∧ mrb.toInt ≤ 1) (hh20 : 0 ≤ mcodes.toInt ∧ mcodes.toInt ≤ 1120) (hh21 : 0 ≤ mpiled.toInt ∧ mpiled.toInt ≤ 90) (hh22 : 0 ≤ munitsInRule.toInt ∧ munitsInRule.toInt ≤ 30) (hh23 : Ia Fmall) (hh25 : 0 ≤ macts.toInt ∧ macts.toInt ≤ 40) (hh26 : 0 ≤ mundone.toInt ∧ mundone.toInt ≤ 40) (hh34 : 0 ≤ mstates.toInt ∧ mstates.toInt ≤ 3000) (hh35 : 0 ≤ mlevels.toInt ∧ mlevels.toInt ≤ 18) (hh36 : 0 ≤ mside0.toInt ∧ mside0.toInt ≤ 5) (hh37 : 0 ≤ mside1.toInt ∧ mside1.toInt ≤ 5) (hh38 : 0 ≤ mslotFound.toInt ∧ mslotFound.toInt ≤ 8191) (hh39 : 0 ≤ misSpent.toInt ∧ misSpent.toInt ≤ 1) (hh40 : 0 ≤ mlaid.toInt ∧ mlaid.toInt ≤ 16) (hh41 : 0 ≤ msights.toInt ∧ msights.toInt ≤ 30) (hh42 : 0 ≤ mtime.toInt ∧ mtime.toInt ≤ 100000) : Met l yX12_next (.code yX12_next cX12_next 4 (some .int) :: gT) ({ frames := 3, cells := 0, slots := 0, locals := 64 }) (va_Pc [.ref h, .int p0] (Pst g sz [(h, .inr (12, [.ref mtape, .ref mtext, .int mtaped, .int msize, .int mfaultKind, .int mfaultPlace, .int mat, .int mend, .int mtoken, .int mnumber, .long mname, .ref mmen, .ref mkinds, .ref mreasons, .ref mtold, .ref munits, .ref mhonour, .ref mdraw, .ref mdies, .ref mcoin, .ref msonOf, .ref mkindOf, .ref mowner, .ref mfirst, .ref mlast, .ref mrent, .ref msort, .ref mduelOne, .ref mduelOther, .ref mduelOn, .ref mruleFrom, .ref mruleTo, .ref mhasHonour, .ref mhasDraw, .ref mmName, .ref mkName, .ref mrName, .ref mdName, .ref mcode, .ref mcodeNumber, .ref meWhat, .ref meSign, .ref mpile, .int mbank, .int mrb, .int mcodes, .int mwithin, .int mpiled, .int munitsInRule, .int maskDay, .int maskUses, .int maskSpent, .ref mall, .ref mwas, .int macts, .int mundone, .ref musedBy0, .ref musedBy1, .ref mmornings, .ref mcameFrom, .ref mcameBy, .ref mlevelAt, .ref mwins, .ref mslots, .ref mlevelOf, .ref mworthOf, .int mstates, .int mlevels, .int mside0, .int mside1, .int mdeathDay, .int maway, .int mhires, .int mhirer, .int mslotFound, .int misSpent, .int mfound, .int mlaid, .ref mlaidRow, .ref mgReason, .ref mgDay, .ref mgTold, .ref mgUntold, .int msights, .int mtime, .ref mboxAll, .ref misBoxed])), (mall, aI g 374 Fmall)] nX)) (va_Qi (fun (r : Int32) => fun (_ : Unit) => True) (Qst g [] sz (fun _ => [])) (va_A [] sz)) 0 0 (va_A [] sz) := by
  refine Met.ofW (cc := cX12_next) (maxL := 4) (ret := (some .int)) (by decide) rfl ?_
  intro p e s m args below meth c s₁ B hml hv
  obtain ⟨rfl, hsz, hP, hK, hD0, hX⟩ := hv
  have hx := B.exec
  have hb := B.bytes
  have hr := B.returns
  have hT : ∀ w ∈ gT, w.before _ s = true := fun w h => atoms_spec (ws := .code yX12_next cX12_next 4 (some .int) :: gT) B.pre w (List.mem_cons_of_mem _ h)
  have hown : s.vm.findClass RX12 = some m.cls := findClass_of_methodNamed B.named
  have hlocks := B.notSynchronized
  subst hsz
  have hD := hD0
  generalize hAe : va_A [] s.heap.size = A at ⊢
  have hA : ∀ q : Nat, s.heap.size ≤ q → A q := fun q h => by rw [← hAe]; exact Or.inr h
  have hS : va_S A s.heap s.heap [] := va_S.rf
  have hl := lv_entry ([.ref h, .int p0]) (n := 4) (Nat.le_of_ble_eq_true rfl)
  rw [lg_entry_eq]
  generalize (lg_sl ([.ref h, .int p0]) ++ List.replicate (4 - (lg_sl ([.ref h, .int p0])).length) Slot.unset).toArray = ls at hl ⊢
  have hl : lv_has ls 4 [(0, .ref h), (1, .int p0)] := hl
  refine p_nH (fun H hH => ?_)
  have hP : va_P g.1 vwCl [(h, .inr (12, [.ref mtape, .ref mtext, .int mtaped, .int msize, .int mfaultKind, .int mfaultPlace, .int mat, .int mend, .int mtoken, .int mnumber, .long mname, .ref mmen, .ref mkinds, .ref mreasons, .ref mtold, .ref munits, .ref mhonour, .ref mdraw, .ref mdies, .ref mcoin, .ref msonOf, .ref mkindOf, .ref mowner, .ref mfirst, .ref mlast, .ref mrent, .ref msort, .ref mduelOne, .ref mduelOther, .ref mduelOn, .ref mruleFrom, .ref mruleTo, .ref mhasHonour, .ref mhasDraw, .ref mmName, .ref mkName, .ref mrName, .ref mdName, .ref mcode, .ref mcodeNumber, .ref meWhat, .ref meSign, .ref mpile, .int mbank, .int mrb, .int mcodes, .int mwithin, .int mpiled, .int munitsInRule, .int maskDay, .int maskUses, .int maskSpent, .ref mall, .ref mwas, .int macts, .int mundone, .ref musedBy0, .ref musedBy1, .ref mmornings, .ref mcameFrom, .ref mcameBy, .ref mlevelAt, .ref mwins, .ref mslots, .ref mlevelOf, .ref mworthOf, .int mstates, .int mlevels, .int mside0, .int mside1, .int mdeathDay, .int maway, .int mhires, .int mhirer, .int mslotFound, .int misSpent, .int mfound, .int mlaid, .ref mlaidRow, .ref mgReason, .ref mgDay, .ref mgTold, .ref mgUntold, .int msights, .int mtime, .ref mboxAll, .ref misBoxed])), (mall, aI g 374 Fmall)] H := by rw [hH]; exact hP
  have hS : va_S A s.heap H [] := by rw [hH]; exact hS
  refine lv_iload_n hx hb dX12_next_0 rfl (lv_at hl 1 rfl) ?_
  refine lv_iconst (v := 0) hx hb dX12_next_1 (by decide) ?_
  refine lv_iconst (v := 1) hx hb dX12_next_2 (by decide) ?_
  refine k_iR (k_S (n := 3) ⟨hx, hb, hml, hown, hT⟩ hK hP hD [] rfl (by decide +kernel) (s_X12_isIn l g H.size p0 0 1) (gS bw_826 bw_827 bw_828 bw_817) rfl rfl (by decide +kernel) ⟨by decide, by decide⟩ (fun _ _ _ _ _ => trivial) (fun _ _ _ => trivial) rfl rfl hl.1 (Nat.le_of_ble_eq_true rfl) dX12_next_3 ⟨by decide, by decide⟩) hP hS hA (fun r_1 _ H locs hw0 hP hS => ?_)
  have hw : (r_1 = 1 ∧ (0 ≤ p0.toInt ∧ p0.toInt ≤ 1)) ∨ (r_1 = 0 ∧ (p0.toInt < 0 ∨ 1 < p0.toInt)) := hw0
  clear hw0
  rcases hw with ⟨e_3, w_2⟩ | ⟨e_5, w_4⟩
  · subst e_3
    refine lv_if_ne (tgt := 11) hx hb dX12_next_6 (by decide) (fun _ => ?_) (fun c9 => absurd c9 (by decide))
    refine lv_iconst (v := (-1)) hx hb dX12_next_11 (by decide) ?_
    refine lv_istore_n (lv' := [(2, .int (-1)), (0, .ref h), (1, .int p0)]) hx hb dX12_next_12 rfl hl (by decide) rfl (fun ls hl => ?_)
    refine lv_iconst (v := 0) hx hb dX12_next_13 (by decide) ?_
    refine lv_istore_n (lv' := [(3, .int 0), (2, .int (-1)), (0, .ref h), (1, .int p0)]) hx hb dX12_next_14 rfl hl (by decide) rfl (fun ls hl => ?_)
    refine k_floop 15 (fun n H locs ls => ∃ (L_6 : Int32) (L_7 : Int32), (0 ≤ L_6.toInt ∧ L_6.toInt ≤ 8) ∧ ((-1) ≤ L_7.toInt ∧ L_7.toInt ≤ 7) ∧ 8 - L_6.toInt ≤ (n : Int) ∧ va_P g.1 vwCl [(h, .inr (12, [.ref mtape, .ref mtext, .int mtaped, .int msize, .int mfaultKind, .int mfaultPlace, .int mat, .int mend, .int mtoken, .int mnumber, .long mname, .ref mmen, .ref mkinds, .ref mreasons, .ref mtold, .ref munits, .ref mhonour, .ref mdraw, .ref mdies, .ref mcoin, .ref msonOf, .ref mkindOf, .ref mowner, .ref mfirst, .ref mlast, .ref mrent, .ref msort, .ref mduelOne, .ref mduelOther, .ref mduelOn, .ref mruleFrom, .ref mruleTo, .ref mhasHonour, .ref mhasDraw, .ref mmName, .ref mkName, .ref mrName, .ref mdName, .ref mcode, .ref mcodeNumber, .ref meWhat, .ref meSign, .ref mpile, .int mbank, .int mrb, .int mcodes, .int mwithin, .int mpiled, .int munitsInRule, .int maskDay, .int maskUses, .int maskSpent, .ref mall, .ref mwas, .int macts, .int mundone, .ref musedBy0, .ref musedBy1, .ref mmornings, .ref mcameFrom, .ref mcameBy, .ref mlevelAt, .ref mwins, .ref mslots, .ref mlevelOf, .ref mworthOf, .int mstates, .int mlevels, .int mside0, .int mside1, .int mdeathDay, .int maway, .int mhires, .int mhirer, .int mslotFound, .int misSpent, .int mfound, .int mlaid, .ref mlaidRow, .ref mgReason, .ref mgDay, .ref mgTold, .ref mgUntold, .int msights, .int mtime, .ref mboxAll, .ref misBoxed])), (mall, aI g 374 Fmall)] H ∧ va_S A s.heap H locs ∧ lv_has ls 4 [(3, .int L_6), (2, .int L_7), (0, .ref h), (1, .int p0)]) (fun n H locs ls hI ih => ?_) ((8 - 0 : Int)).toNat ⟨0, (-1), by decide, by decide, by have k0 : ((-1) : Int32).toInt = (-1) := (by decide); have k1 : (0 : Int32).toInt = 0 := (by decide); omega, hP, hS, hl⟩
    refine hI.elim (fun L_6 hI => hI.elim (fun L_7 hI => ?_))
    have g_8 := hI.1
    have g_9 := hI.2.1
    have hm_10 := hI.2.2.1
    have hP := hI.2.2.2.1
    have hS := hI.2.2.2.2.1
    have hl := hI.2.2.2.2.2
    clear hI
    refine lv_iload_n hx hb dX12_next_15 rfl (lv_at hl 0 rfl) ?_
    refine lv_aload_n hx hb dX12_next_16 rfl (lv_at hl 2 rfl) ?_
    refine va_get (D := g.1) (ci := 12) (v := .ref mall) (C := RX12) (T := TX12) (N := 87) hx hb hT inF_X12 hown hK.1 hP 0 rfl rfl 52 (by decide) (hT _ bw_832) (fun _ h9 => h9) rfl dX12_next_17 ?_
    refine lv_bipush (v := 70) hx hb dX12_next_20 (by decide) ?_
    have h_11 : vp_in 70 374 := vp_in_iff.mpr (by decide)
    refine va_iald hx hb hK.1 hP 1 1 rfl rfl (i := 70) h_11 dX12_next_22 ?_
    refine lv_topi (fun x_12 ex_12 => ?_)
    have cn_13 : (70 : Int32).toNatClampNeg = 70 := by decide
    have ux_12 := congrArg Int32.toInt ex_12
    have px_12 : In ((70 : Int32).toNatClampNeg % 374) x_12.toInt := Im.rd hh23 h_11 ex_12
    have fx_12 : 0 ≤ x_12.toInt ∧ x_12.toInt ≤ 8 := px_12.1 (by omega)
    refine lv_icmp_ge (tgt := 61) hx hb dX12_next_23 (by decide) (fun c_14 => ?_) (fun c_14 => ?_)
    · have f_15 := E_le (rfl : x_12.toInt = _) (rfl : L_6.toInt = _) c_14
      refine lv_iload_n hx hb dX12_next_61 rfl (lv_at hl 1 rfl) ?_
      refine lv_if_ge (tgt := 69) hx hb dX12_next_62 (by decide) (fun c_16 => ?_) (fun c_16 => ?_)
      · have f_17 := E_le (by decide : (0 : Int32).toInt = 0) (rfl : L_7.toInt = _) c_16
        refine lv_iload_n hx hb dX12_next_69 rfl (lv_at hl 3 rfl) ?_
        refine lv_if_ne (tgt := 82) hx hb dX12_next_70 (by decide) (fun c_18 => ?_) (fun c_18 => ?_)
        · have f_19 := E_ne (rfl : p0.toInt = _) (by decide : (0 : Int32).toInt = 0) c_18
          refine lv_iload_n hx hb dX12_next_82 rfl (lv_at hl 1 rfl) ?_
          have hP9 : va_P g.1 vwCl [] H := hP.sub [] rfl
          have hD9 : va_D A [] := ⟨fun i j p q h => by simp at h, fun k q h => by simp at h⟩
          exact W.iret (v := L_7) hx hb hr (fun t ht hW => ⟨⟨L_7, (), rfl, trivial, by rw [ht]; exact hP9, by rw [hAe]; exact hD9⟩, hS.F ht⟩) hS.2.2 dX12_next_83
        · have f_20 := E_eq (rfl : p0.toInt = _) (by decide : (0 : Int32).toInt = 0) c_18
          refine lv_aload_n hx hb dX12_next_73 rfl (lv_at hl 2 rfl) ?_
          refine lv_iload_n hx hb dX12_next_74 rfl (lv_at hl 1 rfl) ?_
          refine lv_iconst (v := 2) hx hb dX12_next_75 (by decide) ?_
          refine k_iR (k_V (n := 2) ⟨hx, hb, hml, hown, hT⟩ hK hP hD [0, 1] rfl (by decide +kernel) (s_X12_of_2 l g H.size h mtape mtext mtaped msize mfaultKind mfaultPlace mat mend mtoken mnumber mname mmen mkinds mreasons mtold munits mhonour mdraw mdies mcoin msonOf mkindOf mowner mfirst mlast mrent msort mduelOne mduelOther mduelOn mruleFrom mruleTo mhasHonour mhasDraw mmName mkName mrName mdName mcode mcodeNumber meWhat meSign mpile mbank mrb mcodes mwithin mpiled munitsInRule maskDay maskUses maskSpent mall Fmall mwas macts mundone musedBy0 musedBy1 mmornings mcameFrom mcameBy mlevelAt mwins mslots mlevelOf mworthOf mstates mlevels mside0 mside1 mdeathDay maway mhires mhirer mslotFound misSpent mfound mlaid mlaidRow mgReason mgDay mgTold mgUntold msights mtime mboxAll misBoxed L_7 (by first | with_reducible assumption | omega) (by first | with_reducible assumption | omega) (by first | with_reducible assumption | omega) (by first | with_reducible assumption | omega) (by first | with_reducible assumption | omega) (by first | with_reducible assumption | omega) (by first | with_reducible assumption | omega) (by first | with_reducible assumption | omega) (by first | with_reducible assumption | omega) (by first | with_reducible assumption | omega) hh23 (by first | with_reducible assumption | omega) (by first | with_reducible assumption | omega) (by first | with_reducible assumption | omega) (by first | with_reducible assumption | omega) (by first | with_reducible assumption | omega) (by first | with_reducible assumption | omega) (by first | with_reducible assumption | omega) (by first | with_reducible assumption | omega) (by first | with_reducible assumption | omega) (by first | with_reducible assumption | omega) (by first | with_reducible assumption | omega) (by first | with_reducible assumption | omega)) (gV bw_841 bw_842 bw_843 bw_840 bw_836) rfl rfl (by decide +kernel) ⟨by decide, by decide⟩ (ci := 12) (q0 := 0) rfl rfl (fun _ _ _ _ _ => trivial) (fun _ _ _ => trivial) rfl rfl hl.1 (Nat.le_of_ble_eq_true rfl) dX12_next_76 ⟨by decide, by decide⟩) hP hS hA (fun r_21 _ H locs hw0 hP hS => ?_)
          refine lv_goto (tgt := 83) hx hb dX12_next_79 (by decide) ?_
          have hP9 : va_P g.1 vwCl [] H := hP.sub [] rfl
          have hD9 : va_D A [] := ⟨fun i j p q h => by simp at h, fun k q h => by simp at h⟩
          exact W.iret (v := r_21) hx hb hr (fun t ht hW => ⟨⟨r_21, (), rfl, trivial, by rw [ht]; exact hP9, by rw [hAe]; exact hD9⟩, hS.F ht⟩) hS.2.2 dX12_next_83
      · have f_22 := E_nle (by decide : (0 : Int32).toInt = 0) (rfl : L_7.toInt = _) c_16
        refine lv_iconst (v := (-1)) hx hb dX12_next_65 (by decide) ?_
        refine lv_goto (tgt := 83) hx hb dX12_next_66 (by decide) ?_
        have hP9 : va_P g.1 vwCl [] H := hP.sub [] rfl
        have hD9 : va_D A [] := ⟨fun i j p q h => by simp at h, fun k q h => by simp at h⟩
        exact W.iret (v := (-1)) hx hb hr (fun t ht hW => ⟨⟨(-1), (), rfl, trivial, by rw [ht]; exact hP9, by rw [hAe]; exact hD9⟩, hS.F ht⟩) hS.2.2 dX12_next_83
    · have f_23 := E_nle (rfl : x_12.toInt = _) (rfl : L_6.toInt = _) c_14
      refine lv_aload_n hx hb dX12_next_26 rfl (lv_at hl 2 rfl) ?_
      refine lv_iload_n hx hb dX12_next_27 rfl (lv_at hl 0 rfl) ?_
      refine k_iR (k_V (n := 1) ⟨hx, hb, hml, hown, hT⟩ hK hP hD [0, 1] rfl (by decide +kernel) (s_X12_isOpen l g H.size h mtape mtext mtaped msize mfaultKind mfaultPlace mat mend mtoken mnumber mname mmen mkinds mreasons mtold munits mhonour mdraw mdies mcoin msonOf mkindOf mowner mfirst mlast mrent msort mduelOne mduelOther mduelOn mruleFrom mruleTo mhasHonour mhasDraw mmName mkName mrName mdName mcode mcodeNumber meWhat meSign mpile mbank mrb mcodes mwithin mpiled munitsInRule maskDay maskUses maskSpent mall Fmall mwas macts mundone musedBy0 musedBy1 mmornings mcameFrom mcameBy mlevelAt mwins mslots mlevelOf mworthOf mstates mlevels mside0 mside1 mdeathDay maway mhires mhirer mslotFound misSpent mfound mlaid mlaidRow mgReason mgDay mgTold mgUntold msights mtime mboxAll misBoxed L_6 (by first | with_reducible assumption | omega) (by first | with_reducible assumption | omega) (by first | with_reducible assumption | omega) (by first | with_reducible assumption | omega) (by first | with_reducible assumption | omega) (by first | with_reducible assumption | omega) (by first | with_reducible assumption | omega) (by first | with_reducible assumption | omega) (by first | with_reducible assumption | omega) (by first | with_reducible assumption | omega) hh23 (by first | with_reducible assumption | omega) (by first | with_reducible assumption | omega) (by first | with_reducible assumption | omega) (by first | with_reducible assumption | omega) (by first | with_reducible assumption | omega) (by first | with_reducible assumption | omega) (by first | with_reducible assumption | omega) (by first | with_reducible assumption | omega) (by first | with_reducible assumption | omega) (by first | with_reducible assumption | omega) (by first | with_reducible assumption | omega)) (gV bw_888 bw_889 bw_890 bw_840 bw_844) rfl rfl (by decide +kernel) ⟨by decide, by decide⟩ (ci := 12) (q0 := 0) rfl rfl (fun _ _ _ _ _ => trivial) (fun _ _ _ => trivial) rfl rfl hl.1 (Nat.le_of_ble_eq_true rfl) dX12_next_28 ⟨by decide, by decide⟩) hP hS hA (fun r_24 _ H locs hw0 hP hS => ?_)
      have hw : (r_24 = 1 ∧ (0 ≤ L_6.toInt ∧ L_6.toInt ≤ 7)) ∨ (r_24 = 0) := hw0
      clear hw0
      rcases hw with ⟨e_26, w_25⟩ | e_27
      · subst e_26
        refine lv_if_eq (tgt := 55) hx hb dX12_next_31 (by decide) (fun c9 => absurd c9 (by decide)) (fun _ => ?_)
        refine lv_iload_n hx hb dX12_next_34 rfl (lv_at hl 1 rfl) ?_
        refine lv_if_lt (tgt := 53) hx hb dX12_next_35 (by decide) (fun c_28 => ?_) (fun c_28 => ?_)
        · have f_29 := E_lt (rfl : L_7.toInt = _) (by decide : (0 : Int32).toInt = 0) c_28
          refine lv_iload_n hx hb dX12_next_53 rfl (lv_at hl 0 rfl) ?_
          refine lv_istore_n (lv' := [(2, .int L_6), (3, .int L_6), (0, .ref h), (1, .int p0)]) hx hb dX12_next_54 rfl hl (by decide) rfl (fun ls hl => ?_)
          obtain ⟨x_30, ex_30⟩ : ∃ y : Int32, y = L_6 + 1 := ⟨_, rfl⟩
          have fx_30 : x_30.toInt = L_6.toInt + 1 := by rw [ex_30]; exact I_add rfl (by decide) (by omega) (by omega)
          refine lv_iinc (v := x_30) (lv' := [(3, .int x_30), (2, .int L_6), (0, .ref h), (1, .int p0)]) hx hb dX12_next_55 hl (k := 1) rfl (by rw [ex_30]; rfl) (by decide) rfl (fun ls hl => ?_)
          refine lv_goto (tgt := 15) hx hb dX12_next_58 (by decide) ?_
          exact ih (n - 1) (by omega) H locs ls ⟨x_30, L_6, (by first | with_reducible assumption | omega), (by first | with_reducible assumption | omega), by omega, hP.sub [0, 1] rfl, hS, lv_sub hl [0, 1, 2, 3] rfl⟩
        · have f_31 := E_nlt (rfl : L_7.toInt = _) (by decide : (0 : Int32).toInt = 0) c_28
          refine lv_aload_n hx hb dX12_next_38 rfl (lv_at hl 2 rfl) ?_
          refine lv_iload_n hx hb dX12_next_39 rfl (lv_at hl 0 rfl) ?_
          refine lv_iconst (v := 2) hx hb dX12_next_40 (by decide) ?_
          refine k_iR (k_V (n := 2) ⟨hx, hb, hml, hown, hT⟩ hK hP hD [0, 1] rfl (by decide +kernel) (s_X12_of_2 l g H.size h mtape mtext mtaped msize mfaultKind mfaultPlace mat mend mtoken mnumber mname mmen mkinds mreasons mtold munits mhonour mdraw mdies mcoin msonOf mkindOf mowner mfirst mlast mrent msort mduelOne mduelOther mduelOn mruleFrom mruleTo mhasHonour mhasDraw mmName mkName mrName mdName mcode mcodeNumber meWhat meSign mpile mbank mrb mcodes mwithin mpiled munitsInRule maskDay maskUses maskSpent mall Fmall mwas macts mundone musedBy0 musedBy1 mmornings mcameFrom mcameBy mlevelAt mwins mslots mlevelOf mworthOf mstates mlevels mside0 mside1 mdeathDay maway mhires mhirer mslotFound misSpent mfound mlaid mlaidRow mgReason mgDay mgTold mgUntold msights mtime mboxAll misBoxed L_6 (by first | with_reducible assumption | omega) (by first | with_reducible assumption | omega) (by first | with_reducible assumption | omega) (by first | with_reducible assumption | omega) (by first | with_reducible assumption | omega) (by first | with_reducible assumption | omega) (by first | with_reducible assumption | omega) (by first | with_reducible assumption | omega) (by first | with_reducible assumption | omega) (by first | with_reducible assumption | omega) hh23 (by first | with_reducible assumption | omega) (by first | with_reducible assumption | omega) (by first | with_reducible assumption | omega) (by first | with_reducible assumption | omega) (by first | with_reducible assumption | omega) (by first | with_reducible assumption | omega) (by first | with_reducible assumption | omega) (by first | with_reducible assumption | omega) (by first | with_reducible assumption | omega) (by first | with_reducible assumption | omega) (by first | with_reducible assumption | omega) (by first | with_reducible assumption | omega)) (gV bw_841 bw_842 bw_843 bw_840 bw_836) rfl rfl (by decide +kernel) ⟨by decide, by decide⟩ (ci := 12) (q0 := 0) rfl rfl (fun _ _ _ _ _ => trivial) (fun _ _ _ => trivial) rfl rfl hl.1 (Nat.le_of_ble_eq_true rfl) dX12_next_41 ⟨by decide, by decide⟩) hP hS hA (fun r_32 _ H locs hw0 hP hS => ?_)
          refine lv_aload_n hx hb dX12_next_44 rfl (lv_at hl 2 rfl) ?_
          refine lv_iload_n hx hb dX12_next_45 rfl (lv_at hl 1 rfl) ?_
          refine lv_iconst (v := 2) hx hb dX12_next_46 (by decide) ?_
          refine k_iR (k_V (n := 2) ⟨hx, hb, hml, hown, hT⟩ hK hP hD [0, 1] rfl (by decide +kernel) (s_X12_of_2 l g H.size h mtape mtext mtaped msize mfaultKind mfaultPlace mat mend mtoken mnumber mname mmen mkinds mreasons mtold munits mhonour mdraw mdies mcoin msonOf mkindOf mowner mfirst mlast mrent msort mduelOne mduelOther mduelOn mruleFrom mruleTo mhasHonour mhasDraw mmName mkName mrName mdName mcode mcodeNumber meWhat meSign mpile mbank mrb mcodes mwithin mpiled munitsInRule maskDay maskUses maskSpent mall Fmall mwas macts mundone musedBy0 musedBy1 mmornings mcameFrom mcameBy mlevelAt mwins mslots mlevelOf mworthOf mstates mlevels mside0 mside1 mdeathDay maway mhires mhirer mslotFound misSpent mfound mlaid mlaidRow mgReason mgDay mgTold mgUntold msights mtime mboxAll misBoxed L_7 (by first | with_reducible assumption | omega) (by first | with_reducible assumption | omega) (by first | with_reducible assumption | omega) (by first | with_reducible assumption | omega) (by first | with_reducible assumption | omega) (by first | with_reducible assumption | omega) (by first | with_reducible assumption | omega) (by first | with_reducible assumption | omega) (by first | with_reducible assumption | omega) (by first | with_reducible assumption | omega) hh23 (by first | with_reducible assumption | omega) (by first | with_reducible assumption | omega) (by first | with_reducible assumption | omega) (by first | with_reducible assumption | omega) (by first | with_reducible assumption | omega) (by first | with_reducible assumption | omega) (by first | with_reducible assumption | omega) (by first | with_reducible assumption | omega) (by first | with_reducible assumption | omega) (by first | with_reducible assumption | omega) (by first | with_reducible assumption | omega) (by first | with_reducible assumption | omega)) (gV bw_841 bw_842 bw_843 bw_840 bw_836) rfl rfl (by decide +kernel) ⟨by decide, by decide⟩ (ci := 12) (q0 := 0) rfl rfl (fun _ _ _ _ _ => trivial) (fun _ _ _ => trivial) rfl rfl hl.1 (Nat.le_of_ble_eq_true rfl) dX12_next_47 ⟨by decide, by decide⟩) hP hS hA (fun r_33 _ H locs hw0 hP hS => ?_)
          refine lv_icmp_ge (tgt := 55) hx hb dX12_next_50 (by decide) (fun c_34 => ?_) (fun c_34 => ?_)
          · have f_35 := E_le (rfl : r_33.toInt = _) (rfl : r_32.toInt = _) c_34
            obtain ⟨x_36, ex_36⟩ : ∃ y : Int32, y = L_6 + 1 := ⟨_, rfl⟩
            have fx_36 : x_36.toInt = L_6.toInt + 1 := by rw [ex_36]; exact I_add rfl (by decide) (by omega) (by omega)
            refine lv_iinc (v := x_36) (lv' := [(3, .int x_36), (2, .int L_7), (0, .ref h), (1, .int p0)]) hx hb dX12_next_55 hl (k := 0) rfl (by rw [ex_36]; rfl) (by decide) rfl (fun ls hl => ?_)
            refine lv_goto (tgt := 15) hx hb dX12_next_58 (by decide) ?_
            exact ih (n - 1) (by omega) H locs ls ⟨x_36, L_7, (by first | with_reducible assumption | omega), (by first | with_reducible assumption | omega), by omega, hP.sub [0, 1] rfl, hS, lv_sub hl [0, 1, 2, 3] rfl⟩
          · have f_37 := E_nle (rfl : r_33.toInt = _) (rfl : r_32.toInt = _) c_34
            refine lv_iload_n hx hb dX12_next_53 rfl (lv_at hl 0 rfl) ?_
            refine lv_istore_n (lv' := [(2, .int L_6), (3, .int L_6), (0, .ref h), (1, .int p0)]) hx hb dX12_next_54 rfl hl (by decide) rfl (fun ls hl => ?_)
            obtain ⟨x_38, ex_38⟩ : ∃ y : Int32, y = L_6 + 1 := ⟨_, rfl⟩
            have fx_38 : x_38.toInt = L_6.toInt + 1 := by rw [ex_38]; exact I_add rfl (by decide) (by omega) (by omega)
            refine lv_iinc (v := x_38) (lv' := [(3, .int x_38), (2, .int L_6), (0, .ref h), (1, .int p0)]) hx hb dX12_next_55 hl (k := 1) rfl (by rw [ex_38]; rfl) (by decide) rfl (fun ls hl => ?_)
            refine lv_goto (tgt := 15) hx hb dX12_next_58 (by decide) ?_
            exact ih (n - 1) (by omega) H locs ls ⟨x_38, L_6, (by first | with_reducible assumption | omega), (by first | with_reducible assumption | omega), by omega, hP.sub [0, 1] rfl, hS, lv_sub hl [0, 1, 2, 3] rfl⟩
      · subst e_27
        refine lv_if_eq (tgt := 55) hx hb dX12_next_31 (by decide) (fun _ => ?_) (fun c9 => absurd (by decide) c9)
        obtain ⟨x_39, ex_39⟩ : ∃ y : Int32, y = L_6 + 1 := ⟨_, rfl⟩
        have fx_39 : x_39.toInt = L_6.toInt + 1 := by rw [ex_39]; exact I_add rfl (by decide) (by omega) (by omega)
        refine lv_iinc (v := x_39) (lv' := [(3, .int x_39), (2, .int L_7), (0, .ref h), (1, .int p0)]) hx hb dX12_next_55 hl (k := 0) rfl (by rw [ex_39]; rfl) (by decide) rfl (fun ls hl => ?_)
        refine lv_goto (tgt := 15) hx hb dX12_next_58 (by decide) ?_
        exact ih (n - 1) (by omega) H locs ls ⟨x_39, L_7, (by first | with_reducible assumption | omega), (by first | with_reducible assumption | omega), by omega, hP.sub [0, 1] rfl, hS, lv_sub hl [0, 1, 2, 3] rfl⟩
  · subst e_5
    refine lv_if_ne (tgt := 11) hx hb dX12_next_6 (by decide) (fun c9 => absurd (by decide) c9) (fun _ => ?_)
    refine lv_iconst (v := (-1)) hx hb dX12_next_9 (by decide) ?_
    have hP9 : va_P g.1 vwCl [] H := hP.sub [] rfl
    have hD9 : va_D A [] := ⟨fun i j p q h => by simp at h, fun k q h => by simp at h⟩
    exact W.iret (v := (-1)) hx hb hr (fun t ht hW => ⟨⟨(-1), (), rfl, trivial, by rw [ht]; exact hP9, by rw [hAe]; exact hD9⟩, hS.F ht⟩) hS.2.2 dX12_next_10

theorem bw_950 : Cond.code yX12_log cX12_log 3 (some .int) ∈ gT := gT_tb 2023 (by decide +kernel) (by decide +kernel)
theorem dX12_log_0 : decode cX12_log 0 = .ok (.iload_n 1, 1) := by decide +kernel
theorem dX12_log_1 : decode cX12_log 1 = .ok (.iconst 0, 1) := by decide +kernel
theorem dX12_log_2 : decode cX12_log 2 = .ok (.aload_n 0, 1) := by decide +kernel
theorem dX12_log_3 : decode cX12_log 3 = .ok (.getfield 119, 3) := by decide +kernel
theorem dX12_log_6 : decode cX12_log 6 = .ok (.bipush 71, 2) := by decide +kernel
theorem dX12_log_8 : decode cX12_log 8 = .ok (.iaload, 1) := by decide +kernel
theorem dX12_log_9 : decode cX12_log 9 = .ok (.iconst 1, 1) := by decide +kernel
theorem dX12_log_10 : decode cX12_log 10 = .ok (.isub, 1) := by decide +kernel
theorem dX12_log_11 : decode cX12_log 11 = .ok (.invokestatic 411, 3) := by decide +kernel
theorem dX12_log_14 : decode cX12_log 14 = .ok (.ifCond .eq 28, 3) := by decide +kernel
theorem dX12_log_17 : decode cX12_log 17 = .ok (.iload_n 2, 1) := by decide +kernel
theorem dX12_log_18 : decode cX12_log 18 = .ok (.iconst 0, 1) := by decide +kernel
theorem dX12_log_19 : decode cX12_log 19 = .ok (.iconst 4, 1) := by decide +kernel
theorem dX12_log_20 : decode cX12_log 20 = .ok (.invokestatic 411, 3) := by decide +kernel
theorem dX12_log_23 : decode cX12_log 23 = .ok (.ifCond .eq 19, 3) := by decide +kernel
theorem dX12_log_26 : decode cX12_log 26 = .ok (.aload_n 0, 1) := by decide +kernel
theorem dX12_log_27 : decode cX12_log 27 = .ok (.getfield 119, 3) := by decide +kernel
theorem dX12_log_30 : decode cX12_log 30 = .ok (.bipush 74, 2) := by decide +kernel
theorem dX12_log_32 : decode cX12_log 32 = .ok (.iconst 5, 1) := by decide +kernel
theorem dX12_log_33 : decode cX12_log 33 = .ok (.iload_n 1, 1) := by decide +kernel
theorem dX12_log_34 : decode cX12_log 34 = .ok (.imul, 1) := by decide +kernel
theorem dX12_log_35 : decode cX12_log 35 = .ok (.iadd, 1) := by decide +kernel
theorem dX12_log_36 : decode cX12_log 36 = .ok (.iload_n 2, 1) := by decide +kernel
theorem dX12_log_37 : decode cX12_log 37 = .ok (.iadd, 1) := by decide +kernel
theorem dX12_log_38 : decode cX12_log 38 = .ok (.iaload, 1) := by decide +kernel
theorem dX12_log_39 : decode cX12_log 39 = .ok (.goto 4, 3) := by decide +kernel
theorem dX12_log_42 : decode cX12_log 42 = .ok (.iconst (-1), 1) := by decide +kernel
theorem dX12_log_43 : decode cX12_log 43 = .ok (.ireturn, 1) := by decide +kernel
set_option maxHeartbeats 40000000 in
set_option maxRecDepth 100000 in
theorem s_X12_log (l : Launch) (g : GG) (sz : Nat) (h : Nat) (mtape : Nat) (mtext : Nat) (mtaped : Int32) (msize : Int32) (mfaultKind : Int32) (mfaultPlace : Int32) (mat : Int32) (mend : Int32) (mtoken : Int32) (mnumber : Int32) (mname : Int64) (mmen : Nat) (mkinds : Nat) (mreasons : Nat) (mtold : Nat) (munits : Nat) (mhonour : Nat) (mdraw : Nat) (mdies : Nat) (mcoin : Nat) (msonOf : Nat) (mkindOf : Nat) (mowner : Nat) (mfirst : Nat) (mlast : Nat) (mrent : Nat) (msort : Nat) (mduelOne : Nat) (mduelOther : Nat) (mduelOn : Nat) (mruleFrom : Nat) (mruleTo : Nat) (mhasHonour : Nat) (mhasDraw : Nat) (mmName : Nat) (mkName : Nat) (mrName : Nat) (mdName : Nat) (mcode : Nat) (mcodeNumber : Nat) (meWhat : Nat) (meSign : Nat) (mpile : Nat) (mbank : Int32) (mrb : Int32) (mcodes : Int32) (mwithin : Int32) (mpiled : Int32) (munitsInRule : Int32) (maskDay : Int32) (maskUses : Int32) (maskSpent : Int32) (mall : Nat) (Fmall : Nat → Int32) (mwas : Nat) (macts : Int32) (mundone : Int32) (musedBy0 : Nat) (musedBy1 : Nat) (mmornings : Nat) (mcameFrom : Nat) (mcameBy : Nat) (mlevelAt : Nat) (mwins : Nat) (mslots : Nat) (mlevelOf : Nat) (mworthOf : Nat) (mstates : Int32) (mlevels : Int32) (mside0 : Int32) (mside1 : Int32) (mdeathDay : Int32) (maway : Int32) (mhires : Int32) (mhirer : Int32) (mslotFound : Int32) (misSpent : Int32) (mfound : Int32) (mlaid : Int32) (mlaidRow : Nat) (mgReason : Nat) (mgDay : Nat) (mgTold : Nat) (mgUntold : Nat) (msights : Int32) (mtime : Int32) (mboxAll : Nat) (misBoxed : Nat) (p0 : Int32) (p1 : Int32) (hh0 : 0 ≤ mtaped.toInt ∧ mtaped.toInt ≤ 1600) (hh1 : 0 ≤ msize.toInt ∧ msize.toInt ≤ 1600) (hh2 : 0 ≤ mat.toInt ∧ mat.toInt ≤ 1600) (hh3 : 0 ≤ mend.toInt ∧ mend.toInt ≤ 1600) (hh4 : 0 ≤ mtoken.toInt ∧ mtoken.toInt ≤ 5) (hh18 : 0 ≤ mbank.toInt ∧ mbank.toInt ≤ 1) (hh19 : 0 ≤ mrb.toInt ∧ mrb.toInt ≤ 1) (hh20 : 0 ≤ mcodes.toInt ∧ mcodes.toInt ≤ 1120) (hh21 : 0 ≤ mpiled.toInt ∧ mpiled.toInt ≤ 90) (hh22 : 0 ≤ munitsInRule.toInt ∧ munitsInRule.toInt ≤ 30) (hh23 : Ia Fmall) (hh25 : 0 ≤ macts.toInt ∧ macts.toInt ≤ 40) (hh26 : 0 ≤ mundone.toInt ∧ mundone.toInt ≤ 40) (hh34 : 0 ≤ mstates.toInt ∧ mstates.toInt ≤ 3000) (hh35 : 0 ≤ mlevels.toInt ∧ mlevels.toInt ≤ 18) (hh36 : 0 ≤ mside0.toInt ∧ mside0.toInt ≤ 5) (hh37 : 0 ≤ mside1.toInt ∧ mside1.toInt ≤ 5) (hh38 : 0 ≤ mslotFound.toInt ∧ mslotFound.toInt ≤ 8191) (hh39 : 0 ≤ misSpent.toInt ∧ misSpent.toInt ≤ 1) (hh40 : 0 ≤ mlaid.toInt ∧ mlaid.toInt ≤ 16) (hh41 : 0 ≤ msights.toInt ∧ msights.toInt ≤ 30) (hh42 : 0 ≤ mtime.toInt ∧ mtime.toInt ≤ 100000) : Met l yX12_log (.code yX12_log cX12_log 3 (some .int) :: gT) ({ frames := 1, cells := 0, slots := 0, locals := 22 }) (va_Pc [.ref h, .int p0, .int p1] (Pst g sz [(h, .inr (12, [.ref mtape, .ref mtext, .int mtaped, .int msize, .int mfaultKind, .int mfaultPlace, .int mat, .int mend, .int mtoken, .int mnumber, .long mname, .ref mmen, .ref mkinds, .ref mreasons, .ref mtold, .ref munits, .ref mhonour, .ref mdraw, .ref mdies, .ref mcoin, .ref msonOf, .ref mkindOf, .ref mowner, .ref mfirst, .ref mlast, .ref mrent, .ref msort, .ref mduelOne, .ref mduelOther, .ref mduelOn, .ref mruleFrom, .ref mruleTo, .ref mhasHonour, .ref mhasDraw, .ref mmName, .ref mkName, .ref mrName, .ref mdName, .ref mcode, .ref mcodeNumber, .ref meWhat, .ref meSign, .ref mpile, .int mbank, .int mrb, .int mcodes, .int mwithin, .int mpiled, .int munitsInRule, .int maskDay, .int maskUses, .int maskSpent, .ref mall, .ref mwas, .int macts, .int mundone, .ref musedBy0, .ref musedBy1, .ref mmornings, .ref mcameFrom, .ref mcameBy, .ref mlevelAt, .ref mwins, .ref mslots, .ref mlevelOf, .ref mworthOf, .int mstates, .int mlevels, .int mside0, .int mside1, .int mdeathDay, .int maway, .int mhires, .int mhirer, .int mslotFound, .int misSpent, .int mfound, .int mlaid, .ref mlaidRow, .ref mgReason, .ref mgDay, .ref mgTold, .ref mgUntold, .int msights, .int mtime, .ref mboxAll, .ref misBoxed])), (mall, aI g 374 Fmall)] nX)) (va_Qi (fun (r : Int32) => fun (_ : Unit) => True) (Qst g [] sz (fun _ => [])) (va_A [] sz)) 0 0 (va_A [] sz) := by
  refine Met.ofW (cc := cX12_log) (maxL := 3) (ret := (some .int)) (by decide) rfl ?_
  intro p e s m args below meth c s₁ B hml hv
  obtain ⟨rfl, hsz, hP, hK, hD0, hX⟩ := hv
  have hx := B.exec
  have hb := B.bytes
  have hr := B.returns
  have hT : ∀ w ∈ gT, w.before _ s = true := fun w h => atoms_spec (ws := .code yX12_log cX12_log 3 (some .int) :: gT) B.pre w (List.mem_cons_of_mem _ h)
  have hown : s.vm.findClass RX12 = some m.cls := findClass_of_methodNamed B.named
  have hlocks := B.notSynchronized
  subst hsz
  have hD := hD0
  generalize hAe : va_A [] s.heap.size = A at ⊢
  have hA : ∀ q : Nat, s.heap.size ≤ q → A q := fun q h => by rw [← hAe]; exact Or.inr h
  have hS : va_S A s.heap s.heap [] := va_S.rf
  have hl := lv_entry ([.ref h, .int p0, .int p1]) (n := 3) (Nat.le_of_ble_eq_true rfl)
  rw [lg_entry_eq]
  generalize (lg_sl ([.ref h, .int p0, .int p1]) ++ List.replicate (3 - (lg_sl ([.ref h, .int p0, .int p1])).length) Slot.unset).toArray = ls at hl ⊢
  have hl : lv_has ls 3 [(0, .ref h), (1, .int p0), (2, .int p1)] := hl
  refine p_nH (fun H hH => ?_)
  have hP : va_P g.1 vwCl [(h, .inr (12, [.ref mtape, .ref mtext, .int mtaped, .int msize, .int mfaultKind, .int mfaultPlace, .int mat, .int mend, .int mtoken, .int mnumber, .long mname, .ref mmen, .ref mkinds, .ref mreasons, .ref mtold, .ref munits, .ref mhonour, .ref mdraw, .ref mdies, .ref mcoin, .ref msonOf, .ref mkindOf, .ref mowner, .ref mfirst, .ref mlast, .ref mrent, .ref msort, .ref mduelOne, .ref mduelOther, .ref mduelOn, .ref mruleFrom, .ref mruleTo, .ref mhasHonour, .ref mhasDraw, .ref mmName, .ref mkName, .ref mrName, .ref mdName, .ref mcode, .ref mcodeNumber, .ref meWhat, .ref meSign, .ref mpile, .int mbank, .int mrb, .int mcodes, .int mwithin, .int mpiled, .int munitsInRule, .int maskDay, .int maskUses, .int maskSpent, .ref mall, .ref mwas, .int macts, .int mundone, .ref musedBy0, .ref musedBy1, .ref mmornings, .ref mcameFrom, .ref mcameBy, .ref mlevelAt, .ref mwins, .ref mslots, .ref mlevelOf, .ref mworthOf, .int mstates, .int mlevels, .int mside0, .int mside1, .int mdeathDay, .int maway, .int mhires, .int mhirer, .int mslotFound, .int misSpent, .int mfound, .int mlaid, .ref mlaidRow, .ref mgReason, .ref mgDay, .ref mgTold, .ref mgUntold, .int msights, .int mtime, .ref mboxAll, .ref misBoxed])), (mall, aI g 374 Fmall)] H := by rw [hH]; exact hP
  have hS : va_S A s.heap H [] := by rw [hH]; exact hS
  refine lv_iload_n hx hb dX12_log_0 rfl (lv_at hl 1 rfl) ?_
  refine lv_iconst (v := 0) hx hb dX12_log_1 (by decide) ?_
  refine lv_aload_n hx hb dX12_log_2 rfl (lv_at hl 0 rfl) ?_
  refine va_get (D := g.1) (ci := 12) (v := .ref mall) (C := RX12) (T := TX12) (N := 87) hx hb hT inF_X12 hown hK.1 hP 0 rfl rfl 52 (by decide) (hT _ bw_832) (fun _ h9 => h9) rfl dX12_log_3 ?_
  refine lv_bipush (v := 71) hx hb dX12_log_6 (by decide) ?_
  have h_1 : vp_in 71 374 := vp_in_iff.mpr (by decide)
  refine va_iald hx hb hK.1 hP 1 1 rfl rfl (i := 71) h_1 dX12_log_8 ?_
  refine lv_topi (fun x_2 ex_2 => ?_)
  have cn_3 : (71 : Int32).toNatClampNeg = 71 := by decide
  have ux_2 := congrArg Int32.toInt ex_2
  have px_2 : In ((71 : Int32).toNatClampNeg % 374) x_2.toInt := Im.rd hh23 h_1 ex_2
  have fx_2 : 0 ≤ x_2.toInt ∧ x_2.toInt ≤ 60 := px_2.2.1 (by omega)
  refine lv_iconst (v := 1) hx hb dX12_log_9 (by decide) ?_
  refine lv_isub hx hb dX12_log_10 ?_
  refine lv_topi (fun x_4 ex_4 => ?_)
  have fx_4 : x_4.toInt = x_2.toInt - 1 := by rw [ex_4]; exact I_sub rfl (by decide : (1 : Int32).toInt = 1) (by omega) (by omega)
  refine k_iR (k_S (n := 3) ⟨hx, hb, hml, hown, hT⟩ hK hP hD [] rfl (by decide +kernel) (s_X12_isIn l g H.size p0 0 x_4) (gS bw_826 bw_827 bw_828 bw_817) rfl rfl (by decide +kernel) ⟨by decide, by decide⟩ (fun _ _ _ _ _ => trivial) (fun _ _ _ => trivial) rfl rfl hl.1 (Nat.le_of_ble_eq_true rfl) dX12_log_11 ⟨by decide, by decide⟩) hP hS hA (fun r_5 _ H locs hw0 hP hS => ?_)
  have hw : (r_5 = 1 ∧ (0 ≤ p0.toInt ∧ p0.toInt ≤ x_4.toInt)) ∨ (r_5 = 0 ∧ (p0.toInt < 0 ∨ x_4.toInt < p0.toInt)) := hw0
  clear hw0
  rcases hw with ⟨e_7, w_6⟩ | ⟨e_9, w_8⟩
  · subst e_7
    refine lv_if_eq (tgt := 42) hx hb dX12_log_14 (by decide) (fun c9 => absurd c9 (by decide)) (fun _ => ?_)
    refine lv_iload_n hx hb dX12_log_17 rfl (lv_at hl 2 rfl) ?_
    refine lv_iconst (v := 0) hx hb dX12_log_18 (by decide) ?_
    refine lv_iconst (v := 4) hx hb dX12_log_19 (by decide) ?_
    refine k_iR (k_S (n := 3) ⟨hx, hb, hml, hown, hT⟩ hK hP hD [] rfl (by decide +kernel) (s_X12_isIn l g H.size p1 0 4) (gS bw_826 bw_827 bw_828 bw_817) rfl rfl (by decide +kernel) ⟨by decide, by decide⟩ (fun _ _ _ _ _ => trivial) (fun _ _ _ => trivial) rfl rfl hl.1 (Nat.le_of_ble_eq_true rfl) dX12_log_20 ⟨by decide, by decide⟩) hP hS hA (fun r_10 _ H locs hw0 hP hS => ?_)
    have hw : (r_10 = 1 ∧ (0 ≤ p1.toInt ∧ p1.toInt ≤ 4)) ∨ (r_10 = 0 ∧ (p1.toInt < 0 ∨ 4 < p1.toInt)) := hw0
    clear hw0
    rcases hw with ⟨e_12, w_11⟩ | ⟨e_14, w_13⟩
    · subst e_12
      refine lv_if_eq (tgt := 42) hx hb dX12_log_23 (by decide) (fun c9 => absurd c9 (by decide)) (fun _ => ?_)
      refine lv_aload_n hx hb dX12_log_26 rfl (lv_at hl 0 rfl) ?_
      refine va_get (D := g.1) (ci := 12) (v := .ref mall) (C := RX12) (T := TX12) (N := 87) hx hb hT inF_X12 hown hK.1 hP 0 rfl rfl 52 (by decide) (hT _ bw_832) (fun _ h9 => h9) rfl dX12_log_27 ?_
      refine lv_bipush (v := 74) hx hb dX12_log_30 (by decide) ?_
      refine lv_iconst (v := 5) hx hb dX12_log_32 (by decide) ?_
      refine lv_iload_n hx hb dX12_log_33 rfl (lv_at hl 1 rfl) ?_
      refine lv_imul hx hb dX12_log_34 ?_
      refine lv_topi (fun x_15 ex_15 => ?_)
      have fx_15 : x_15.toInt = 5 * p0.toInt := by rw [ex_15]; exact I_mul (by decide : (5 : Int32).toInt = 5) rfl (by omega) (by omega)
      refine lv_iadd hx hb dX12_log_35 ?_
      refine lv_topi (fun x_16 ex_16 => ?_)
      have fx_16 : x_16.toInt = 74 + x_15.toInt := by rw [ex_16]; exact I_add (by decide : (74 : Int32).toInt = 74) rfl (by omega) (by omega)
      refine lv_iload_n hx hb dX12_log_36 rfl (lv_at hl 2 rfl) ?_
      refine lv_iadd hx hb dX12_log_37 ?_
      refine lv_topi (fun x_17 ex_17 => ?_)
      have fx_17 : x_17.toInt = x_16.toInt + p1.toInt := by rw [ex_17]; exact I_add rfl rfl (by omega) (by omega)
      have h_18 : vp_in x_17 374 := vp_in_iff.mpr (by omega)
      refine va_iald hx hb hK.1 hP 1 1 rfl rfl (i := x_17) h_18 dX12_log_38 ?_
      refine lv_topi (fun x_19 ex_19 => ?_)
      have cn_20 := clampI (x := x_17) (by omega)
      have mcn_20 : (x_17 : Int32).toNatClampNeg % 374 = (x_17 : Int32).toNatClampNeg := Nat.mod_eq_of_lt (by omega)
      have ux_19 := congrArg Int32.toInt ex_19
      have px_19 : In ((x_17 : Int32).toNatClampNeg % 374) x_19.toInt := Im.rd hh23 h_18 ex_19
      refine lv_goto (tgt := 43) hx hb dX12_log_39 (by decide) ?_
      have hP9 : va_P g.1 vwCl [] H := hP.sub [] rfl
      have hD9 : va_D A [] := ⟨fun i j p q h => by simp at h, fun k q h => by simp at h⟩
      exact W.iret (v := x_19) hx hb hr (fun t ht hW => ⟨⟨x_19, (), rfl, trivial, by rw [ht]; exact hP9, by rw [hAe]; exact hD9⟩, hS.F ht⟩) hS.2.2 dX12_log_43
    · subst e_14
      refine lv_if_eq (tgt := 42) hx hb dX12_log_23 (by decide) (fun _ => ?_) (fun c9 => absurd (by decide) c9)
      refine lv_iconst (v := (-1)) hx hb dX12_log_42 (by decide) ?_
      have hP9 : va_P g.1 vwCl [] H := hP.sub [] rfl
      have hD9 : va_D A [] := ⟨fun i j p q h => by simp at h, fun k q h => by simp at h⟩
      exact W.iret (v := (-1)) hx hb hr (fun t ht hW => ⟨⟨(-1), (), rfl, trivial, by rw [ht]; exact hP9, by rw [hAe]; exact hD9⟩, hS.F ht⟩) hS.2.2 dX12_log_43
  · subst e_9
    refine lv_if_eq (tgt := 42) hx hb dX12_log_14 (by decide) (fun _ => ?_) (fun c9 => absurd (by decide) c9)
    refine lv_iconst (v := (-1)) hx hb dX12_log_42 (by decide) ?_
    have hP9 : va_P g.1 vwCl [] H := hP.sub [] rfl
    have hD9 : va_D A [] := ⟨fun i j p q h => by simp at h, fun k q h => by simp at h⟩
    exact W.iret (v := (-1)) hx hb hr (fun t ht hW => ⟨⟨(-1), (), rfl, trivial, by rw [ht]; exact hP9, by rw [hAe]; exact hD9⟩, hS.F ht⟩) hS.2.2 dX12_log_43

theorem bw_951 : Cond.code yX12_began cX12_began 3 (some .int) ∈ gT := gT_tb 2027 (by decide +kernel) (by decide +kernel)
theorem dX12_began_0 : decode cX12_began 0 = .ok (.aload_n 0, 1) := by decide +kernel
theorem dX12_began_1 : decode cX12_began 1 = .ok (.iload_n 1, 1) := by decide +kernel
theorem dX12_began_2 : decode cX12_began 2 = .ok (.invokevirtual 415, 3) := by decide +kernel
theorem dX12_began_5 : decode cX12_began 5 = .ok (.ifCond .ne 6, 3) := by decide +kernel
theorem dX12_began_8 : decode cX12_began 8 = .ok (.bipush (-2), 2) := by decide +kernel
theorem dX12_began_10 : decode cX12_began 10 = .ok (.ireturn, 1) := by decide +kernel
theorem dX12_began_11 : decode cX12_began 11 = .ok (.iconst 0, 1) := by decide +kernel
theorem dX12_began_12 : decode cX12_began 12 = .ok (.istore_n 2, 1) := by decide +kernel
theorem dX12_began_13 : decode cX12_began 13 = .ok (.iload_n 2, 1) := by decide +kernel
theorem dX12_began_14 : decode cX12_began 14 = .ok (.aload_n 0, 1) := by decide +kernel
theorem dX12_began_15 : decode cX12_began 15 = .ok (.getfield 119, 3) := by decide +kernel
theorem dX12_began_18 : decode cX12_began 18 = .ok (.bipush 71, 2) := by decide +kernel
theorem dX12_began_20 : decode cX12_began 20 = .ok (.iaload, 1) := by decide +kernel
theorem dX12_began_21 : decode cX12_began 21 = .ok (.if_icmp .ge 38, 3) := by decide +kernel
theorem dX12_began_24 : decode cX12_began 24 = .ok (.aload_n 0, 1) := by decide +kernel
theorem dX12_began_25 : decode cX12_began 25 = .ok (.getfield 119, 3) := by decide +kernel
theorem dX12_began_28 : decode cX12_began 28 = .ok (.bipush 74, 2) := by decide +kernel
theorem dX12_began_30 : decode cX12_began 30 = .ok (.iconst 5, 1) := by decide +kernel
theorem dX12_began_31 : decode cX12_began 31 = .ok (.iload_n 2, 1) := by decide +kernel
theorem dX12_began_32 : decode cX12_began 32 = .ok (.imul, 1) := by decide +kernel
theorem dX12_began_33 : decode cX12_began 33 = .ok (.iadd, 1) := by decide +kernel
theorem dX12_began_34 : decode cX12_began 34 = .ok (.iaload, 1) := by decide +kernel
theorem dX12_began_35 : decode cX12_began 35 = .ok (.iload_n 1, 1) := by decide +kernel
theorem dX12_began_36 : decode cX12_began 36 = .ok (.if_icmp .ne 17, 3) := by decide +kernel
theorem dX12_began_39 : decode cX12_began 39 = .ok (.aload_n 0, 1) := by decide +kernel
theorem dX12_began_40 : decode cX12_began 40 = .ok (.getfield 119, 3) := by decide +kernel
theorem dX12_began_43 : decode cX12_began 43 = .ok (.bipush 74, 2) := by decide +kernel
theorem dX12_began_45 : decode cX12_began 45 = .ok (.iconst 5, 1) := by decide +kernel
theorem dX12_began_46 : decode cX12_began 46 = .ok (.iload_n 2, 1) := by decide +kernel
theorem dX12_began_47 : decode cX12_began 47 = .ok (.imul, 1) := by decide +kernel
theorem dX12_began_48 : decode cX12_began 48 = .ok (.iadd, 1) := by decide +kernel
theorem dX12_began_49 : decode cX12_began 49 = .ok (.iconst 1, 1) := by decide +kernel
theorem dX12_began_50 : decode cX12_began 50 = .ok (.iadd, 1) := by decide +kernel
theorem dX12_began_51 : decode cX12_began 51 = .ok (.iaload, 1) := by decide +kernel
theorem dX12_began_52 : decode cX12_began 52 = .ok (.ireturn, 1) := by decide +kernel
theorem dX12_began_53 : decode cX12_began 53 = .ok (.iinc 2 1, 3) := by decide +kernel
theorem dX12_began_56 : decode cX12_began 56 = .ok (.goto (-43), 3) := by decide +kernel
theorem dX12_began_59 : decode cX12_began 59 = .ok (.iconst (-1), 1) := by decide +kernel
theorem dX12_began_60 : decode cX12_began 60 = .ok (.ireturn, 1) := by decide +kernel
set_option maxHeartbeats 40000000 in
set_option maxRecDepth 100000 in
theorem s_X12_began (l : Launch) (g : GG) (sz : Nat) (h : Nat) (mtape : Nat) (mtext : Nat) (mtaped : Int32) (msize : Int32) (mfaultKind : Int32) (mfaultPlace : Int32) (mat : Int32) (mend : Int32) (mtoken : Int32) (mnumber : Int32) (mname : Int64) (mmen : Nat) (mkinds : Nat) (mreasons : Nat) (mtold : Nat) (munits : Nat) (mhonour : Nat) (mdraw : Nat) (mdies : Nat) (mcoin : Nat) (msonOf : Nat) (mkindOf : Nat) (mowner : Nat) (mfirst : Nat) (mlast : Nat) (mrent : Nat) (msort : Nat) (mduelOne : Nat) (mduelOther : Nat) (mduelOn : Nat) (mruleFrom : Nat) (mruleTo : Nat) (mhasHonour : Nat) (mhasDraw : Nat) (mmName : Nat) (mkName : Nat) (mrName : Nat) (mdName : Nat) (mcode : Nat) (mcodeNumber : Nat) (meWhat : Nat) (meSign : Nat) (mpile : Nat) (mbank : Int32) (mrb : Int32) (mcodes : Int32) (mwithin : Int32) (mpiled : Int32) (munitsInRule : Int32) (maskDay : Int32) (maskUses : Int32) (maskSpent : Int32) (mall : Nat) (Fmall : Nat → Int32) (mwas : Nat) (macts : Int32) (mundone : Int32) (musedBy0 : Nat) (musedBy1 : Nat) (mmornings : Nat) (mcameFrom : Nat) (mcameBy : Nat) (mlevelAt : Nat) (mwins : Nat) (mslots : Nat) (mlevelOf : Nat) (mworthOf : Nat) (mstates : Int32) (mlevels : Int32) (mside0 : Int32) (mside1 : Int32) (mdeathDay : Int32) (maway : Int32) (mhires : Int32) (mhirer : Int32) (mslotFound : Int32) (misSpent : Int32) (mfound : Int32) (mlaid : Int32) (mlaidRow : Nat) (mgReason : Nat) (mgDay : Nat) (mgTold : Nat) (mgUntold : Nat) (msights : Int32) (mtime : Int32) (mboxAll : Nat) (misBoxed : Nat) (p0 : Int32) (hh0 : 0 ≤ mtaped.toInt ∧ mtaped.toInt ≤ 1600) (hh1 : 0 ≤ msize.toInt ∧ msize.toInt ≤ 1600) (hh2 : 0 ≤ mat.toInt ∧ mat.toInt ≤ 1600) (hh3 : 0 ≤ mend.toInt ∧ mend.toInt ≤ 1600) (hh4 : 0 ≤ mtoken.toInt ∧ mtoken.toInt ≤ 5) (hh18 : 0 ≤ mbank.toInt ∧ mbank.toInt ≤ 1) (hh19 : 0 ≤ mrb.toInt ∧ mrb.toInt ≤ 1) (hh20 : 0 ≤ mcodes.toInt ∧ mcodes.toInt ≤ 1120) (hh21 : 0 ≤ mpiled.toInt ∧ mpiled.toInt ≤ 90) (hh22 : 0 ≤ munitsInRule.toInt ∧ munitsInRule.toInt ≤ 30) (hh23 : Ia Fmall) (hh25 : 0 ≤ macts.toInt ∧ macts.toInt ≤ 40) (hh26 : 0 ≤ mundone.toInt ∧ mundone.toInt ≤ 40) (hh34 : 0 ≤ mstates.toInt ∧ mstates.toInt ≤ 3000) (hh35 : 0 ≤ mlevels.toInt ∧ mlevels.toInt ≤ 18) (hh36 : 0 ≤ mside0.toInt ∧ mside0.toInt ≤ 5) (hh37 : 0 ≤ mside1.toInt ∧ mside1.toInt ≤ 5) (hh38 : 0 ≤ mslotFound.toInt ∧ mslotFound.toInt ≤ 8191) (hh39 : 0 ≤ misSpent.toInt ∧ misSpent.toInt ≤ 1) (hh40 : 0 ≤ mlaid.toInt ∧ mlaid.toInt ≤ 16) (hh41 : 0 ≤ msights.toInt ∧ msights.toInt ≤ 30) (hh42 : 0 ≤ mtime.toInt ∧ mtime.toInt ≤ 100000) : Met l yX12_began (.code yX12_began cX12_began 3 (some .int) :: gT) ({ frames := 2, cells := 0, slots := 0, locals := 43 }) (va_Pc [.ref h, .int p0] (Pst g sz [(h, .inr (12, [.ref mtape, .ref mtext, .int mtaped, .int msize, .int mfaultKind, .int mfaultPlace, .int mat, .int mend, .int mtoken, .int mnumber, .long mname, .ref mmen, .ref mkinds, .ref mreasons, .ref mtold, .ref munits, .ref mhonour, .ref mdraw, .ref mdies, .ref mcoin, .ref msonOf, .ref mkindOf, .ref mowner, .ref mfirst, .ref mlast, .ref mrent, .ref msort, .ref mduelOne, .ref mduelOther, .ref mduelOn, .ref mruleFrom, .ref mruleTo, .ref mhasHonour, .ref mhasDraw, .ref mmName, .ref mkName, .ref mrName, .ref mdName, .ref mcode, .ref mcodeNumber, .ref meWhat, .ref meSign, .ref mpile, .int mbank, .int mrb, .int mcodes, .int mwithin, .int mpiled, .int munitsInRule, .int maskDay, .int maskUses, .int maskSpent, .ref mall, .ref mwas, .int macts, .int mundone, .ref musedBy0, .ref musedBy1, .ref mmornings, .ref mcameFrom, .ref mcameBy, .ref mlevelAt, .ref mwins, .ref mslots, .ref mlevelOf, .ref mworthOf, .int mstates, .int mlevels, .int mside0, .int mside1, .int mdeathDay, .int maway, .int mhires, .int mhirer, .int mslotFound, .int misSpent, .int mfound, .int mlaid, .ref mlaidRow, .ref mgReason, .ref mgDay, .ref mgTold, .ref mgUntold, .int msights, .int mtime, .ref mboxAll, .ref misBoxed])), (mall, aI g 374 Fmall)] nX)) (va_Qi (fun (r : Int32) => fun (_ : Unit) => True) (Qst g [] sz (fun _ => [])) (va_A [] sz)) 0 0 (va_A [] sz) := by
  refine Met.ofW (cc := cX12_began) (maxL := 3) (ret := (some .int)) (by decide) rfl ?_
  intro p e s m args below meth c s₁ B hml hv
  obtain ⟨rfl, hsz, hP, hK, hD0, hX⟩ := hv
  have hx := B.exec
  have hb := B.bytes
  have hr := B.returns
  have hT : ∀ w ∈ gT, w.before _ s = true := fun w h => atoms_spec (ws := .code yX12_began cX12_began 3 (some .int) :: gT) B.pre w (List.mem_cons_of_mem _ h)
  have hown : s.vm.findClass RX12 = some m.cls := findClass_of_methodNamed B.named
  have hlocks := B.notSynchronized
  subst hsz
  have hD := hD0
  generalize hAe : va_A [] s.heap.size = A at ⊢
  have hA : ∀ q : Nat, s.heap.size ≤ q → A q := fun q h => by rw [← hAe]; exact Or.inr h
  have hS : va_S A s.heap s.heap [] := va_S.rf
  have hl := lv_entry ([.ref h, .int p0]) (n := 3) (Nat.le_of_ble_eq_true rfl)
  rw [lg_entry_eq]
  generalize (lg_sl ([.ref h, .int p0]) ++ List.replicate (3 - (lg_sl ([.ref h, .int p0])).length) Slot.unset).toArray = ls at hl ⊢
  have hl : lv_has ls 3 [(0, .ref h), (1, .int p0)] := hl
  refine p_nH (fun H hH => ?_)
  have hP : va_P g.1 vwCl [(h, .inr (12, [.ref mtape, .ref mtext, .int mtaped, .int msize, .int mfaultKind, .int mfaultPlace, .int mat, .int mend, .int mtoken, .int mnumber, .long mname, .ref mmen, .ref mkinds, .ref mreasons, .ref mtold, .ref munits, .ref mhonour, .ref mdraw, .ref mdies, .ref mcoin, .ref msonOf, .ref mkindOf, .ref mowner, .ref mfirst, .ref mlast, .ref mrent, .ref msort, .ref mduelOne, .ref mduelOther, .ref mduelOn, .ref mruleFrom, .ref mruleTo, .ref mhasHonour, .ref mhasDraw, .ref mmName, .ref mkName, .ref mrName, .ref mdName, .ref mcode, .ref mcodeNumber, .ref meWhat, .ref meSign, .ref mpile, .int mbank, .int mrb, .int mcodes, .int mwithin, .int mpiled, .int munitsInRule, .int maskDay, .int maskUses, .int maskSpent, .ref mall, .ref mwas, .int macts, .int mundone, .ref musedBy0, .ref musedBy1, .ref mmornings, .ref mcameFrom, .ref mcameBy, .ref mlevelAt, .ref mwins, .ref mslots, .ref mlevelOf, .ref mworthOf, .int mstates, .int mlevels, .int mside0, .int mside1, .int mdeathDay, .int maway, .int mhires, .int mhirer, .int mslotFound, .int misSpent, .int mfound, .int mlaid, .ref mlaidRow, .ref mgReason, .ref mgDay, .ref mgTold, .ref mgUntold, .int msights, .int mtime, .ref mboxAll, .ref misBoxed])), (mall, aI g 374 Fmall)] H := by rw [hH]; exact hP
  have hS : va_S A s.heap H [] := by rw [hH]; exact hS
  refine lv_aload_n hx hb dX12_began_0 rfl (lv_at hl 0 rfl) ?_
  refine lv_iload_n hx hb dX12_began_1 rfl (lv_at hl 1 rfl) ?_
  refine k_iR (k_V (n := 1) ⟨hx, hb, hml, hown, hT⟩ hK hP hD [0, 1] rfl (by decide +kernel) (s_X12_isDuel l g H.size h mtape mtext mtaped msize mfaultKind mfaultPlace mat mend mtoken mnumber mname mmen mkinds mreasons mtold munits mhonour mdraw mdies mcoin msonOf mkindOf mowner mfirst mlast mrent msort mduelOne mduelOther mduelOn mruleFrom mruleTo mhasHonour mhasDraw mmName mkName mrName mdName mcode mcodeNumber meWhat meSign mpile mbank mrb mcodes mwithin mpiled munitsInRule maskDay maskUses maskSpent mall Fmall mwas macts mundone musedBy0 musedBy1 mmornings mcameFrom mcameBy mlevelAt mwins mslots mlevelOf mworthOf mstates mlevels mside0 mside1 mdeathDay maway mhires mhirer mslotFound misSpent mfound mlaid mlaidRow mgReason mgDay mgTold mgUntold msights mtime mboxAll misBoxed p0 (by first | with_reducible assumption | omega) (by first | with_reducible assumption | omega) (by first | with_reducible assumption | omega) (by first | with_reducible assumption | omega) (by first | with_reducible assumption | omega) (by first | with_reducible assumption | omega) (by first | with_reducible assumption | omega) (by first | with_reducible assumption | omega) (by first | with_reducible assumption | omega) (by first | with_reducible assumption | omega) hh23 (by first | with_reducible assumption | omega) (by first | with_reducible assumption | omega) (by first | with_reducible assumption | omega) (by first | with_reducible assumption | omega) (by first | with_reducible assumption | omega) (by first | with_reducible assumption | omega) (by first | with_reducible assumption | omega) (by first | with_reducible assumption | omega) (by first | with_reducible assumption | omega) (by first | with_reducible assumption | omega) (by first | with_reducible assumption | omega)) (gV bw_837 bw_838 bw_839 bw_840 bw_833) rfl rfl (by decide +kernel) ⟨by decide, by decide⟩ (ci := 12) (q0 := 0) rfl rfl (fun _ _ _ _ _ => trivial) (fun _ _ _ => trivial) rfl rfl hl.1 (Nat.le_of_ble_eq_true rfl) dX12_began_2 ⟨by decide, by decide⟩) hP hS hA (fun r_1 _ H locs hw0 hP hS => ?_)
  have hw : (r_1 = 1 ∧ (0 ≤ p0.toInt ∧ p0.toInt ≤ 7)) ∨ (r_1 = 0) := hw0
  clear hw0
  rcases hw with ⟨e_3, w_2⟩ | e_4
  · subst e_3
    refine lv_if_ne (tgt := 11) hx hb dX12_began_5 (by decide) (fun _ => ?_) (fun c9 => absurd c9 (by decide))
    refine lv_iconst (v := 0) hx hb dX12_began_11 (by decide) ?_
    refine lv_istore_n (lv' := [(2, .int 0), (0, .ref h), (1, .int p0)]) hx hb dX12_began_12 rfl hl (by decide) rfl (fun ls hl => ?_)
    refine k_floop 13 (fun n H locs ls => ∃ (L_5 : Int32), (0 ≤ L_5.toInt ∧ L_5.toInt ≤ 60) ∧ 60 - L_5.toInt ≤ (n : Int) ∧ va_P g.1 vwCl [(h, .inr (12, [.ref mtape, .ref mtext, .int mtaped, .int msize, .int mfaultKind, .int mfaultPlace, .int mat, .int mend, .int mtoken, .int mnumber, .long mname, .ref mmen, .ref mkinds, .ref mreasons, .ref mtold, .ref munits, .ref mhonour, .ref mdraw, .ref mdies, .ref mcoin, .ref msonOf, .ref mkindOf, .ref mowner, .ref mfirst, .ref mlast, .ref mrent, .ref msort, .ref mduelOne, .ref mduelOther, .ref mduelOn, .ref mruleFrom, .ref mruleTo, .ref mhasHonour, .ref mhasDraw, .ref mmName, .ref mkName, .ref mrName, .ref mdName, .ref mcode, .ref mcodeNumber, .ref meWhat, .ref meSign, .ref mpile, .int mbank, .int mrb, .int mcodes, .int mwithin, .int mpiled, .int munitsInRule, .int maskDay, .int maskUses, .int maskSpent, .ref mall, .ref mwas, .int macts, .int mundone, .ref musedBy0, .ref musedBy1, .ref mmornings, .ref mcameFrom, .ref mcameBy, .ref mlevelAt, .ref mwins, .ref mslots, .ref mlevelOf, .ref mworthOf, .int mstates, .int mlevels, .int mside0, .int mside1, .int mdeathDay, .int maway, .int mhires, .int mhirer, .int mslotFound, .int misSpent, .int mfound, .int mlaid, .ref mlaidRow, .ref mgReason, .ref mgDay, .ref mgTold, .ref mgUntold, .int msights, .int mtime, .ref mboxAll, .ref misBoxed])), (mall, aI g 374 Fmall)] H ∧ va_S A s.heap H locs ∧ lv_has ls 3 [(2, .int L_5), (0, .ref h), (1, .int p0)]) (fun n H locs ls hI ih => ?_) ((60 - 0 : Int)).toNat ⟨0, by decide, by have k0 : (0 : Int32).toInt = 0 := (by decide); omega, hP, hS, hl⟩
    refine hI.elim (fun L_5 hI => ?_)
    have g_6 := hI.1
    have hm_7 := hI.2.1
    have hP := hI.2.2.1
    have hS := hI.2.2.2.1
    have hl := hI.2.2.2.2
    clear hI
    refine lv_iload_n hx hb dX12_began_13 rfl (lv_at hl 0 rfl) ?_
    refine lv_aload_n hx hb dX12_began_14 rfl (lv_at hl 1 rfl) ?_
    refine va_get (D := g.1) (ci := 12) (v := .ref mall) (C := RX12) (T := TX12) (N := 87) hx hb hT inF_X12 hown hK.1 hP 0 rfl rfl 52 (by decide) (hT _ bw_832) (fun _ h9 => h9) rfl dX12_began_15 ?_
    refine lv_bipush (v := 71) hx hb dX12_began_18 (by decide) ?_
    have h_8 : vp_in 71 374 := vp_in_iff.mpr (by decide)
    refine va_iald hx hb hK.1 hP 1 1 rfl rfl (i := 71) h_8 dX12_began_20 ?_
    refine lv_topi (fun x_9 ex_9 => ?_)
    have cn_10 : (71 : Int32).toNatClampNeg = 71 := by decide
    have ux_9 := congrArg Int32.toInt ex_9
    have px_9 : In ((71 : Int32).toNatClampNeg % 374) x_9.toInt := Im.rd hh23 h_8 ex_9
    have fx_9 : 0 ≤ x_9.toInt ∧ x_9.toInt ≤ 60 := px_9.2.1 (by omega)
    refine lv_icmp_ge (tgt := 59) hx hb dX12_began_21 (by decide) (fun c_11 => ?_) (fun c_11 => ?_)
    · have f_12 := E_le (rfl : x_9.toInt = _) (rfl : L_5.toInt = _) c_11
      refine lv_iconst (v := (-1)) hx hb dX12_began_59 (by decide) ?_
      have hP9 : va_P g.1 vwCl [] H := hP.sub [] rfl
      have hD9 : va_D A [] := ⟨fun i j p q h => by simp at h, fun k q h => by simp at h⟩
      exact W.iret (v := (-1)) hx hb hr (fun t ht hW => ⟨⟨(-1), (), rfl, trivial, by rw [ht]; exact hP9, by rw [hAe]; exact hD9⟩, hS.F ht⟩) hS.2.2 dX12_began_60
    · have f_13 := E_nle (rfl : x_9.toInt = _) (rfl : L_5.toInt = _) c_11
      refine lv_aload_n hx hb dX12_began_24 rfl (lv_at hl 1 rfl) ?_
      refine va_get (D := g.1) (ci := 12) (v := .ref mall) (C := RX12) (T := TX12) (N := 87) hx hb hT inF_X12 hown hK.1 hP 0 rfl rfl 52 (by decide) (hT _ bw_832) (fun _ h9 => h9) rfl dX12_began_25 ?_
      refine lv_bipush (v := 74) hx hb dX12_began_28 (by decide) ?_
      refine lv_iconst (v := 5) hx hb dX12_began_30 (by decide) ?_
      refine lv_iload_n hx hb dX12_began_31 rfl (lv_at hl 0 rfl) ?_
      refine lv_imul hx hb dX12_began_32 ?_
      refine lv_topi (fun x_14 ex_14 => ?_)
      have fx_14 : x_14.toInt = 5 * L_5.toInt := by rw [ex_14]; exact I_mul (by decide : (5 : Int32).toInt = 5) rfl (by omega) (by omega)
      refine lv_iadd hx hb dX12_began_33 ?_
      refine lv_topi (fun x_15 ex_15 => ?_)
      have fx_15 : x_15.toInt = 74 + x_14.toInt := by rw [ex_15]; exact I_add (by decide : (74 : Int32).toInt = 74) rfl (by omega) (by omega)
      have h_16 : vp_in x_15 374 := vp_in_iff.mpr (by omega)
      refine va_iald hx hb hK.1 hP 1 1 rfl rfl (i := x_15) h_16 dX12_began_34 ?_
      refine lv_topi (fun x_17 ex_17 => ?_)
      have cn_18 := clampI (x := x_15) (by omega)
      have mcn_18 : (x_15 : Int32).toNatClampNeg % 374 = (x_15 : Int32).toNatClampNeg := Nat.mod_eq_of_lt (by omega)
      have ux_17 := congrArg Int32.toInt ex_17
      have px_17 : In ((x_15 : Int32).toNatClampNeg % 374) x_17.toInt := Im.rd hh23 h_16 ex_17
      refine lv_iload_n hx hb dX12_began_35 rfl (lv_at hl 2 rfl) ?_
      refine lv_icmp_ne (tgt := 53) hx hb dX12_began_36 (by decide) (fun c_19 => ?_) (fun c_19 => ?_)
      · have f_20 := E_ne (rfl : x_17.toInt = _) (rfl : p0.toInt = _) c_19
        obtain ⟨x_21, ex_21⟩ : ∃ y : Int32, y = L_5 + 1 := ⟨_, rfl⟩
        have fx_21 : x_21.toInt = L_5.toInt + 1 := by rw [ex_21]; exact I_add rfl (by decide) (by omega) (by omega)
        refine lv_iinc (v := x_21) (lv' := [(2, .int x_21), (0, .ref h), (1, .int p0)]) hx hb dX12_began_53 hl (k := 0) rfl (by rw [ex_21]; rfl) (by decide) rfl (fun ls hl => ?_)
        refine lv_goto (tgt := 13) hx hb dX12_began_56 (by decide) ?_
        exact ih (n - 1) (by omega) H locs ls ⟨x_21, (by first | with_reducible assumption | omega), by omega, hP.sub [0, 1] rfl, hS, lv_sub hl [0, 1, 2] rfl⟩
      · have f_22 := E_eq (rfl : x_17.toInt = _) (rfl : p0.toInt = _) c_19
        refine lv_aload_n hx hb dX12_began_39 rfl (lv_at hl 1 rfl) ?_
        refine va_get (D := g.1) (ci := 12) (v := .ref mall) (C := RX12) (T := TX12) (N := 87) hx hb hT inF_X12 hown hK.1 hP 0 rfl rfl 52 (by decide) (hT _ bw_832) (fun _ h9 => h9) rfl dX12_began_40 ?_
        refine lv_bipush (v := 74) hx hb dX12_began_43 (by decide) ?_
        refine lv_iconst (v := 5) hx hb dX12_began_45 (by decide) ?_
        refine lv_iload_n hx hb dX12_began_46 rfl (lv_at hl 0 rfl) ?_
        refine lv_imul hx hb dX12_began_47 ?_
        refine lv_topi (fun x_23 ex_23 => ?_)
        have fx_23 : x_23.toInt = 5 * L_5.toInt := by rw [ex_23]; exact I_mul (by decide : (5 : Int32).toInt = 5) rfl (by omega) (by omega)
        refine lv_iadd hx hb dX12_began_48 ?_
        refine lv_topi (fun x_24 ex_24 => ?_)
        have fx_24 : x_24.toInt = 74 + x_23.toInt := by rw [ex_24]; exact I_add (by decide : (74 : Int32).toInt = 74) rfl (by omega) (by omega)
        refine lv_iconst (v := 1) hx hb dX12_began_49 (by decide) ?_
        refine lv_iadd hx hb dX12_began_50 ?_
        refine lv_topi (fun x_25 ex_25 => ?_)
        have fx_25 : x_25.toInt = x_24.toInt + 1 := by rw [ex_25]; exact I_add rfl (by decide : (1 : Int32).toInt = 1) (by omega) (by omega)
        have h_26 : vp_in x_25 374 := vp_in_iff.mpr (by omega)
        refine va_iald hx hb hK.1 hP 1 1 rfl rfl (i := x_25) h_26 dX12_began_51 ?_
        refine lv_topi (fun x_27 ex_27 => ?_)
        have cn_28 := clampI (x := x_25) (by omega)
        have mcn_28 : (x_25 : Int32).toNatClampNeg % 374 = (x_25 : Int32).toNatClampNeg := Nat.mod_eq_of_lt (by omega)
        have ux_27 := congrArg Int32.toInt ex_27
        have px_27 : In ((x_25 : Int32).toNatClampNeg % 374) x_27.toInt := Im.rd hh23 h_26 ex_27
        have hP9 : va_P g.1 vwCl [] H := hP.sub [] rfl
        have hD9 : va_D A [] := ⟨fun i j p q h => by simp at h, fun k q h => by simp at h⟩
        exact W.iret (v := x_27) hx hb hr (fun t ht hW => ⟨⟨x_27, (), rfl, trivial, by rw [ht]; exact hP9, by rw [hAe]; exact hD9⟩, hS.F ht⟩) hS.2.2 dX12_began_52
  · subst e_4
    refine lv_if_ne (tgt := 11) hx hb dX12_began_5 (by decide) (fun c9 => absurd (by decide) c9) (fun _ => ?_)
    refine lv_bipush (v := (-2)) hx hb dX12_began_8 (by decide) ?_
    have hP9 : va_P g.1 vwCl [] H := hP.sub [] rfl
    have hD9 : va_D A [] := ⟨fun i j p q h => by simp at h, fun k q h => by simp at h⟩
    exact W.iret (v := (-2)) hx hb hr (fun t ht hW => ⟨⟨(-2), (), rfl, trivial, by rw [ht]; exact hP9, by rw [hAe]; exact hD9⟩, hS.F ht⟩) hS.2.2 dX12_began_10

theorem bw_952 : Cond.fieldLink RX12 434 "DuelDelaysModel" "laid" "I" ∈ gT := gT_tb 1382 (by decide +kernel) (by decide +kernel)
theorem bw_953 : Cond.fieldLink RX12 155 "DuelDelaysModel" "laidRow" "[I" ∈ gT := gT_tb 1383 (by decide +kernel) (by decide +kernel)
theorem bw_954 : Cond.code yX12_lies cX12_lies 2 (some .int) ∈ gT := gT_tb 1905 (by decide +kernel) (by decide +kernel)
theorem dX12_lies_0 : decode cX12_lies 0 = .ok (.iload_n 1, 1) := by decide +kernel
theorem dX12_lies_1 : decode cX12_lies 1 = .ok (.iconst 0, 1) := by decide +kernel
theorem dX12_lies_2 : decode cX12_lies 2 = .ok (.aload_n 0, 1) := by decide +kernel
theorem dX12_lies_3 : decode cX12_lies 3 = .ok (.getfield 434, 3) := by decide +kernel
theorem dX12_lies_6 : decode cX12_lies 6 = .ok (.iconst 1, 1) := by decide +kernel
theorem dX12_lies_7 : decode cX12_lies 7 = .ok (.isub, 1) := by decide +kernel
theorem dX12_lies_8 : decode cX12_lies 8 = .ok (.invokestatic 411, 3) := by decide +kernel
theorem dX12_lies_11 : decode cX12_lies 11 = .ok (.ifCond .eq 12, 3) := by decide +kernel
theorem dX12_lies_14 : decode cX12_lies 14 = .ok (.aload_n 0, 1) := by decide +kernel
theorem dX12_lies_15 : decode cX12_lies 15 = .ok (.getfield 155, 3) := by decide +kernel
theorem dX12_lies_18 : decode cX12_lies 18 = .ok (.iload_n 1, 1) := by decide +kernel
theorem dX12_lies_19 : decode cX12_lies 19 = .ok (.iaload, 1) := by decide +kernel
theorem dX12_lies_20 : decode cX12_lies 20 = .ok (.goto 4, 3) := by decide +kernel
theorem dX12_lies_23 : decode cX12_lies 23 = .ok (.iconst (-1), 1) := by decide +kernel
theorem dX12_lies_24 : decode cX12_lies 24 = .ok (.ireturn, 1) := by decide +kernel
set_option maxHeartbeats 40000000 in
set_option maxRecDepth 100000 in
theorem s_X12_lies (l : Launch) (g : GG) (sz : Nat) (h : Nat) (mtape : Nat) (mtext : Nat) (mtaped : Int32) (msize : Int32) (mfaultKind : Int32) (mfaultPlace : Int32) (mat : Int32) (mend : Int32) (mtoken : Int32) (mnumber : Int32) (mname : Int64) (mmen : Nat) (mkinds : Nat) (mreasons : Nat) (mtold : Nat) (munits : Nat) (mhonour : Nat) (mdraw : Nat) (mdies : Nat) (mcoin : Nat) (msonOf : Nat) (mkindOf : Nat) (mowner : Nat) (mfirst : Nat) (mlast : Nat) (mrent : Nat) (msort : Nat) (mduelOne : Nat) (mduelOther : Nat) (mduelOn : Nat) (mruleFrom : Nat) (mruleTo : Nat) (mhasHonour : Nat) (mhasDraw : Nat) (mmName : Nat) (mkName : Nat) (mrName : Nat) (mdName : Nat) (mcode : Nat) (mcodeNumber : Nat) (meWhat : Nat) (meSign : Nat) (mpile : Nat) (mbank : Int32) (mrb : Int32) (mcodes : Int32) (mwithin : Int32) (mpiled : Int32) (munitsInRule : Int32) (maskDay : Int32) (maskUses : Int32) (maskSpent : Int32) (mall : Nat) (mwas : Nat) (macts : Int32) (mundone : Int32) (musedBy0 : Nat) (musedBy1 : Nat) (mmornings : Nat) (mcameFrom : Nat) (mcameBy : Nat) (mlevelAt : Nat) (mwins : Nat) (mslots : Nat) (mlevelOf : Nat) (mworthOf : Nat) (mstates : Int32) (mlevels : Int32) (mside0 : Int32) (mside1 : Int32) (mdeathDay : Int32) (maway : Int32) (mhires : Int32) (mhirer : Int32) (mslotFound : Int32) (misSpent : Int32) (mfound : Int32) (mlaid : Int32) (mlaidRow : Nat) (FmlaidRow : Nat → Int32) (mgReason : Nat) (mgDay : Nat) (mgTold : Nat) (mgUntold : Nat) (msights : Int32) (mtime : Int32) (mboxAll : Nat) (misBoxed : Nat) (p0 : Int32) (hh0 : 0 ≤ mtaped.toInt ∧ mtaped.toInt ≤ 1600) (hh1 : 0 ≤ msize.toInt ∧ msize.toInt ≤ 1600) (hh2 : 0 ≤ mat.toInt ∧ mat.toInt ≤ 1600) (hh3 : 0 ≤ mend.toInt ∧ mend.toInt ≤ 1600) (hh4 : 0 ≤ mtoken.toInt ∧ mtoken.toInt ≤ 5) (hh18 : 0 ≤ mbank.toInt ∧ mbank.toInt ≤ 1) (hh19 : 0 ≤ mrb.toInt ∧ mrb.toInt ≤ 1) (hh20 : 0 ≤ mcodes.toInt ∧ mcodes.toInt ≤ 1120) (hh21 : 0 ≤ mpiled.toInt ∧ mpiled.toInt ≤ 90) (hh22 : 0 ≤ munitsInRule.toInt ∧ munitsInRule.toInt ≤ 30) (hh25 : 0 ≤ macts.toInt ∧ macts.toInt ≤ 40) (hh26 : 0 ≤ mundone.toInt ∧ mundone.toInt ≤ 40) (hh34 : 0 ≤ mstates.toInt ∧ mstates.toInt ≤ 3000) (hh35 : 0 ≤ mlevels.toInt ∧ mlevels.toInt ≤ 18) (hh36 : 0 ≤ mside0.toInt ∧ mside0.toInt ≤ 5) (hh37 : 0 ≤ mside1.toInt ∧ mside1.toInt ≤ 5) (hh38 : 0 ≤ mslotFound.toInt ∧ mslotFound.toInt ≤ 8191) (hh39 : 0 ≤ misSpent.toInt ∧ misSpent.toInt ≤ 1) (hh40 : 0 ≤ mlaid.toInt ∧ mlaid.toInt ≤ 16) (hh41 : 0 ≤ msights.toInt ∧ msights.toInt ≤ 30) (hh42 : 0 ≤ mtime.toInt ∧ mtime.toInt ≤ 100000) : Met l yX12_lies (.code yX12_lies cX12_lies 2 (some .int) :: gT) ({ frames := 1, cells := 0, slots := 0, locals := 22 }) (va_Pc [.ref h, .int p0] (Pst g sz [(h, .inr (12, [.ref mtape, .ref mtext, .int mtaped, .int msize, .int mfaultKind, .int mfaultPlace, .int mat, .int mend, .int mtoken, .int mnumber, .long mname, .ref mmen, .ref mkinds, .ref mreasons, .ref mtold, .ref munits, .ref mhonour, .ref mdraw, .ref mdies, .ref mcoin, .ref msonOf, .ref mkindOf, .ref mowner, .ref mfirst, .ref mlast, .ref mrent, .ref msort, .ref mduelOne, .ref mduelOther, .ref mduelOn, .ref mruleFrom, .ref mruleTo, .ref mhasHonour, .ref mhasDraw, .ref mmName, .ref mkName, .ref mrName, .ref mdName, .ref mcode, .ref mcodeNumber, .ref meWhat, .ref meSign, .ref mpile, .int mbank, .int mrb, .int mcodes, .int mwithin, .int mpiled, .int munitsInRule, .int maskDay, .int maskUses, .int maskSpent, .ref mall, .ref mwas, .int macts, .int mundone, .ref musedBy0, .ref musedBy1, .ref mmornings, .ref mcameFrom, .ref mcameBy, .ref mlevelAt, .ref mwins, .ref mslots, .ref mlevelOf, .ref mworthOf, .int mstates, .int mlevels, .int mside0, .int mside1, .int mdeathDay, .int maway, .int mhires, .int mhirer, .int mslotFound, .int misSpent, .int mfound, .int mlaid, .ref mlaidRow, .ref mgReason, .ref mgDay, .ref mgTold, .ref mgUntold, .int msights, .int mtime, .ref mboxAll, .ref misBoxed])), (mlaidRow, aI g 16 FmlaidRow)] nX)) (va_Qi (fun (r : Int32) => fun (_ : Unit) => True) (Qst g [] sz (fun _ => [])) (va_A [] sz)) 0 0 (va_A [] sz) := by
  refine Met.ofW (cc := cX12_lies) (maxL := 2) (ret := (some .int)) (by decide) rfl ?_
  intro p e s m args below meth c s₁ B hml hv
  obtain ⟨rfl, hsz, hP, hK, hD0, hX⟩ := hv
  have hx := B.exec
  have hb := B.bytes
  have hr := B.returns
  have hT : ∀ w ∈ gT, w.before _ s = true := fun w h => atoms_spec (ws := .code yX12_lies cX12_lies 2 (some .int) :: gT) B.pre w (List.mem_cons_of_mem _ h)
  have hown : s.vm.findClass RX12 = some m.cls := findClass_of_methodNamed B.named
  have hlocks := B.notSynchronized
  subst hsz
  have hD := hD0
  generalize hAe : va_A [] s.heap.size = A at ⊢
  have hA : ∀ q : Nat, s.heap.size ≤ q → A q := fun q h => by rw [← hAe]; exact Or.inr h
  have hS : va_S A s.heap s.heap [] := va_S.rf
  have hl := lv_entry ([.ref h, .int p0]) (n := 2) (Nat.le_of_ble_eq_true rfl)
  rw [lg_entry_eq]
  generalize (lg_sl ([.ref h, .int p0]) ++ List.replicate (2 - (lg_sl ([.ref h, .int p0])).length) Slot.unset).toArray = ls at hl ⊢
  have hl : lv_has ls 2 [(0, .ref h), (1, .int p0)] := hl
  refine p_nH (fun H hH => ?_)
  have hP : va_P g.1 vwCl [(h, .inr (12, [.ref mtape, .ref mtext, .int mtaped, .int msize, .int mfaultKind, .int mfaultPlace, .int mat, .int mend, .int mtoken, .int mnumber, .long mname, .ref mmen, .ref mkinds, .ref mreasons, .ref mtold, .ref munits, .ref mhonour, .ref mdraw, .ref mdies, .ref mcoin, .ref msonOf, .ref mkindOf, .ref mowner, .ref mfirst, .ref mlast, .ref mrent, .ref msort, .ref mduelOne, .ref mduelOther, .ref mduelOn, .ref mruleFrom, .ref mruleTo, .ref mhasHonour, .ref mhasDraw, .ref mmName, .ref mkName, .ref mrName, .ref mdName, .ref mcode, .ref mcodeNumber, .ref meWhat, .ref meSign, .ref mpile, .int mbank, .int mrb, .int mcodes, .int mwithin, .int mpiled, .int munitsInRule, .int maskDay, .int maskUses, .int maskSpent, .ref mall, .ref mwas, .int macts, .int mundone, .ref musedBy0, .ref musedBy1, .ref mmornings, .ref mcameFrom, .ref mcameBy, .ref mlevelAt, .ref mwins, .ref mslots, .ref mlevelOf, .ref mworthOf, .int mstates, .int mlevels, .int mside0, .int mside1, .int mdeathDay, .int maway, .int mhires, .int mhirer, .int mslotFound, .int misSpent, .int mfound, .int mlaid, .ref mlaidRow, .ref mgReason, .ref mgDay, .ref mgTold, .ref mgUntold, .int msights, .int mtime, .ref mboxAll, .ref misBoxed])), (mlaidRow, aI g 16 FmlaidRow)] H := by rw [hH]; exact hP
  have hS : va_S A s.heap H [] := by rw [hH]; exact hS
  refine lv_iload_n hx hb dX12_lies_0 rfl (lv_at hl 1 rfl) ?_
  refine lv_iconst (v := 0) hx hb dX12_lies_1 (by decide) ?_
  refine lv_aload_n hx hb dX12_lies_2 rfl (lv_at hl 0 rfl) ?_
  refine va_get (D := g.1) (ci := 12) (v := .int mlaid) (C := RX12) (T := TX12) (N := 87) hx hb hT inF_X12 hown hK.1 hP 0 rfl rfl 77 (by decide) (hT _ bw_952) (fun _ h9 => h9) rfl dX12_lies_3 ?_
  refine lv_iconst (v := 1) hx hb dX12_lies_6 (by decide) ?_
  refine lv_isub hx hb dX12_lies_7 ?_
  refine lv_topi (fun x_1 ex_1 => ?_)
  have fx_1 : x_1.toInt = mlaid.toInt - 1 := by rw [ex_1]; exact I_sub rfl (by decide : (1 : Int32).toInt = 1) (by omega) (by omega)
  refine k_iR (k_S (n := 3) ⟨hx, hb, hml, hown, hT⟩ hK hP hD [] rfl (by decide +kernel) (s_X12_isIn l g H.size p0 0 x_1) (gS bw_826 bw_827 bw_828 bw_817) rfl rfl (by decide +kernel) ⟨by decide, by decide⟩ (fun _ _ _ _ _ => trivial) (fun _ _ _ => trivial) rfl rfl hl.1 (Nat.le_of_ble_eq_true rfl) dX12_lies_8 ⟨by decide, by decide⟩) hP hS hA (fun r_2 _ H locs hw0 hP hS => ?_)
  have hw : (r_2 = 1 ∧ (0 ≤ p0.toInt ∧ p0.toInt ≤ x_1.toInt)) ∨ (r_2 = 0 ∧ (p0.toInt < 0 ∨ x_1.toInt < p0.toInt)) := hw0
  clear hw0
  rcases hw with ⟨e_4, w_3⟩ | ⟨e_6, w_5⟩
  · subst e_4
    refine lv_if_eq (tgt := 23) hx hb dX12_lies_11 (by decide) (fun c9 => absurd c9 (by decide)) (fun _ => ?_)
    refine lv_aload_n hx hb dX12_lies_14 rfl (lv_at hl 0 rfl) ?_
    refine va_get (D := g.1) (ci := 12) (v := .ref mlaidRow) (C := RX12) (T := TX12) (N := 87) hx hb hT inF_X12 hown hK.1 hP 0 rfl rfl 78 (by decide) (hT _ bw_953) (fun _ h9 => h9) rfl dX12_lies_15 ?_
    refine lv_iload_n hx hb dX12_lies_18 rfl (lv_at hl 1 rfl) ?_
    have h_7 : vp_in p0 16 := vp_in_iff.mpr (by omega)
    refine va_iald hx hb hK.1 hP 1 1 rfl rfl (i := p0) h_7 dX12_lies_19 ?_
    refine lv_topi (fun x_8 ex_8 => ?_)
    have ux_8 := congrArg Int32.toInt ex_8
    refine lv_goto (tgt := 24) hx hb dX12_lies_20 (by decide) ?_
    have hP9 : va_P g.1 vwCl [] H := hP.sub [] rfl
    have hD9 : va_D A [] := ⟨fun i j p q h => by simp at h, fun k q h => by simp at h⟩
    exact W.iret (v := x_8) hx hb hr (fun t ht hW => ⟨⟨x_8, (), rfl, trivial, by rw [ht]; exact hP9, by rw [hAe]; exact hD9⟩, hS.F ht⟩) hS.2.2 dX12_lies_24
  · subst e_6
    refine lv_if_eq (tgt := 23) hx hb dX12_lies_11 (by decide) (fun _ => ?_) (fun c9 => absurd (by decide) c9)
    refine lv_iconst (v := (-1)) hx hb dX12_lies_23 (by decide) ?_
    have hP9 : va_P g.1 vwCl [] H := hP.sub [] rfl
    have hD9 : va_D A [] := ⟨fun i j p q h => by simp at h, fun k q h => by simp at h⟩
    exact W.iret (v := (-1)) hx hb hr (fun t ht hW => ⟨⟨(-1), (), rfl, trivial, by rw [ht]; exact hP9, by rw [hAe]; exact hD9⟩, hS.F ht⟩) hS.2.2 dX12_lies_24

theorem bw_955 : Cond.code yX12_openMany cX12_openMany 3 (some .int) ∈ gT := gT_tb 2064 (by decide +kernel) (by decide +kernel)
theorem dX12_openMany_0 : decode cX12_openMany 0 = .ok (.iconst 0, 1) := by decide +kernel
theorem dX12_openMany_1 : decode cX12_openMany 1 = .ok (.istore_n 1, 1) := by decide +kernel
theorem dX12_openMany_2 : decode cX12_openMany 2 = .ok (.iconst 0, 1) := by decide +kernel
theorem dX12_openMany_3 : decode cX12_openMany 3 = .ok (.istore_n 2, 1) := by decide +kernel
theorem dX12_openMany_4 : decode cX12_openMany 4 = .ok (.iload_n 2, 1) := by decide +kernel
theorem dX12_openMany_5 : decode cX12_openMany 5 = .ok (.aload_n 0, 1) := by decide +kernel
theorem dX12_openMany_6 : decode cX12_openMany 6 = .ok (.getfield 119, 3) := by decide +kernel
theorem dX12_openMany_9 : decode cX12_openMany 9 = .ok (.bipush 70, 2) := by decide +kernel
theorem dX12_openMany_11 : decode cX12_openMany 11 = .ok (.iaload, 1) := by decide +kernel
theorem dX12_openMany_12 : decode cX12_openMany 12 = .ok (.if_icmp .ge 18, 3) := by decide +kernel
theorem dX12_openMany_15 : decode cX12_openMany 15 = .ok (.iload_n 1, 1) := by decide +kernel
theorem dX12_openMany_16 : decode cX12_openMany 16 = .ok (.aload_n 0, 1) := by decide +kernel
theorem dX12_openMany_17 : decode cX12_openMany 17 = .ok (.iload_n 2, 1) := by decide +kernel
theorem dX12_openMany_18 : decode cX12_openMany 18 = .ok (.iconst 4, 1) := by decide +kernel
theorem dX12_openMany_19 : decode cX12_openMany 19 = .ok (.invokevirtual 418, 3) := by decide +kernel
theorem dX12_openMany_22 : decode cX12_openMany 22 = .ok (.iadd, 1) := by decide +kernel
theorem dX12_openMany_23 : decode cX12_openMany 23 = .ok (.istore_n 1, 1) := by decide +kernel
theorem dX12_openMany_24 : decode cX12_openMany 24 = .ok (.iinc 2 1, 3) := by decide +kernel
theorem dX12_openMany_27 : decode cX12_openMany 27 = .ok (.goto (-23), 3) := by decide +kernel
theorem dX12_openMany_30 : decode cX12_openMany 30 = .ok (.iload_n 1, 1) := by decide +kernel
theorem dX12_openMany_31 : decode cX12_openMany 31 = .ok (.ireturn, 1) := by decide +kernel
set_option maxHeartbeats 40000000 in
set_option maxRecDepth 100000 in
theorem s_X12_openMany (l : Launch) (g : GG) (sz : Nat) (h : Nat) (mtape : Nat) (mtext : Nat) (mtaped : Int32) (msize : Int32) (mfaultKind : Int32) (mfaultPlace : Int32) (mat : Int32) (mend : Int32) (mtoken : Int32) (mnumber : Int32) (mname : Int64) (mmen : Nat) (mkinds : Nat) (mreasons : Nat) (mtold : Nat) (munits : Nat) (mhonour : Nat) (mdraw : Nat) (mdies : Nat) (mcoin : Nat) (msonOf : Nat) (mkindOf : Nat) (mowner : Nat) (mfirst : Nat) (mlast : Nat) (mrent : Nat) (msort : Nat) (mduelOne : Nat) (mduelOther : Nat) (mduelOn : Nat) (mruleFrom : Nat) (mruleTo : Nat) (mhasHonour : Nat) (mhasDraw : Nat) (mmName : Nat) (mkName : Nat) (mrName : Nat) (mdName : Nat) (mcode : Nat) (mcodeNumber : Nat) (meWhat : Nat) (meSign : Nat) (mpile : Nat) (mbank : Int32) (mrb : Int32) (mcodes : Int32) (mwithin : Int32) (mpiled : Int32) (munitsInRule : Int32) (maskDay : Int32) (maskUses : Int32) (maskSpent : Int32) (mall : Nat) (Fmall : Nat → Int32) (mwas : Nat) (macts : Int32) (mundone : Int32) (musedBy0 : Nat) (musedBy1 : Nat) (mmornings : Nat) (mcameFrom : Nat) (mcameBy : Nat) (mlevelAt : Nat) (mwins : Nat) (mslots : Nat) (mlevelOf : Nat) (mworthOf : Nat) (mstates : Int32) (mlevels : Int32) (mside0 : Int32) (mside1 : Int32) (mdeathDay : Int32) (maway : Int32) (mhires : Int32) (mhirer : Int32) (mslotFound : Int32) (misSpent : Int32) (mfound : Int32) (mlaid : Int32) (mlaidRow : Nat) (mgReason : Nat) (mgDay : Nat) (mgTold : Nat) (mgUntold : Nat) (msights : Int32) (mtime : Int32) (mboxAll : Nat) (misBoxed : Nat) (hh0 : 0 ≤ mtaped.toInt ∧ mtaped.toInt ≤ 1600) (hh1 : 0 ≤ msize.toInt ∧ msize.toInt ≤ 1600) (hh2 : 0 ≤ mat.toInt ∧ mat.toInt ≤ 1600) (hh3 : 0 ≤ mend.toInt ∧ mend.toInt ≤ 1600) (hh4 : 0 ≤ mtoken.toInt ∧ mtoken.toInt ≤ 5) (hh18 : 0 ≤ mbank.toInt ∧ mbank.toInt ≤ 1) (hh19 : 0 ≤ mrb.toInt ∧ mrb.toInt ≤ 1) (hh20 : 0 ≤ mcodes.toInt ∧ mcodes.toInt ≤ 1120) (hh21 : 0 ≤ mpiled.toInt ∧ mpiled.toInt ≤ 90) (hh22 : 0 ≤ munitsInRule.toInt ∧ munitsInRule.toInt ≤ 30) (hh23 : Ia Fmall) (hh25 : 0 ≤ macts.toInt ∧ macts.toInt ≤ 40) (hh26 : 0 ≤ mundone.toInt ∧ mundone.toInt ≤ 40) (hh34 : 0 ≤ mstates.toInt ∧ mstates.toInt ≤ 3000) (hh35 : 0 ≤ mlevels.toInt ∧ mlevels.toInt ≤ 18) (hh36 : 0 ≤ mside0.toInt ∧ mside0.toInt ≤ 5) (hh37 : 0 ≤ mside1.toInt ∧ mside1.toInt ≤ 5) (hh38 : 0 ≤ mslotFound.toInt ∧ mslotFound.toInt ≤ 8191) (hh39 : 0 ≤ misSpent.toInt ∧ misSpent.toInt ≤ 1) (hh40 : 0 ≤ mlaid.toInt ∧ mlaid.toInt ≤ 16) (hh41 : 0 ≤ msights.toInt ∧ msights.toInt ≤ 30) (hh42 : 0 ≤ mtime.toInt ∧ mtime.toInt ≤ 100000) : Met l yX12_openMany (.code yX12_openMany cX12_openMany 3 (some .int) :: gT) ({ frames := 1, cells := 0, slots := 0, locals := 22 }) (va_Pc [.ref h] (Pst g sz [(h, .inr (12, [.ref mtape, .ref mtext, .int mtaped, .int msize, .int mfaultKind, .int mfaultPlace, .int mat, .int mend, .int mtoken, .int mnumber, .long mname, .ref mmen, .ref mkinds, .ref mreasons, .ref mtold, .ref munits, .ref mhonour, .ref mdraw, .ref mdies, .ref mcoin, .ref msonOf, .ref mkindOf, .ref mowner, .ref mfirst, .ref mlast, .ref mrent, .ref msort, .ref mduelOne, .ref mduelOther, .ref mduelOn, .ref mruleFrom, .ref mruleTo, .ref mhasHonour, .ref mhasDraw, .ref mmName, .ref mkName, .ref mrName, .ref mdName, .ref mcode, .ref mcodeNumber, .ref meWhat, .ref meSign, .ref mpile, .int mbank, .int mrb, .int mcodes, .int mwithin, .int mpiled, .int munitsInRule, .int maskDay, .int maskUses, .int maskSpent, .ref mall, .ref mwas, .int macts, .int mundone, .ref musedBy0, .ref musedBy1, .ref mmornings, .ref mcameFrom, .ref mcameBy, .ref mlevelAt, .ref mwins, .ref mslots, .ref mlevelOf, .ref mworthOf, .int mstates, .int mlevels, .int mside0, .int mside1, .int mdeathDay, .int maway, .int mhires, .int mhirer, .int mslotFound, .int misSpent, .int mfound, .int mlaid, .ref mlaidRow, .ref mgReason, .ref mgDay, .ref mgTold, .ref mgUntold, .int msights, .int mtime, .ref mboxAll, .ref misBoxed])), (mall, aI g 374 Fmall)] nX)) (va_Qi (fun (r : Int32) => fun (_ : Unit) => True) (Qst g [] sz (fun _ => [])) (va_A [] sz)) 0 0 (va_A [] sz) := by
  refine Met.ofW (cc := cX12_openMany) (maxL := 3) (ret := (some .int)) (by decide) rfl ?_
  intro p e s m args below meth c s₁ B hml hv
  obtain ⟨rfl, hsz, hP, hK, hD0, hX⟩ := hv
  have hx := B.exec
  have hb := B.bytes
  have hr := B.returns
  have hT : ∀ w ∈ gT, w.before _ s = true := fun w h => atoms_spec (ws := .code yX12_openMany cX12_openMany 3 (some .int) :: gT) B.pre w (List.mem_cons_of_mem _ h)
  have hown : s.vm.findClass RX12 = some m.cls := findClass_of_methodNamed B.named
  have hlocks := B.notSynchronized
  subst hsz
  have hD := hD0
  generalize hAe : va_A [] s.heap.size = A at ⊢
  have hA : ∀ q : Nat, s.heap.size ≤ q → A q := fun q h => by rw [← hAe]; exact Or.inr h
  have hS : va_S A s.heap s.heap [] := va_S.rf
  have hl := lv_entry ([.ref h]) (n := 3) (Nat.le_of_ble_eq_true rfl)
  rw [lg_entry_eq]
  generalize (lg_sl ([.ref h]) ++ List.replicate (3 - (lg_sl ([.ref h])).length) Slot.unset).toArray = ls at hl ⊢
  have hl : lv_has ls 3 [(0, .ref h)] := hl
  refine p_nH (fun H hH => ?_)
  have hP : va_P g.1 vwCl [(h, .inr (12, [.ref mtape, .ref mtext, .int mtaped, .int msize, .int mfaultKind, .int mfaultPlace, .int mat, .int mend, .int mtoken, .int mnumber, .long mname, .ref mmen, .ref mkinds, .ref mreasons, .ref mtold, .ref munits, .ref mhonour, .ref mdraw, .ref mdies, .ref mcoin, .ref msonOf, .ref mkindOf, .ref mowner, .ref mfirst, .ref mlast, .ref mrent, .ref msort, .ref mduelOne, .ref mduelOther, .ref mduelOn, .ref mruleFrom, .ref mruleTo, .ref mhasHonour, .ref mhasDraw, .ref mmName, .ref mkName, .ref mrName, .ref mdName, .ref mcode, .ref mcodeNumber, .ref meWhat, .ref meSign, .ref mpile, .int mbank, .int mrb, .int mcodes, .int mwithin, .int mpiled, .int munitsInRule, .int maskDay, .int maskUses, .int maskSpent, .ref mall, .ref mwas, .int macts, .int mundone, .ref musedBy0, .ref musedBy1, .ref mmornings, .ref mcameFrom, .ref mcameBy, .ref mlevelAt, .ref mwins, .ref mslots, .ref mlevelOf, .ref mworthOf, .int mstates, .int mlevels, .int mside0, .int mside1, .int mdeathDay, .int maway, .int mhires, .int mhirer, .int mslotFound, .int misSpent, .int mfound, .int mlaid, .ref mlaidRow, .ref mgReason, .ref mgDay, .ref mgTold, .ref mgUntold, .int msights, .int mtime, .ref mboxAll, .ref misBoxed])), (mall, aI g 374 Fmall)] H := by rw [hH]; exact hP
  have hS : va_S A s.heap H [] := by rw [hH]; exact hS
  refine lv_iconst (v := 0) hx hb dX12_openMany_0 (by decide) ?_
  refine lv_istore_n (lv' := [(1, .int 0), (0, .ref h)]) hx hb dX12_openMany_1 rfl hl (by decide) rfl (fun ls hl => ?_)
  refine lv_iconst (v := 0) hx hb dX12_openMany_2 (by decide) ?_
  refine lv_istore_n (lv' := [(2, .int 0), (1, .int 0), (0, .ref h)]) hx hb dX12_openMany_3 rfl hl (by decide) rfl (fun ls hl => ?_)
  refine k_floop 4 (fun n H locs ls => ∃ (L_1 : Int32) (L_2 : Int32), (0 ≤ L_1.toInt ∧ L_1.toInt ≤ 8) ∧ 8 - L_1.toInt ≤ (n : Int) ∧ va_P g.1 vwCl [(h, .inr (12, [.ref mtape, .ref mtext, .int mtaped, .int msize, .int mfaultKind, .int mfaultPlace, .int mat, .int mend, .int mtoken, .int mnumber, .long mname, .ref mmen, .ref mkinds, .ref mreasons, .ref mtold, .ref munits, .ref mhonour, .ref mdraw, .ref mdies, .ref mcoin, .ref msonOf, .ref mkindOf, .ref mowner, .ref mfirst, .ref mlast, .ref mrent, .ref msort, .ref mduelOne, .ref mduelOther, .ref mduelOn, .ref mruleFrom, .ref mruleTo, .ref mhasHonour, .ref mhasDraw, .ref mmName, .ref mkName, .ref mrName, .ref mdName, .ref mcode, .ref mcodeNumber, .ref meWhat, .ref meSign, .ref mpile, .int mbank, .int mrb, .int mcodes, .int mwithin, .int mpiled, .int munitsInRule, .int maskDay, .int maskUses, .int maskSpent, .ref mall, .ref mwas, .int macts, .int mundone, .ref musedBy0, .ref musedBy1, .ref mmornings, .ref mcameFrom, .ref mcameBy, .ref mlevelAt, .ref mwins, .ref mslots, .ref mlevelOf, .ref mworthOf, .int mstates, .int mlevels, .int mside0, .int mside1, .int mdeathDay, .int maway, .int mhires, .int mhirer, .int mslotFound, .int misSpent, .int mfound, .int mlaid, .ref mlaidRow, .ref mgReason, .ref mgDay, .ref mgTold, .ref mgUntold, .int msights, .int mtime, .ref mboxAll, .ref misBoxed])), (mall, aI g 374 Fmall)] H ∧ va_S A s.heap H locs ∧ lv_has ls 3 [(2, .int L_1), (1, .int L_2), (0, .ref h)]) (fun n H locs ls hI ih => ?_) ((8 - 0 : Int)).toNat ⟨0, 0, by decide, by have k0 : (0 : Int32).toInt = 0 := (by decide); omega, hP, hS, hl⟩
  refine hI.elim (fun L_1 hI => hI.elim (fun L_2 hI => ?_))
  have g_3 := hI.1
  have hm_4 := hI.2.1
  have hP := hI.2.2.1
  have hS := hI.2.2.2.1
  have hl := hI.2.2.2.2
  clear hI
  refine lv_iload_n hx hb dX12_openMany_4 rfl (lv_at hl 0 rfl) ?_
  refine lv_aload_n hx hb dX12_openMany_5 rfl (lv_at hl 2 rfl) ?_
  refine va_get (D := g.1) (ci := 12) (v := .ref mall) (C := RX12) (T := TX12) (N := 87) hx hb hT inF_X12 hown hK.1 hP 0 rfl rfl 52 (by decide) (hT _ bw_832) (fun _ h9 => h9) rfl dX12_openMany_6 ?_
  refine lv_bipush (v := 70) hx hb dX12_openMany_9 (by decide) ?_
  have h_5 : vp_in 70 374 := vp_in_iff.mpr (by decide)
  refine va_iald hx hb hK.1 hP 1 1 rfl rfl (i := 70) h_5 dX12_openMany_11 ?_
  refine lv_topi (fun x_6 ex_6 => ?_)
  have cn_7 : (70 : Int32).toNatClampNeg = 70 := by decide
  have ux_6 := congrArg Int32.toInt ex_6
  have px_6 : In ((70 : Int32).toNatClampNeg % 374) x_6.toInt := Im.rd hh23 h_5 ex_6
  have fx_6 : 0 ≤ x_6.toInt ∧ x_6.toInt ≤ 8 := px_6.1 (by omega)
  refine lv_icmp_ge (tgt := 30) hx hb dX12_openMany_12 (by decide) (fun c_8 => ?_) (fun c_8 => ?_)
  · have f_9 := E_le (rfl : x_6.toInt = _) (rfl : L_1.toInt = _) c_8
    refine lv_iload_n hx hb dX12_openMany_30 rfl (lv_at hl 1 rfl) ?_
    have hP9 : va_P g.1 vwCl [] H := hP.sub [] rfl
    have hD9 : va_D A [] := ⟨fun i j p q h => by simp at h, fun k q h => by simp at h⟩
    exact W.iret (v := L_2) hx hb hr (fun t ht hW => ⟨⟨L_2, (), rfl, trivial, by rw [ht]; exact hP9, by rw [hAe]; exact hD9⟩, hS.F ht⟩) hS.2.2 dX12_openMany_31
  · have f_10 := E_nle (rfl : x_6.toInt = _) (rfl : L_1.toInt = _) c_8
    refine lv_iload_n hx hb dX12_openMany_15 rfl (lv_at hl 1 rfl) ?_
    refine lv_aload_n hx hb dX12_openMany_16 rfl (lv_at hl 2 rfl) ?_
    refine lv_iload_n hx hb dX12_openMany_17 rfl (lv_at hl 0 rfl) ?_
    refine lv_iconst (v := 4) hx hb dX12_openMany_18 (by decide) ?_
    refine k_iR (k_V (n := 2) ⟨hx, hb, hml, hown, hT⟩ hK hP hD [0, 1] rfl (by decide +kernel) (s_X12_of_4 l g H.size h mtape mtext mtaped msize mfaultKind mfaultPlace mat mend mtoken mnumber mname mmen mkinds mreasons mtold munits mhonour mdraw mdies mcoin msonOf mkindOf mowner mfirst mlast mrent msort mduelOne mduelOther mduelOn mruleFrom mruleTo mhasHonour mhasDraw mmName mkName mrName mdName mcode mcodeNumber meWhat meSign mpile mbank mrb mcodes mwithin mpiled munitsInRule maskDay maskUses maskSpent mall Fmall mwas macts mundone musedBy0 musedBy1 mmornings mcameFrom mcameBy mlevelAt mwins mslots mlevelOf mworthOf mstates mlevels mside0 mside1 mdeathDay maway mhires mhirer mslotFound misSpent mfound mlaid mlaidRow mgReason mgDay mgTold mgUntold msights mtime mboxAll misBoxed L_1 (by first | with_reducible assumption | omega) (by first | with_reducible assumption | omega) (by first | with_reducible assumption | omega) (by first | with_reducible assumption | omega) (by first | with_reducible assumption | omega) (by first | with_reducible assumption | omega) (by first | with_reducible assumption | omega) (by first | with_reducible assumption | omega) (by first | with_reducible assumption | omega) (by first | with_reducible assumption | omega) hh23 (by first | with_reducible assumption | omega) (by first | with_reducible assumption | omega) (by first | with_reducible assumption | omega) (by first | with_reducible assumption | omega) (by first | with_reducible assumption | omega) (by first | with_reducible assumption | omega) (by first | with_reducible assumption | omega) (by first | with_reducible assumption | omega) (by first | with_reducible assumption | omega) (by first | with_reducible assumption | omega) (by first | with_reducible assumption | omega) (by first | with_reducible assumption | omega)) (gV bw_841 bw_842 bw_843 bw_840 bw_836) rfl rfl (by decide +kernel) ⟨by decide, by decide⟩ (ci := 12) (q0 := 0) rfl rfl (fun _ _ _ _ _ => trivial) (fun _ _ _ => trivial) rfl rfl hl.1 (Nat.le_of_ble_eq_true rfl) dX12_openMany_19 ⟨by decide, by decide⟩) hP hS hA (fun r_11 _ H locs hw0 hP hS => ?_)
    refine lv_iadd hx hb dX12_openMany_22 ?_
    refine lv_topi (fun x_12 ex_12 => ?_)
    refine lv_istore_n (lv' := [(1, .int x_12), (2, .int L_1), (0, .ref h)]) hx hb dX12_openMany_23 rfl hl (by decide) rfl (fun ls hl => ?_)
    obtain ⟨x_13, ex_13⟩ : ∃ y : Int32, y = L_1 + 1 := ⟨_, rfl⟩
    have fx_13 : x_13.toInt = L_1.toInt + 1 := by rw [ex_13]; exact I_add rfl (by decide) (by omega) (by omega)
    refine lv_iinc (v := x_13) (lv' := [(2, .int x_13), (1, .int x_12), (0, .ref h)]) hx hb dX12_openMany_24 hl (k := 1) rfl (by rw [ex_13]; rfl) (by decide) rfl (fun ls hl => ?_)
    refine lv_goto (tgt := 4) hx hb dX12_openMany_27 (by decide) ?_
    exact ih (n - 1) (by omega) H locs ls ⟨x_13, x_12, (by first | with_reducible assumption | omega), by omega, hP.sub [0, 1] rfl, hS, lv_sub hl [0, 1, 2] rfl⟩

theorem bw_956 : Cond.fieldLink RX12 24 "DuelDelaysModel" "kinds" "[I" ∈ gT := gT_tb 1317 (by decide +kernel) (by decide +kernel)
theorem bw_957 : Cond.methodLink RX12 615 yX12_openMany ∈ gT := gT_tb 2061 (by decide +kernel) (by decide +kernel)
theorem bw_958 : Cond.instanceMethod yX12_openMany ∈ gT := gT_tb 2063 (by decide +kernel) (by decide +kernel)
theorem bw_959 : Cond.selects RX12 yX12_openMany yX12_openMany ∈ gT := gT_sl 128 (by decide +kernel) (by decide +kernel)
theorem bw_960 : Cond.fieldLink RX12 425 "DuelDelaysModel" "acts" "I" ∈ gT := gT_tb 1359 (by decide +kernel) (by decide +kernel)
theorem bw_961 : Cond.fieldLink RX12 428 "DuelDelaysModel" "undone" "I" ∈ gT := gT_tb 1360 (by decide +kernel) (by decide +kernel)
theorem bw_962 : Cond.fieldLink RX12 431 "DuelDelaysModel" "sights" "I" ∈ gT := gT_tb 1388 (by decide +kernel) (by decide +kernel)
theorem bw_963 : Cond.fieldLink RX12 608 "DuelDelaysModel" "time" "I" ∈ gT := gT_tb 1389 (by decide +kernel) (by decide +kernel)
theorem bw_964 : Cond.fieldLink RX12 305 "DuelDelaysModel" "taped" "I" ∈ gT := gT_tb 1307 (by decide +kernel) (by decide +kernel)
theorem bw_965 : Cond.fieldLink RX12 33 "DuelDelaysModel" "units" "[I" ∈ gT := gT_tb 1320 (by decide +kernel) (by decide +kernel)
theorem bw_966 : Cond.code yX12_about cX12_about 2 (some .int) ∈ gT := gT_tb 2060 (by decide +kernel) (by decide +kernel)
theorem dX12_about_0 : decode cX12_about 0 = .ok (.iload_n 1, 1) := by decide +kernel
theorem dX12_about_1 : decode cX12_about 1 = .ok (.tableswitch 193 0 15 #[79, 89, 99, 109, 117, 125, 133, 140, 145, 153, 158, 163, 168, 173, 178, 188], 79) := by decide +kernel
theorem dX12_about_80 : decode cX12_about 80 = .ok (.aload_n 0, 1) := by decide +kernel
theorem dX12_about_81 : decode cX12_about 81 = .ok (.getfield 20, 3) := by decide +kernel
theorem dX12_about_84 : decode cX12_about 84 = .ok (.aload_n 0, 1) := by decide +kernel
theorem dX12_about_85 : decode cX12_about 85 = .ok (.getfield 308, 3) := by decide +kernel
theorem dX12_about_88 : decode cX12_about 88 = .ok (.iaload, 1) := by decide +kernel
theorem dX12_about_89 : decode cX12_about 89 = .ok (.ireturn, 1) := by decide +kernel
theorem dX12_about_90 : decode cX12_about 90 = .ok (.aload_n 0, 1) := by decide +kernel
theorem dX12_about_91 : decode cX12_about 91 = .ok (.getfield 24, 3) := by decide +kernel
theorem dX12_about_94 : decode cX12_about 94 = .ok (.aload_n 0, 1) := by decide +kernel
theorem dX12_about_95 : decode cX12_about 95 = .ok (.getfield 308, 3) := by decide +kernel
theorem dX12_about_98 : decode cX12_about 98 = .ok (.iaload, 1) := by decide +kernel
theorem dX12_about_99 : decode cX12_about 99 = .ok (.ireturn, 1) := by decide +kernel
theorem dX12_about_100 : decode cX12_about 100 = .ok (.aload_n 0, 1) := by decide +kernel
theorem dX12_about_101 : decode cX12_about 101 = .ok (.getfield 27, 3) := by decide +kernel
theorem dX12_about_104 : decode cX12_about 104 = .ok (.aload_n 0, 1) := by decide +kernel
theorem dX12_about_105 : decode cX12_about 105 = .ok (.getfield 308, 3) := by decide +kernel
theorem dX12_about_108 : decode cX12_about 108 = .ok (.iaload, 1) := by decide +kernel
theorem dX12_about_109 : decode cX12_about 109 = .ok (.ireturn, 1) := by decide +kernel
theorem dX12_about_110 : decode cX12_about 110 = .ok (.aload_n 0, 1) := by decide +kernel
theorem dX12_about_111 : decode cX12_about 111 = .ok (.getfield 119, 3) := by decide +kernel
theorem dX12_about_114 : decode cX12_about 114 = .ok (.bipush 70, 2) := by decide +kernel
theorem dX12_about_116 : decode cX12_about 116 = .ok (.iaload, 1) := by decide +kernel
theorem dX12_about_117 : decode cX12_about 117 = .ok (.ireturn, 1) := by decide +kernel
theorem dX12_about_118 : decode cX12_about 118 = .ok (.aload_n 0, 1) := by decide +kernel
theorem dX12_about_119 : decode cX12_about 119 = .ok (.getfield 119, 3) := by decide +kernel
theorem dX12_about_122 : decode cX12_about 122 = .ok (.bipush 72, 2) := by decide +kernel
theorem dX12_about_124 : decode cX12_about 124 = .ok (.iaload, 1) := by decide +kernel
theorem dX12_about_125 : decode cX12_about 125 = .ok (.ireturn, 1) := by decide +kernel
theorem dX12_about_126 : decode cX12_about 126 = .ok (.aload_n 0, 1) := by decide +kernel
theorem dX12_about_127 : decode cX12_about 127 = .ok (.getfield 119, 3) := by decide +kernel
theorem dX12_about_130 : decode cX12_about 130 = .ok (.bipush 73, 2) := by decide +kernel
theorem dX12_about_132 : decode cX12_about 132 = .ok (.iaload, 1) := by decide +kernel
theorem dX12_about_133 : decode cX12_about 133 = .ok (.ireturn, 1) := by decide +kernel
theorem dX12_about_134 : decode cX12_about 134 = .ok (.aload_n 0, 1) := by decide +kernel
theorem dX12_about_135 : decode cX12_about 135 = .ok (.getfield 119, 3) := by decide +kernel
theorem dX12_about_138 : decode cX12_about 138 = .ok (.iconst 0, 1) := by decide +kernel
theorem dX12_about_139 : decode cX12_about 139 = .ok (.iaload, 1) := by decide +kernel
theorem dX12_about_140 : decode cX12_about 140 = .ok (.ireturn, 1) := by decide +kernel
theorem dX12_about_141 : decode cX12_about 141 = .ok (.aload_n 0, 1) := by decide +kernel
theorem dX12_about_142 : decode cX12_about 142 = .ok (.invokevirtual 615, 3) := by decide +kernel
theorem dX12_about_145 : decode cX12_about 145 = .ok (.ireturn, 1) := by decide +kernel
theorem dX12_about_146 : decode cX12_about 146 = .ok (.aload_n 0, 1) := by decide +kernel
theorem dX12_about_147 : decode cX12_about 147 = .ok (.getfield 119, 3) := by decide +kernel
theorem dX12_about_150 : decode cX12_about 150 = .ok (.bipush 71, 2) := by decide +kernel
theorem dX12_about_152 : decode cX12_about 152 = .ok (.iaload, 1) := by decide +kernel
theorem dX12_about_153 : decode cX12_about 153 = .ok (.ireturn, 1) := by decide +kernel
theorem dX12_about_154 : decode cX12_about 154 = .ok (.aload_n 0, 1) := by decide +kernel
theorem dX12_about_155 : decode cX12_about 155 = .ok (.getfield 425, 3) := by decide +kernel
theorem dX12_about_158 : decode cX12_about 158 = .ok (.ireturn, 1) := by decide +kernel
theorem dX12_about_159 : decode cX12_about 159 = .ok (.aload_n 0, 1) := by decide +kernel
theorem dX12_about_160 : decode cX12_about 160 = .ok (.getfield 428, 3) := by decide +kernel
theorem dX12_about_163 : decode cX12_about 163 = .ok (.ireturn, 1) := by decide +kernel
theorem dX12_about_164 : decode cX12_about 164 = .ok (.aload_n 0, 1) := by decide +kernel
theorem dX12_about_165 : decode cX12_about 165 = .ok (.getfield 431, 3) := by decide +kernel
theorem dX12_about_168 : decode cX12_about 168 = .ok (.ireturn, 1) := by decide +kernel
theorem dX12_about_169 : decode cX12_about 169 = .ok (.aload_n 0, 1) := by decide +kernel
theorem dX12_about_170 : decode cX12_about 170 = .ok (.getfield 608, 3) := by decide +kernel
theorem dX12_about_173 : decode cX12_about 173 = .ok (.ireturn, 1) := by decide +kernel
theorem dX12_about_174 : decode cX12_about 174 = .ok (.aload_n 0, 1) := by decide +kernel
theorem dX12_about_175 : decode cX12_about 175 = .ok (.getfield 305, 3) := by decide +kernel
theorem dX12_about_178 : decode cX12_about 178 = .ok (.ireturn, 1) := by decide +kernel
theorem dX12_about_179 : decode cX12_about 179 = .ok (.aload_n 0, 1) := by decide +kernel
theorem dX12_about_180 : decode cX12_about 180 = .ok (.getfield 33, 3) := by decide +kernel
theorem dX12_about_183 : decode cX12_about 183 = .ok (.aload_n 0, 1) := by decide +kernel
theorem dX12_about_184 : decode cX12_about 184 = .ok (.getfield 308, 3) := by decide +kernel
theorem dX12_about_187 : decode cX12_about 187 = .ok (.iaload, 1) := by decide +kernel
theorem dX12_about_188 : decode cX12_about 188 = .ok (.ireturn, 1) := by decide +kernel
theorem dX12_about_189 : decode cX12_about 189 = .ok (.aload_n 0, 1) := by decide +kernel
theorem dX12_about_190 : decode cX12_about 190 = .ok (.getfield 434, 3) := by decide +kernel
theorem dX12_about_193 : decode cX12_about 193 = .ok (.ireturn, 1) := by decide +kernel
theorem dX12_about_194 : decode cX12_about 194 = .ok (.iconst (-1), 1) := by decide +kernel
theorem dX12_about_195 : decode cX12_about 195 = .ok (.ireturn, 1) := by decide +kernel
set_option maxHeartbeats 40000000 in
set_option maxRecDepth 100000 in
theorem s_X12_about (l : Launch) (g : GG) (sz : Nat) (h : Nat) (mtape : Nat) (mtext : Nat) (mtaped : Int32) (msize : Int32) (mfaultKind : Int32) (mfaultPlace : Int32) (mat : Int32) (mend : Int32) (mtoken : Int32) (mnumber : Int32) (mname : Int64) (mmen : Nat) (Fmmen : Nat → Int32) (mkinds : Nat) (Fmkinds : Nat → Int32) (mreasons : Nat) (Fmreasons : Nat → Int32) (mtold : Nat) (munits : Nat) (Fmunits : Nat → Int32) (mhonour : Nat) (mdraw : Nat) (mdies : Nat) (mcoin : Nat) (msonOf : Nat) (mkindOf : Nat) (mowner : Nat) (mfirst : Nat) (mlast : Nat) (mrent : Nat) (msort : Nat) (mduelOne : Nat) (mduelOther : Nat) (mduelOn : Nat) (mruleFrom : Nat) (mruleTo : Nat) (mhasHonour : Nat) (mhasDraw : Nat) (mmName : Nat) (mkName : Nat) (mrName : Nat) (mdName : Nat) (mcode : Nat) (mcodeNumber : Nat) (meWhat : Nat) (meSign : Nat) (mpile : Nat) (mbank : Int32) (mrb : Int32) (mcodes : Int32) (mwithin : Int32) (mpiled : Int32) (munitsInRule : Int32) (maskDay : Int32) (maskUses : Int32) (maskSpent : Int32) (mall : Nat) (Fmall : Nat → Int32) (mwas : Nat) (macts : Int32) (mundone : Int32) (musedBy0 : Nat) (musedBy1 : Nat) (mmornings : Nat) (mcameFrom : Nat) (mcameBy : Nat) (mlevelAt : Nat) (mwins : Nat) (mslots : Nat) (mlevelOf : Nat) (mworthOf : Nat) (mstates : Int32) (mlevels : Int32) (mside0 : Int32) (mside1 : Int32) (mdeathDay : Int32) (maway : Int32) (mhires : Int32) (mhirer : Int32) (mslotFound : Int32) (misSpent : Int32) (mfound : Int32) (mlaid : Int32) (mlaidRow : Nat) (mgReason : Nat) (mgDay : Nat) (mgTold : Nat) (mgUntold : Nat) (msights : Int32) (mtime : Int32) (mboxAll : Nat) (misBoxed : Nat) (p0 : Int32) (hh0 : 0 ≤ mtaped.toInt ∧ mtaped.toInt ≤ 1600) (hh1 : 0 ≤ msize.toInt ∧ msize.toInt ≤ 1600) (hh2 : 0 ≤ mat.toInt ∧ mat.toInt ≤ 1600) (hh3 : 0 ≤ mend.toInt ∧ mend.toInt ≤ 1600) (hh4 : 0 ≤ mtoken.toInt ∧ mtoken.toInt ≤ 5) (hh5 : Rg 2 0 6 Fmmen) (hh6 : Rg 2 0 4 Fmkinds) (hh7 : Rg 2 0 8 Fmreasons) (hh9 : Rg 2 0 60 Fmunits) (hh18 : 0 ≤ mbank.toInt ∧ mbank.toInt ≤ 1) (hh19 : 0 ≤ mrb.toInt ∧ mrb.toInt ≤ 1) (hh20 : 0 ≤ mcodes.toInt ∧ mcodes.toInt ≤ 1120) (hh21 : 0 ≤ mpiled.toInt ∧ mpiled.toInt ≤ 90) (hh22 : 0 ≤ munitsInRule.toInt ∧ munitsInRule.toInt ≤ 30) (hh23 : Ia Fmall) (hh25 : 0 ≤ macts.toInt ∧ macts.toInt ≤ 40) (hh26 : 0 ≤ mundone.toInt ∧ mundone.toInt ≤ 40) (hh34 : 0 ≤ mstates.toInt ∧ mstates.toInt ≤ 3000) (hh35 : 0 ≤ mlevels.toInt ∧ mlevels.toInt ≤ 18) (hh36 : 0 ≤ mside0.toInt ∧ mside0.toInt ≤ 5) (hh37 : 0 ≤ mside1.toInt ∧ mside1.toInt ≤ 5) (hh38 : 0 ≤ mslotFound.toInt ∧ mslotFound.toInt ≤ 8191) (hh39 : 0 ≤ misSpent.toInt ∧ misSpent.toInt ≤ 1) (hh40 : 0 ≤ mlaid.toInt ∧ mlaid.toInt ≤ 16) (hh41 : 0 ≤ msights.toInt ∧ msights.toInt ≤ 30) (hh42 : 0 ≤ mtime.toInt ∧ mtime.toInt ≤ 100000) : Met l yX12_about (.code yX12_about cX12_about 2 (some .int) :: gT) ({ frames := 2, cells := 0, slots := 0, locals := 44 }) (va_Pc [.ref h, .int p0] (Pst g sz [(h, .inr (12, [.ref mtape, .ref mtext, .int mtaped, .int msize, .int mfaultKind, .int mfaultPlace, .int mat, .int mend, .int mtoken, .int mnumber, .long mname, .ref mmen, .ref mkinds, .ref mreasons, .ref mtold, .ref munits, .ref mhonour, .ref mdraw, .ref mdies, .ref mcoin, .ref msonOf, .ref mkindOf, .ref mowner, .ref mfirst, .ref mlast, .ref mrent, .ref msort, .ref mduelOne, .ref mduelOther, .ref mduelOn, .ref mruleFrom, .ref mruleTo, .ref mhasHonour, .ref mhasDraw, .ref mmName, .ref mkName, .ref mrName, .ref mdName, .ref mcode, .ref mcodeNumber, .ref meWhat, .ref meSign, .ref mpile, .int mbank, .int mrb, .int mcodes, .int mwithin, .int mpiled, .int munitsInRule, .int maskDay, .int maskUses, .int maskSpent, .ref mall, .ref mwas, .int macts, .int mundone, .ref musedBy0, .ref musedBy1, .ref mmornings, .ref mcameFrom, .ref mcameBy, .ref mlevelAt, .ref mwins, .ref mslots, .ref mlevelOf, .ref mworthOf, .int mstates, .int mlevels, .int mside0, .int mside1, .int mdeathDay, .int maway, .int mhires, .int mhirer, .int mslotFound, .int misSpent, .int mfound, .int mlaid, .ref mlaidRow, .ref mgReason, .ref mgDay, .ref mgTold, .ref mgUntold, .int msights, .int mtime, .ref mboxAll, .ref misBoxed])), (mmen, aI g 2 Fmmen), (mkinds, aI g 2 Fmkinds), (mreasons, aI g 2 Fmreasons), (munits, aI g 2 Fmunits), (mall, aI g 374 Fmall)] nX)) (va_Qi (fun (r : Int32) => fun (_ : Unit) => True) (Qst g [] sz (fun _ => [])) (va_A [] sz)) 0 0 (va_A [] sz) := by
  refine Met.ofW (cc := cX12_about) (maxL := 2) (ret := (some .int)) (by decide) rfl ?_
  intro p e s m args below meth c s₁ B hml hv
  obtain ⟨rfl, hsz, hP, hK, hD0, hX⟩ := hv
  have hx := B.exec
  have hb := B.bytes
  have hr := B.returns
  have hT : ∀ w ∈ gT, w.before _ s = true := fun w h => atoms_spec (ws := .code yX12_about cX12_about 2 (some .int) :: gT) B.pre w (List.mem_cons_of_mem _ h)
  have hown : s.vm.findClass RX12 = some m.cls := findClass_of_methodNamed B.named
  have hlocks := B.notSynchronized
  subst hsz
  have hD := hD0
  generalize hAe : va_A [] s.heap.size = A at ⊢
  have hA : ∀ q : Nat, s.heap.size ≤ q → A q := fun q h => by rw [← hAe]; exact Or.inr h
  have hS : va_S A s.heap s.heap [] := va_S.rf
  have hl := lv_entry ([.ref h, .int p0]) (n := 2) (Nat.le_of_ble_eq_true rfl)
  rw [lg_entry_eq]
  generalize (lg_sl ([.ref h, .int p0]) ++ List.replicate (2 - (lg_sl ([.ref h, .int p0])).length) Slot.unset).toArray = ls at hl ⊢
  have hl : lv_has ls 2 [(0, .ref h), (1, .int p0)] := hl
  refine p_nH (fun H hH => ?_)
  have hP : va_P g.1 vwCl [(h, .inr (12, [.ref mtape, .ref mtext, .int mtaped, .int msize, .int mfaultKind, .int mfaultPlace, .int mat, .int mend, .int mtoken, .int mnumber, .long mname, .ref mmen, .ref mkinds, .ref mreasons, .ref mtold, .ref munits, .ref mhonour, .ref mdraw, .ref mdies, .ref mcoin, .ref msonOf, .ref mkindOf, .ref mowner, .ref mfirst, .ref mlast, .ref mrent, .ref msort, .ref mduelOne, .ref mduelOther, .ref mduelOn, .ref mruleFrom, .ref mruleTo, .ref mhasHonour, .ref mhasDraw, .ref mmName, .ref mkName, .ref mrName, .ref mdName, .ref mcode, .ref mcodeNumber, .ref meWhat, .ref meSign, .ref mpile, .int mbank, .int mrb, .int mcodes, .int mwithin, .int mpiled, .int munitsInRule, .int maskDay, .int maskUses, .int maskSpent, .ref mall, .ref mwas, .int macts, .int mundone, .ref musedBy0, .ref musedBy1, .ref mmornings, .ref mcameFrom, .ref mcameBy, .ref mlevelAt, .ref mwins, .ref mslots, .ref mlevelOf, .ref mworthOf, .int mstates, .int mlevels, .int mside0, .int mside1, .int mdeathDay, .int maway, .int mhires, .int mhirer, .int mslotFound, .int misSpent, .int mfound, .int mlaid, .ref mlaidRow, .ref mgReason, .ref mgDay, .ref mgTold, .ref mgUntold, .int msights, .int mtime, .ref mboxAll, .ref misBoxed])), (mmen, aI g 2 Fmmen), (mkinds, aI g 2 Fmkinds), (mreasons, aI g 2 Fmreasons), (munits, aI g 2 Fmunits), (mall, aI g 374 Fmall)] H := by rw [hH]; exact hP
  have hS : va_S A s.heap H [] := by rw [hH]; exact hS
  refine lv_iload_n hx hb dX12_about_0 rfl (lv_at hl 1 rfl) ?_
  rcases tsplit p0 16 (by decide) with h_1 | ⟨j, hj, eh_1⟩
  · refine lv_tableOut (tgt := 194) hx hb dX12_about_1 (by omega) (by decide) ?_
    refine lv_iconst (v := (-1)) hx hb dX12_about_194 (by decide) ?_
    have hP9 : va_P g.1 vwCl [] H := hP.sub [] rfl
    have hD9 : va_D A [] := ⟨fun i j p q h => by simp at h, fun k q h => by simp at h⟩
    exact W.iret (v := (-1)) hx hb hr (fun t ht hW => ⟨⟨(-1), (), rfl, trivial, by rw [ht]; exact hP9, by rw [hAe]; exact hD9⟩, hS.F ht⟩) hS.2.2 dX12_about_195
  · rcases (show j = 0 ∨ j = 1 ∨ j = 2 ∨ j = 3 ∨ j = 4 ∨ j = 5 ∨ j = 6 ∨ j = 7 ∨ j = 8 ∨ j = 9 ∨ j = 10 ∨ j = 11 ∨ j = 12 ∨ j = 13 ∨ j = 14 ∨ j = 15 by omega) with rfl | rfl | rfl | rfl | rfl | rfl | rfl | rfl | rfl | rfl | rfl | rfl | rfl | rfl | rfl | rfl
    · obtain rfl : p0 = 0 := eh_1
      refine lv_tableIn (tgt := 80) hx hb dX12_about_1 (by decide) (by decide) (off := 79) (by decide) (by decide) ?_
      refine lv_aload_n hx hb dX12_about_80 rfl (lv_at hl 0 rfl) ?_
      refine va_get (D := g.1) (ci := 12) (v := .ref mmen) (C := RX12) (T := TX12) (N := 87) hx hb hT inF_X12 hown hK.1 hP 0 rfl rfl 11 (by decide) (hT _ bw_824) (fun _ h9 => h9) rfl dX12_about_81 ?_
      refine lv_aload_n hx hb dX12_about_84 rfl (lv_at hl 0 rfl) ?_
      refine va_get (D := g.1) (ci := 12) (v := .int mbank) (C := RX12) (T := TX12) (N := 87) hx hb hT inF_X12 hown hK.1 hP 0 rfl rfl 43 (by decide) (hT _ bw_825) (fun _ h9 => h9) rfl dX12_about_85 ?_
      have h_2 : vp_in mbank 2 := vp_in_iff.mpr (by omega)
      refine va_iald hx hb hK.1 hP 1 1 rfl rfl (i := mbank) h_2 dX12_about_88 ?_
      refine lv_topi (fun x_3 ex_3 => ?_)
      have fx_3 : 0 ≤ x_3.toInt ∧ x_3.toInt ≤ 6 := Rg.rd hh5 h_2 ex_3
      have ux_3 := congrArg Int32.toInt ex_3
      have hP9 : va_P g.1 vwCl [] H := hP.sub [] rfl
      have hD9 : va_D A [] := ⟨fun i j p q h => by simp at h, fun k q h => by simp at h⟩
      exact W.iret (v := x_3) hx hb hr (fun t ht hW => ⟨⟨x_3, (), rfl, trivial, by rw [ht]; exact hP9, by rw [hAe]; exact hD9⟩, hS.F ht⟩) hS.2.2 dX12_about_89
    · obtain rfl : p0 = 1 := eh_1
      refine lv_tableIn (tgt := 90) hx hb dX12_about_1 (by decide) (by decide) (off := 89) (by decide) (by decide) ?_
      refine lv_aload_n hx hb dX12_about_90 rfl (lv_at hl 0 rfl) ?_
      refine va_get (D := g.1) (ci := 12) (v := .ref mkinds) (C := RX12) (T := TX12) (N := 87) hx hb hT inF_X12 hown hK.1 hP 0 rfl rfl 12 (by decide) (hT _ bw_956) (fun _ h9 => h9) rfl dX12_about_91 ?_
      refine lv_aload_n hx hb dX12_about_94 rfl (lv_at hl 0 rfl) ?_
      refine va_get (D := g.1) (ci := 12) (v := .int mbank) (C := RX12) (T := TX12) (N := 87) hx hb hT inF_X12 hown hK.1 hP 0 rfl rfl 43 (by decide) (hT _ bw_825) (fun _ h9 => h9) rfl dX12_about_95 ?_
      have h_4 : vp_in mbank 2 := vp_in_iff.mpr (by omega)
      refine va_iald hx hb hK.1 hP 2 1 rfl rfl (i := mbank) h_4 dX12_about_98 ?_
      refine lv_topi (fun x_5 ex_5 => ?_)
      have fx_5 : 0 ≤ x_5.toInt ∧ x_5.toInt ≤ 4 := Rg.rd hh6 h_4 ex_5
      have ux_5 := congrArg Int32.toInt ex_5
      have hP9 : va_P g.1 vwCl [] H := hP.sub [] rfl
      have hD9 : va_D A [] := ⟨fun i j p q h => by simp at h, fun k q h => by simp at h⟩
      exact W.iret (v := x_5) hx hb hr (fun t ht hW => ⟨⟨x_5, (), rfl, trivial, by rw [ht]; exact hP9, by rw [hAe]; exact hD9⟩, hS.F ht⟩) hS.2.2 dX12_about_99
    · obtain rfl : p0 = 2 := eh_1
      refine lv_tableIn (tgt := 100) hx hb dX12_about_1 (by decide) (by decide) (off := 99) (by decide) (by decide) ?_
      refine lv_aload_n hx hb dX12_about_100 rfl (lv_at hl 0 rfl) ?_
      refine va_get (D := g.1) (ci := 12) (v := .ref mreasons) (C := RX12) (T := TX12) (N := 87) hx hb hT inF_X12 hown hK.1 hP 0 rfl rfl 13 (by decide) (hT _ bw_830) (fun _ h9 => h9) rfl dX12_about_101 ?_
      refine lv_aload_n hx hb dX12_about_104 rfl (lv_at hl 0 rfl) ?_
      refine va_get (D := g.1) (ci := 12) (v := .int mbank) (C := RX12) (T := TX12) (N := 87) hx hb hT inF_X12 hown hK.1 hP 0 rfl rfl 43 (by decide) (hT _ bw_825) (fun _ h9 => h9) rfl dX12_about_105 ?_
      have h_6 : vp_in mbank 2 := vp_in_iff.mpr (by omega)
      refine va_iald hx hb hK.1 hP 3 1 rfl rfl (i := mbank) h_6 dX12_about_108 ?_
      refine lv_topi (fun x_7 ex_7 => ?_)
      have fx_7 : 0 ≤ x_7.toInt ∧ x_7.toInt ≤ 8 := Rg.rd hh7 h_6 ex_7
      have ux_7 := congrArg Int32.toInt ex_7
      have hP9 : va_P g.1 vwCl [] H := hP.sub [] rfl
      have hD9 : va_D A [] := ⟨fun i j p q h => by simp at h, fun k q h => by simp at h⟩
      exact W.iret (v := x_7) hx hb hr (fun t ht hW => ⟨⟨x_7, (), rfl, trivial, by rw [ht]; exact hP9, by rw [hAe]; exact hD9⟩, hS.F ht⟩) hS.2.2 dX12_about_109
    · obtain rfl : p0 = 3 := eh_1
      refine lv_tableIn (tgt := 110) hx hb dX12_about_1 (by decide) (by decide) (off := 109) (by decide) (by decide) ?_
      refine lv_aload_n hx hb dX12_about_110 rfl (lv_at hl 0 rfl) ?_
      refine va_get (D := g.1) (ci := 12) (v := .ref mall) (C := RX12) (T := TX12) (N := 87) hx hb hT inF_X12 hown hK.1 hP 0 rfl rfl 52 (by decide) (hT _ bw_832) (fun _ h9 => h9) rfl dX12_about_111 ?_
      refine lv_bipush (v := 70) hx hb dX12_about_114 (by decide) ?_
      have h_8 : vp_in 70 374 := vp_in_iff.mpr (by decide)
      refine va_iald hx hb hK.1 hP 5 1 rfl rfl (i := 70) h_8 dX12_about_116 ?_
      refine lv_topi (fun x_9 ex_9 => ?_)
      have cn_10 : (70 : Int32).toNatClampNeg = 70 := by decide
      have ux_9 := congrArg Int32.toInt ex_9
      have px_9 : In ((70 : Int32).toNatClampNeg % 374) x_9.toInt := Im.rd hh23 h_8 ex_9
      have fx_9 : 0 ≤ x_9.toInt ∧ x_9.toInt ≤ 8 := px_9.1 (by omega)
      have hP9 : va_P g.1 vwCl [] H := hP.sub [] rfl
      have hD9 : va_D A [] := ⟨fun i j p q h => by simp at h, fun k q h => by simp at h⟩
      exact W.iret (v := x_9) hx hb hr (fun t ht hW => ⟨⟨x_9, (), rfl, trivial, by rw [ht]; exact hP9, by rw [hAe]; exact hD9⟩, hS.F ht⟩) hS.2.2 dX12_about_117
    · obtain rfl : p0 = 4 := eh_1
      refine lv_tableIn (tgt := 118) hx hb dX12_about_1 (by decide) (by decide) (off := 117) (by decide) (by decide) ?_
      refine lv_aload_n hx hb dX12_about_118 rfl (lv_at hl 0 rfl) ?_
      refine va_get (D := g.1) (ci := 12) (v := .ref mall) (C := RX12) (T := TX12) (N := 87) hx hb hT inF_X12 hown hK.1 hP 0 rfl rfl 52 (by decide) (hT _ bw_832) (fun _ h9 => h9) rfl dX12_about_119 ?_
      refine lv_bipush (v := 72) hx hb dX12_about_122 (by decide) ?_
      have h_11 : vp_in 72 374 := vp_in_iff.mpr (by decide)
      refine va_iald hx hb hK.1 hP 5 1 rfl rfl (i := 72) h_11 dX12_about_124 ?_
      refine lv_topi (fun x_12 ex_12 => ?_)
      have cn_13 : (72 : Int32).toNatClampNeg = 72 := by decide
      have ux_12 := congrArg Int32.toInt ex_12
      have px_12 : In ((72 : Int32).toNatClampNeg % 374) x_12.toInt := Im.rd hh23 h_11 ex_12
      have hP9 : va_P g.1 vwCl [] H := hP.sub [] rfl
      have hD9 : va_D A [] := ⟨fun i j p q h => by simp at h, fun k q h => by simp at h⟩
      exact W.iret (v := x_12) hx hb hr (fun t ht hW => ⟨⟨x_12, (), rfl, trivial, by rw [ht]; exact hP9, by rw [hAe]; exact hD9⟩, hS.F ht⟩) hS.2.2 dX12_about_125
    · obtain rfl : p0 = 5 := eh_1
      refine lv_tableIn (tgt := 126) hx hb dX12_about_1 (by decide) (by decide) (off := 125) (by decide) (by decide) ?_
      refine lv_aload_n hx hb dX12_about_126 rfl (lv_at hl 0 rfl) ?_
      refine va_get (D := g.1) (ci := 12) (v := .ref mall) (C := RX12) (T := TX12) (N := 87) hx hb hT inF_X12 hown hK.1 hP 0 rfl rfl 52 (by decide) (hT _ bw_832) (fun _ h9 => h9) rfl dX12_about_127 ?_
      refine lv_bipush (v := 73) hx hb dX12_about_130 (by decide) ?_
      have h_14 : vp_in 73 374 := vp_in_iff.mpr (by decide)
      refine va_iald hx hb hK.1 hP 5 1 rfl rfl (i := 73) h_14 dX12_about_132 ?_
      refine lv_topi (fun x_15 ex_15 => ?_)
      have cn_16 : (73 : Int32).toNatClampNeg = 73 := by decide
      have ux_15 := congrArg Int32.toInt ex_15
      have px_15 : In ((73 : Int32).toNatClampNeg % 374) x_15.toInt := Im.rd hh23 h_14 ex_15
      have fx_15 : 0 ≤ x_15.toInt ∧ x_15.toInt ≤ 999 := px_15.2.2.1 (by omega)
      have hP9 : va_P g.1 vwCl [] H := hP.sub [] rfl
      have hD9 : va_D A [] := ⟨fun i j p q h => by simp at h, fun k q h => by simp at h⟩
      exact W.iret (v := x_15) hx hb hr (fun t ht hW => ⟨⟨x_15, (), rfl, trivial, by rw [ht]; exact hP9, by rw [hAe]; exact hD9⟩, hS.F ht⟩) hS.2.2 dX12_about_133
    · obtain rfl : p0 = 6 := eh_1
      refine lv_tableIn (tgt := 134) hx hb dX12_about_1 (by decide) (by decide) (off := 133) (by decide) (by decide) ?_
      refine lv_aload_n hx hb dX12_about_134 rfl (lv_at hl 0 rfl) ?_
      refine va_get (D := g.1) (ci := 12) (v := .ref mall) (C := RX12) (T := TX12) (N := 87) hx hb hT inF_X12 hown hK.1 hP 0 rfl rfl 52 (by decide) (hT _ bw_832) (fun _ h9 => h9) rfl dX12_about_135 ?_
      refine lv_iconst (v := 0) hx hb dX12_about_138 (by decide) ?_
      have h_17 : vp_in 0 374 := vp_in_iff.mpr (by decide)
      refine va_iald hx hb hK.1 hP 5 1 rfl rfl (i := 0) h_17 dX12_about_139 ?_
      refine lv_topi (fun x_18 ex_18 => ?_)
      have cn_19 : (0 : Int32).toNatClampNeg = 0 := by decide
      have ux_18 := congrArg Int32.toInt ex_18
      have px_18 : In ((0 : Int32).toNatClampNeg % 374) x_18.toInt := Im.rd hh23 h_17 ex_18
      have hP9 : va_P g.1 vwCl [] H := hP.sub [] rfl
      have hD9 : va_D A [] := ⟨fun i j p q h => by simp at h, fun k q h => by simp at h⟩
      exact W.iret (v := x_18) hx hb hr (fun t ht hW => ⟨⟨x_18, (), rfl, trivial, by rw [ht]; exact hP9, by rw [hAe]; exact hD9⟩, hS.F ht⟩) hS.2.2 dX12_about_140
    · obtain rfl : p0 = 7 := eh_1
      refine lv_tableIn (tgt := 141) hx hb dX12_about_1 (by decide) (by decide) (off := 140) (by decide) (by decide) ?_
      refine lv_aload_n hx hb dX12_about_141 rfl (lv_at hl 0 rfl) ?_
      refine k_iR (k_V (n := 0) ⟨hx, hb, hml, hown, hT⟩ hK hP hD [0, 5] rfl (by decide +kernel) (s_X12_openMany l g H.size h mtape mtext mtaped msize mfaultKind mfaultPlace mat mend mtoken mnumber mname mmen mkinds mreasons mtold munits mhonour mdraw mdies mcoin msonOf mkindOf mowner mfirst mlast mrent msort mduelOne mduelOther mduelOn mruleFrom mruleTo mhasHonour mhasDraw mmName mkName mrName mdName mcode mcodeNumber meWhat meSign mpile mbank mrb mcodes mwithin mpiled munitsInRule maskDay maskUses maskSpent mall Fmall mwas macts mundone musedBy0 musedBy1 mmornings mcameFrom mcameBy mlevelAt mwins mslots mlevelOf mworthOf mstates mlevels mside0 mside1 mdeathDay maway mhires mhirer mslotFound misSpent mfound mlaid mlaidRow mgReason mgDay mgTold mgUntold msights mtime mboxAll misBoxed (by first | with_reducible assumption | omega) (by first | with_reducible assumption | omega) (by first | with_reducible assumption | omega) (by first | with_reducible assumption | omega) (by first | with_reducible assumption | omega) (by first | with_reducible assumption | omega) (by first | with_reducible assumption | omega) (by first | with_reducible assumption | omega) (by first | with_reducible assumption | omega) (by first | with_reducible assumption | omega) hh23 (by first | with_reducible assumption | omega) (by first | with_reducible assumption | omega) (by first | with_reducible assumption | omega) (by first | with_reducible assumption | omega) (by first | with_reducible assumption | omega) (by first | with_reducible assumption | omega) (by first | with_reducible assumption | omega) (by first | with_reducible assumption | omega) (by first | with_reducible assumption | omega) (by first | with_reducible assumption | omega) (by first | with_reducible assumption | omega)) (gV bw_957 bw_958 bw_959 bw_840 bw_955) rfl rfl (by decide +kernel) ⟨by decide, by decide⟩ (ci := 12) (q0 := 0) rfl rfl (fun _ _ _ _ _ => trivial) (fun _ _ _ => trivial) rfl rfl hl.1 (Nat.le_of_ble_eq_true rfl) dX12_about_142 ⟨by decide, by decide⟩) hP hS hA (fun r_20 _ H locs hw0 hP hS => ?_)
      have hP9 : va_P g.1 vwCl [] H := hP.sub [] rfl
      have hD9 : va_D A [] := ⟨fun i j p q h => by simp at h, fun k q h => by simp at h⟩
      exact W.iret (v := r_20) hx hb hr (fun t ht hW => ⟨⟨r_20, (), rfl, trivial, by rw [ht]; exact hP9, by rw [hAe]; exact hD9⟩, hS.F ht⟩) hS.2.2 dX12_about_145
    · obtain rfl : p0 = 8 := eh_1
      refine lv_tableIn (tgt := 146) hx hb dX12_about_1 (by decide) (by decide) (off := 145) (by decide) (by decide) ?_
      refine lv_aload_n hx hb dX12_about_146 rfl (lv_at hl 0 rfl) ?_
      refine va_get (D := g.1) (ci := 12) (v := .ref mall) (C := RX12) (T := TX12) (N := 87) hx hb hT inF_X12 hown hK.1 hP 0 rfl rfl 52 (by decide) (hT _ bw_832) (fun _ h9 => h9) rfl dX12_about_147 ?_
      refine lv_bipush (v := 71) hx hb dX12_about_150 (by decide) ?_
      have h_21 : vp_in 71 374 := vp_in_iff.mpr (by decide)
      refine va_iald hx hb hK.1 hP 5 1 rfl rfl (i := 71) h_21 dX12_about_152 ?_
      refine lv_topi (fun x_22 ex_22 => ?_)
      have cn_23 : (71 : Int32).toNatClampNeg = 71 := by decide
      have ux_22 := congrArg Int32.toInt ex_22
      have px_22 : In ((71 : Int32).toNatClampNeg % 374) x_22.toInt := Im.rd hh23 h_21 ex_22
      have fx_22 : 0 ≤ x_22.toInt ∧ x_22.toInt ≤ 60 := px_22.2.1 (by omega)
      have hP9 : va_P g.1 vwCl [] H := hP.sub [] rfl
      have hD9 : va_D A [] := ⟨fun i j p q h => by simp at h, fun k q h => by simp at h⟩
      exact W.iret (v := x_22) hx hb hr (fun t ht hW => ⟨⟨x_22, (), rfl, trivial, by rw [ht]; exact hP9, by rw [hAe]; exact hD9⟩, hS.F ht⟩) hS.2.2 dX12_about_153
    · obtain rfl : p0 = 9 := eh_1
      refine lv_tableIn (tgt := 154) hx hb dX12_about_1 (by decide) (by decide) (off := 153) (by decide) (by decide) ?_
      refine lv_aload_n hx hb dX12_about_154 rfl (lv_at hl 0 rfl) ?_
      refine va_get (D := g.1) (ci := 12) (v := .int macts) (C := RX12) (T := TX12) (N := 87) hx hb hT inF_X12 hown hK.1 hP 0 rfl rfl 54 (by decide) (hT _ bw_960) (fun _ h9 => h9) rfl dX12_about_155 ?_
      have hP9 : va_P g.1 vwCl [] H := hP.sub [] rfl
      have hD9 : va_D A [] := ⟨fun i j p q h => by simp at h, fun k q h => by simp at h⟩
      exact W.iret (v := macts) hx hb hr (fun t ht hW => ⟨⟨macts, (), rfl, trivial, by rw [ht]; exact hP9, by rw [hAe]; exact hD9⟩, hS.F ht⟩) hS.2.2 dX12_about_158
    · obtain rfl : p0 = 10 := eh_1
      refine lv_tableIn (tgt := 159) hx hb dX12_about_1 (by decide) (by decide) (off := 158) (by decide) (by decide) ?_
      refine lv_aload_n hx hb dX12_about_159 rfl (lv_at hl 0 rfl) ?_
      refine va_get (D := g.1) (ci := 12) (v := .int mundone) (C := RX12) (T := TX12) (N := 87) hx hb hT inF_X12 hown hK.1 hP 0 rfl rfl 55 (by decide) (hT _ bw_961) (fun _ h9 => h9) rfl dX12_about_160 ?_
      have hP9 : va_P g.1 vwCl [] H := hP.sub [] rfl
      have hD9 : va_D A [] := ⟨fun i j p q h => by simp at h, fun k q h => by simp at h⟩
      exact W.iret (v := mundone) hx hb hr (fun t ht hW => ⟨⟨mundone, (), rfl, trivial, by rw [ht]; exact hP9, by rw [hAe]; exact hD9⟩, hS.F ht⟩) hS.2.2 dX12_about_163
    · obtain rfl : p0 = 11 := eh_1
      refine lv_tableIn (tgt := 164) hx hb dX12_about_1 (by decide) (by decide) (off := 163) (by decide) (by decide) ?_
      refine lv_aload_n hx hb dX12_about_164 rfl (lv_at hl 0 rfl) ?_
      refine va_get (D := g.1) (ci := 12) (v := .int msights) (C := RX12) (T := TX12) (N := 87) hx hb hT inF_X12 hown hK.1 hP 0 rfl rfl 83 (by decide) (hT _ bw_962) (fun _ h9 => h9) rfl dX12_about_165 ?_
      have hP9 : va_P g.1 vwCl [] H := hP.sub [] rfl
      have hD9 : va_D A [] := ⟨fun i j p q h => by simp at h, fun k q h => by simp at h⟩
      exact W.iret (v := msights) hx hb hr (fun t ht hW => ⟨⟨msights, (), rfl, trivial, by rw [ht]; exact hP9, by rw [hAe]; exact hD9⟩, hS.F ht⟩) hS.2.2 dX12_about_168
    · obtain rfl : p0 = 12 := eh_1
      refine lv_tableIn (tgt := 169) hx hb dX12_about_1 (by decide) (by decide) (off := 168) (by decide) (by decide) ?_
      refine lv_aload_n hx hb dX12_about_169 rfl (lv_at hl 0 rfl) ?_
      refine va_get (D := g.1) (ci := 12) (v := .int mtime) (C := RX12) (T := TX12) (N := 87) hx hb hT inF_X12 hown hK.1 hP 0 rfl rfl 84 (by decide) (hT _ bw_963) (fun _ h9 => h9) rfl dX12_about_170 ?_
      have hP9 : va_P g.1 vwCl [] H := hP.sub [] rfl
      have hD9 : va_D A [] := ⟨fun i j p q h => by simp at h, fun k q h => by simp at h⟩
      exact W.iret (v := mtime) hx hb hr (fun t ht hW => ⟨⟨mtime, (), rfl, trivial, by rw [ht]; exact hP9, by rw [hAe]; exact hD9⟩, hS.F ht⟩) hS.2.2 dX12_about_173
    · obtain rfl : p0 = 13 := eh_1
      refine lv_tableIn (tgt := 174) hx hb dX12_about_1 (by decide) (by decide) (off := 173) (by decide) (by decide) ?_
      refine lv_aload_n hx hb dX12_about_174 rfl (lv_at hl 0 rfl) ?_
      refine va_get (D := g.1) (ci := 12) (v := .int mtaped) (C := RX12) (T := TX12) (N := 87) hx hb hT inF_X12 hown hK.1 hP 0 rfl rfl 2 (by decide) (hT _ bw_964) (fun _ h9 => h9) rfl dX12_about_175 ?_
      have hP9 : va_P g.1 vwCl [] H := hP.sub [] rfl
      have hD9 : va_D A [] := ⟨fun i j p q h => by simp at h, fun k q h => by simp at h⟩
      exact W.iret (v := mtaped) hx hb hr (fun t ht hW => ⟨⟨mtaped, (), rfl, trivial, by rw [ht]; exact hP9, by rw [hAe]; exact hD9⟩, hS.F ht⟩) hS.2.2 dX12_about_178
    · obtain rfl : p0 = 14 := eh_1
      refine lv_tableIn (tgt := 179) hx hb dX12_about_1 (by decide) (by decide) (off := 178) (by decide) (by decide) ?_
      refine lv_aload_n hx hb dX12_about_179 rfl (lv_at hl 0 rfl) ?_
      refine va_get (D := g.1) (ci := 12) (v := .ref munits) (C := RX12) (T := TX12) (N := 87) hx hb hT inF_X12 hown hK.1 hP 0 rfl rfl 15 (by decide) (hT _ bw_965) (fun _ h9 => h9) rfl dX12_about_180 ?_
      refine lv_aload_n hx hb dX12_about_183 rfl (lv_at hl 0 rfl) ?_
      refine va_get (D := g.1) (ci := 12) (v := .int mbank) (C := RX12) (T := TX12) (N := 87) hx hb hT inF_X12 hown hK.1 hP 0 rfl rfl 43 (by decide) (hT _ bw_825) (fun _ h9 => h9) rfl dX12_about_184 ?_
      have h_24 : vp_in mbank 2 := vp_in_iff.mpr (by omega)
      refine va_iald hx hb hK.1 hP 4 1 rfl rfl (i := mbank) h_24 dX12_about_187 ?_
      refine lv_topi (fun x_25 ex_25 => ?_)
      have fx_25 : 0 ≤ x_25.toInt ∧ x_25.toInt ≤ 60 := Rg.rd hh9 h_24 ex_25
      have ux_25 := congrArg Int32.toInt ex_25
      have hP9 : va_P g.1 vwCl [] H := hP.sub [] rfl
      have hD9 : va_D A [] := ⟨fun i j p q h => by simp at h, fun k q h => by simp at h⟩
      exact W.iret (v := x_25) hx hb hr (fun t ht hW => ⟨⟨x_25, (), rfl, trivial, by rw [ht]; exact hP9, by rw [hAe]; exact hD9⟩, hS.F ht⟩) hS.2.2 dX12_about_188
    · obtain rfl : p0 = 15 := eh_1
      refine lv_tableIn (tgt := 189) hx hb dX12_about_1 (by decide) (by decide) (off := 188) (by decide) (by decide) ?_
      refine lv_aload_n hx hb dX12_about_189 rfl (lv_at hl 0 rfl) ?_
      refine va_get (D := g.1) (ci := 12) (v := .int mlaid) (C := RX12) (T := TX12) (N := 87) hx hb hT inF_X12 hown hK.1 hP 0 rfl rfl 77 (by decide) (hT _ bw_952) (fun _ h9 => h9) rfl dX12_about_190 ?_
      have hP9 : va_P g.1 vwCl [] H := hP.sub [] rfl
      have hD9 : va_D A [] := ⟨fun i j p q h => by simp at h, fun k q h => by simp at h⟩
      exact W.iret (v := mlaid) hx hb hr (fun t ht hW => ⟨⟨mlaid, (), rfl, trivial, by rw [ht]; exact hP9, by rw [hAe]; exact hD9⟩, hS.F ht⟩) hS.2.2 dX12_about_193

theorem bw_967 : Cond.code yX12_comes cX12_comes 5 (some .int) ∈ gT := gT_tb 2019 (by decide +kernel) (by decide +kernel)
theorem dX12_comes_0 : decode cX12_comes 0 = .ok (.aload_n 0, 1) := by decide +kernel
theorem dX12_comes_1 : decode cX12_comes 1 = .ok (.iload_n 1, 1) := by decide +kernel
theorem dX12_comes_2 : decode cX12_comes 2 = .ok (.invokevirtual 437, 3) := by decide +kernel
theorem dX12_comes_5 : decode cX12_comes 5 = .ok (.ifCond .eq 11, 3) := by decide +kernel
theorem dX12_comes_8 : decode cX12_comes 8 = .ok (.aload_n 0, 1) := by decide +kernel
theorem dX12_comes_9 : decode cX12_comes 9 = .ok (.iload_n 2, 1) := by decide +kernel
theorem dX12_comes_10 : decode cX12_comes 10 = .ok (.invokevirtual 437, 3) := by decide +kernel
theorem dX12_comes_13 : decode cX12_comes 13 = .ok (.ifCond .ne 5, 3) := by decide +kernel
theorem dX12_comes_16 : decode cX12_comes 16 = .ok (.iconst (-1), 1) := by decide +kernel
theorem dX12_comes_17 : decode cX12_comes 17 = .ok (.ireturn, 1) := by decide +kernel
theorem dX12_comes_18 : decode cX12_comes 18 = .ok (.iconst 0, 1) := by decide +kernel
theorem dX12_comes_19 : decode cX12_comes 19 = .ok (.istore_n 3, 1) := by decide +kernel
theorem dX12_comes_20 : decode cX12_comes 20 = .ok (.iload_n 2, 1) := by decide +kernel
theorem dX12_comes_21 : decode cX12_comes 21 = .ok (.istore 4, 2) := by decide +kernel
theorem dX12_comes_23 : decode cX12_comes 23 = .ok (.iload 4, 2) := by decide +kernel
theorem dX12_comes_25 : decode cX12_comes 25 = .ok (.ifCond .lt 32, 3) := by decide +kernel
theorem dX12_comes_28 : decode cX12_comes 28 = .ok (.iload 4, 2) := by decide +kernel
theorem dX12_comes_30 : decode cX12_comes 30 = .ok (.iload_n 1, 1) := by decide +kernel
theorem dX12_comes_31 : decode cX12_comes 31 = .ok (.if_icmp .eq 26, 3) := by decide +kernel
theorem dX12_comes_34 : decode cX12_comes 34 = .ok (.aload_n 0, 1) := by decide +kernel
theorem dX12_comes_35 : decode cX12_comes 35 = .ok (.getfield 48, 3) := by decide +kernel
theorem dX12_comes_38 : decode cX12_comes 38 = .ok (.bipush 6, 2) := by decide +kernel
theorem dX12_comes_40 : decode cX12_comes 40 = .ok (.aload_n 0, 1) := by decide +kernel
theorem dX12_comes_41 : decode cX12_comes 41 = .ok (.getfield 308, 3) := by decide +kernel
theorem dX12_comes_44 : decode cX12_comes 44 = .ok (.imul, 1) := by decide +kernel
theorem dX12_comes_45 : decode cX12_comes 45 = .ok (.iload 4, 2) := by decide +kernel
theorem dX12_comes_47 : decode cX12_comes 47 = .ok (.iadd, 1) := by decide +kernel
theorem dX12_comes_48 : decode cX12_comes 48 = .ok (.iaload, 1) := by decide +kernel
theorem dX12_comes_49 : decode cX12_comes 49 = .ok (.istore 4, 2) := by decide +kernel
theorem dX12_comes_51 : decode cX12_comes 51 = .ok (.iinc 3 1, 3) := by decide +kernel
theorem dX12_comes_54 : decode cX12_comes 54 = .ok (.goto (-31), 3) := by decide +kernel
theorem dX12_comes_57 : decode cX12_comes 57 = .ok (.iload 4, 2) := by decide +kernel
theorem dX12_comes_59 : decode cX12_comes 59 = .ok (.ifCond .ge 7, 3) := by decide +kernel
theorem dX12_comes_62 : decode cX12_comes 62 = .ok (.iconst 0, 1) := by decide +kernel
theorem dX12_comes_63 : decode cX12_comes 63 = .ok (.goto 4, 3) := by decide +kernel
theorem dX12_comes_66 : decode cX12_comes 66 = .ok (.iload_n 3, 1) := by decide +kernel
theorem dX12_comes_67 : decode cX12_comes 67 = .ok (.ireturn, 1) := by decide +kernel
set_option maxHeartbeats 40000000 in
set_option maxRecDepth 100000 in
theorem s_X12_comes (l : Launch) (g : GG) (sz : Nat) (h : Nat) (mtape : Nat) (mtext : Nat) (mtaped : Int32) (msize : Int32) (mfaultKind : Int32) (mfaultPlace : Int32) (mat : Int32) (mend : Int32) (mtoken : Int32) (mnumber : Int32) (mname : Int64) (mmen : Nat) (Fmmen : Nat → Int32) (mkinds : Nat) (mreasons : Nat) (mtold : Nat) (munits : Nat) (mhonour : Nat) (mdraw : Nat) (mdies : Nat) (mcoin : Nat) (msonOf : Nat) (FmsonOf : Nat → Int32) (mkindOf : Nat) (mowner : Nat) (mfirst : Nat) (mlast : Nat) (mrent : Nat) (msort : Nat) (mduelOne : Nat) (mduelOther : Nat) (mduelOn : Nat) (mruleFrom : Nat) (mruleTo : Nat) (mhasHonour : Nat) (mhasDraw : Nat) (mmName : Nat) (mkName : Nat) (mrName : Nat) (mdName : Nat) (mcode : Nat) (mcodeNumber : Nat) (meWhat : Nat) (meSign : Nat) (mpile : Nat) (mbank : Int32) (mrb : Int32) (mcodes : Int32) (mwithin : Int32) (mpiled : Int32) (munitsInRule : Int32) (maskDay : Int32) (maskUses : Int32) (maskSpent : Int32) (mall : Nat) (mwas : Nat) (macts : Int32) (mundone : Int32) (musedBy0 : Nat) (musedBy1 : Nat) (mmornings : Nat) (mcameFrom : Nat) (mcameBy : Nat) (mlevelAt : Nat) (mwins : Nat) (mslots : Nat) (mlevelOf : Nat) (mworthOf : Nat) (mstates : Int32) (mlevels : Int32) (mside0 : Int32) (mside1 : Int32) (mdeathDay : Int32) (maway : Int32) (mhires : Int32) (mhirer : Int32) (mslotFound : Int32) (misSpent : Int32) (mfound : Int32) (mlaid : Int32) (mlaidRow : Nat) (mgReason : Nat) (mgDay : Nat) (mgTold : Nat) (mgUntold : Nat) (msights : Int32) (mtime : Int32) (mboxAll : Nat) (misBoxed : Nat) (p0 : Int32) (p1 : Int32) (hh0 : 0 ≤ mtaped.toInt ∧ mtaped.toInt ≤ 1600) (hh1 : 0 ≤ msize.toInt ∧ msize.toInt ≤ 1600) (hh2 : 0 ≤ mat.toInt ∧ mat.toInt ≤ 1600) (hh3 : 0 ≤ mend.toInt ∧ mend.toInt ≤ 1600) (hh4 : 0 ≤ mtoken.toInt ∧ mtoken.toInt ≤ 5) (hh5 : Rg 2 0 6 Fmmen) (hh11 : Rg 12 (-1) 5 FmsonOf) (hh18 : 0 ≤ mbank.toInt ∧ mbank.toInt ≤ 1) (hh19 : 0 ≤ mrb.toInt ∧ mrb.toInt ≤ 1) (hh20 : 0 ≤ mcodes.toInt ∧ mcodes.toInt ≤ 1120) (hh21 : 0 ≤ mpiled.toInt ∧ mpiled.toInt ≤ 90) (hh22 : 0 ≤ munitsInRule.toInt ∧ munitsInRule.toInt ≤ 30) (hh25 : 0 ≤ macts.toInt ∧ macts.toInt ≤ 40) (hh26 : 0 ≤ mundone.toInt ∧ mundone.toInt ≤ 40) (hh34 : 0 ≤ mstates.toInt ∧ mstates.toInt ≤ 3000) (hh35 : 0 ≤ mlevels.toInt ∧ mlevels.toInt ≤ 18) (hh36 : 0 ≤ mside0.toInt ∧ mside0.toInt ≤ 5) (hh37 : 0 ≤ mside1.toInt ∧ mside1.toInt ≤ 5) (hh38 : 0 ≤ mslotFound.toInt ∧ mslotFound.toInt ≤ 8191) (hh39 : 0 ≤ misSpent.toInt ∧ misSpent.toInt ≤ 1) (hh40 : 0 ≤ mlaid.toInt ∧ mlaid.toInt ≤ 16) (hh41 : 0 ≤ msights.toInt ∧ msights.toInt ≤ 30) (hh42 : 0 ≤ mtime.toInt ∧ mtime.toInt ≤ 100000) (hso : SO mbank Fmmen FmsonOf) : Met l yX12_comes (.code yX12_comes cX12_comes 5 (some .int) :: gT) ({ frames := 2, cells := 0, slots := 0, locals := 43 }) (va_Pc [.ref h, .int p0, .int p1] (Pst g sz [(h, .inr (12, [.ref mtape, .ref mtext, .int mtaped, .int msize, .int mfaultKind, .int mfaultPlace, .int mat, .int mend, .int mtoken, .int mnumber, .long mname, .ref mmen, .ref mkinds, .ref mreasons, .ref mtold, .ref munits, .ref mhonour, .ref mdraw, .ref mdies, .ref mcoin, .ref msonOf, .ref mkindOf, .ref mowner, .ref mfirst, .ref mlast, .ref mrent, .ref msort, .ref mduelOne, .ref mduelOther, .ref mduelOn, .ref mruleFrom, .ref mruleTo, .ref mhasHonour, .ref mhasDraw, .ref mmName, .ref mkName, .ref mrName, .ref mdName, .ref mcode, .ref mcodeNumber, .ref meWhat, .ref meSign, .ref mpile, .int mbank, .int mrb, .int mcodes, .int mwithin, .int mpiled, .int munitsInRule, .int maskDay, .int maskUses, .int maskSpent, .ref mall, .ref mwas, .int macts, .int mundone, .ref musedBy0, .ref musedBy1, .ref mmornings, .ref mcameFrom, .ref mcameBy, .ref mlevelAt, .ref mwins, .ref mslots, .ref mlevelOf, .ref mworthOf, .int mstates, .int mlevels, .int mside0, .int mside1, .int mdeathDay, .int maway, .int mhires, .int mhirer, .int mslotFound, .int misSpent, .int mfound, .int mlaid, .ref mlaidRow, .ref mgReason, .ref mgDay, .ref mgTold, .ref mgUntold, .int msights, .int mtime, .ref mboxAll, .ref misBoxed])), (mmen, aI g 2 Fmmen), (msonOf, aI g 12 FmsonOf)] nX)) (va_Qi (fun (r : Int32) => fun (_ : Unit) => True) (Qst g [] sz (fun _ => [])) (va_A [] sz)) 0 0 (va_A [] sz) := by
  refine Met.ofW (cc := cX12_comes) (maxL := 5) (ret := (some .int)) (by decide) rfl ?_
  intro p e s m args below meth c s₁ B hml hv
  obtain ⟨rfl, hsz, hP, hK, hD0, hX⟩ := hv
  have hx := B.exec
  have hb := B.bytes
  have hr := B.returns
  have hT : ∀ w ∈ gT, w.before _ s = true := fun w h => atoms_spec (ws := .code yX12_comes cX12_comes 5 (some .int) :: gT) B.pre w (List.mem_cons_of_mem _ h)
  have hown : s.vm.findClass RX12 = some m.cls := findClass_of_methodNamed B.named
  have hlocks := B.notSynchronized
  subst hsz
  have hD := hD0
  generalize hAe : va_A [] s.heap.size = A at ⊢
  have hA : ∀ q : Nat, s.heap.size ≤ q → A q := fun q h => by rw [← hAe]; exact Or.inr h
  have hS : va_S A s.heap s.heap [] := va_S.rf
  have hl := lv_entry ([.ref h, .int p0, .int p1]) (n := 5) (Nat.le_of_ble_eq_true rfl)
  rw [lg_entry_eq]
  generalize (lg_sl ([.ref h, .int p0, .int p1]) ++ List.replicate (5 - (lg_sl ([.ref h, .int p0, .int p1])).length) Slot.unset).toArray = ls at hl ⊢
  have hl : lv_has ls 5 [(0, .ref h), (1, .int p0), (2, .int p1)] := hl
  refine p_nH (fun H hH => ?_)
  have hP : va_P g.1 vwCl [(h, .inr (12, [.ref mtape, .ref mtext, .int mtaped, .int msize, .int mfaultKind, .int mfaultPlace, .int mat, .int mend, .int mtoken, .int mnumber, .long mname, .ref mmen, .ref mkinds, .ref mreasons, .ref mtold, .ref munits, .ref mhonour, .ref mdraw, .ref mdies, .ref mcoin, .ref msonOf, .ref mkindOf, .ref mowner, .ref mfirst, .ref mlast, .ref mrent, .ref msort, .ref mduelOne, .ref mduelOther, .ref mduelOn, .ref mruleFrom, .ref mruleTo, .ref mhasHonour, .ref mhasDraw, .ref mmName, .ref mkName, .ref mrName, .ref mdName, .ref mcode, .ref mcodeNumber, .ref meWhat, .ref meSign, .ref mpile, .int mbank, .int mrb, .int mcodes, .int mwithin, .int mpiled, .int munitsInRule, .int maskDay, .int maskUses, .int maskSpent, .ref mall, .ref mwas, .int macts, .int mundone, .ref musedBy0, .ref musedBy1, .ref mmornings, .ref mcameFrom, .ref mcameBy, .ref mlevelAt, .ref mwins, .ref mslots, .ref mlevelOf, .ref mworthOf, .int mstates, .int mlevels, .int mside0, .int mside1, .int mdeathDay, .int maway, .int mhires, .int mhirer, .int mslotFound, .int misSpent, .int mfound, .int mlaid, .ref mlaidRow, .ref mgReason, .ref mgDay, .ref mgTold, .ref mgUntold, .int msights, .int mtime, .ref mboxAll, .ref misBoxed])), (mmen, aI g 2 Fmmen), (msonOf, aI g 12 FmsonOf)] H := by rw [hH]; exact hP
  have hS : va_S A s.heap H [] := by rw [hH]; exact hS
  refine lv_aload_n hx hb dX12_comes_0 rfl (lv_at hl 0 rfl) ?_
  refine lv_iload_n hx hb dX12_comes_1 rfl (lv_at hl 1 rfl) ?_
  refine k_iR (k_V (n := 1) ⟨hx, hb, hml, hown, hT⟩ hK hP hD [0, 1] rfl (by decide +kernel) (s_X12_isMan l g H.size h mtape mtext mtaped msize mfaultKind mfaultPlace mat mend mtoken mnumber mname mmen Fmmen mkinds mreasons mtold munits mhonour mdraw mdies mcoin msonOf mkindOf mowner mfirst mlast mrent msort mduelOne mduelOther mduelOn mruleFrom mruleTo mhasHonour mhasDraw mmName mkName mrName mdName mcode mcodeNumber meWhat meSign mpile mbank mrb mcodes mwithin mpiled munitsInRule maskDay maskUses maskSpent mall mwas macts mundone musedBy0 musedBy1 mmornings mcameFrom mcameBy mlevelAt mwins mslots mlevelOf mworthOf mstates mlevels mside0 mside1 mdeathDay maway mhires mhirer mslotFound misSpent mfound mlaid mlaidRow mgReason mgDay mgTold mgUntold msights mtime mboxAll misBoxed p0 (by first | with_reducible assumption | omega) (by first | with_reducible assumption | omega) (by first | with_reducible assumption | omega) (by first | with_reducible assumption | omega) (by first | with_reducible assumption | omega) hh5 (by first | with_reducible assumption | omega) (by first | with_reducible assumption | omega) (by first | with_reducible assumption | omega) (by first | with_reducible assumption | omega) (by first | with_reducible assumption | omega) (by first | with_reducible assumption | omega) (by first | with_reducible assumption | omega) (by first | with_reducible assumption | omega) (by first | with_reducible assumption | omega) (by first | with_reducible assumption | omega) (by first | with_reducible assumption | omega) (by first | with_reducible assumption | omega) (by first | with_reducible assumption | omega) (by first | with_reducible assumption | omega) (by first | with_reducible assumption | omega) (by first | with_reducible assumption | omega)) (gV bw_910 bw_911 bw_912 bw_840 bw_829) rfl rfl (by decide +kernel) ⟨by decide, by decide⟩ (ci := 12) (q0 := 0) rfl rfl (fun _ _ _ _ _ => trivial) (fun _ _ _ => trivial) rfl rfl hl.1 (Nat.le_of_ble_eq_true rfl) dX12_comes_2 ⟨by decide, by decide⟩) hP hS hA (fun r_1 _ H locs hw0 hP hS => ?_)
  have hw : (r_1 = 1 ∧ (0 ≤ p0.toInt ∧ p0.toInt < (Fmmen mbank.toNatClampNeg).toInt) ∧ (p0.toInt ≤ 5)) ∨ (r_1 = 0) := hw0
  clear hw0
  rcases hw with ⟨e_4, w_2, w_3⟩ | e_5
  · subst e_4
    refine lv_if_eq (tgt := 16) hx hb dX12_comes_5 (by decide) (fun c9 => absurd c9 (by decide)) (fun _ => ?_)
    refine lv_aload_n hx hb dX12_comes_8 rfl (lv_at hl 0 rfl) ?_
    refine lv_iload_n hx hb dX12_comes_9 rfl (lv_at hl 2 rfl) ?_
    refine k_iR (k_V (n := 1) ⟨hx, hb, hml, hown, hT⟩ hK hP hD [0, 1] rfl (by decide +kernel) (s_X12_isMan l g H.size h mtape mtext mtaped msize mfaultKind mfaultPlace mat mend mtoken mnumber mname mmen Fmmen mkinds mreasons mtold munits mhonour mdraw mdies mcoin msonOf mkindOf mowner mfirst mlast mrent msort mduelOne mduelOther mduelOn mruleFrom mruleTo mhasHonour mhasDraw mmName mkName mrName mdName mcode mcodeNumber meWhat meSign mpile mbank mrb mcodes mwithin mpiled munitsInRule maskDay maskUses maskSpent mall mwas macts mundone musedBy0 musedBy1 mmornings mcameFrom mcameBy mlevelAt mwins mslots mlevelOf mworthOf mstates mlevels mside0 mside1 mdeathDay maway mhires mhirer mslotFound misSpent mfound mlaid mlaidRow mgReason mgDay mgTold mgUntold msights mtime mboxAll misBoxed p1 (by first | with_reducible assumption | omega) (by first | with_reducible assumption | omega) (by first | with_reducible assumption | omega) (by first | with_reducible assumption | omega) (by first | with_reducible assumption | omega) hh5 (by first | with_reducible assumption | omega) (by first | with_reducible assumption | omega) (by first | with_reducible assumption | omega) (by first | with_reducible assumption | omega) (by first | with_reducible assumption | omega) (by first | with_reducible assumption | omega) (by first | with_reducible assumption | omega) (by first | with_reducible assumption | omega) (by first | with_reducible assumption | omega) (by first | with_reducible assumption | omega) (by first | with_reducible assumption | omega) (by first | with_reducible assumption | omega) (by first | with_reducible assumption | omega) (by first | with_reducible assumption | omega) (by first | with_reducible assumption | omega) (by first | with_reducible assumption | omega)) (gV bw_910 bw_911 bw_912 bw_840 bw_829) rfl rfl (by decide +kernel) ⟨by decide, by decide⟩ (ci := 12) (q0 := 0) rfl rfl (fun _ _ _ _ _ => trivial) (fun _ _ _ => trivial) rfl rfl hl.1 (Nat.le_of_ble_eq_true rfl) dX12_comes_10 ⟨by decide, by decide⟩) hP hS hA (fun r_6 _ H locs hw0 hP hS => ?_)
    have hw : (r_6 = 1 ∧ (0 ≤ p1.toInt ∧ p1.toInt < (Fmmen mbank.toNatClampNeg).toInt) ∧ (p1.toInt ≤ 5)) ∨ (r_6 = 0) := hw0
    clear hw0
    rcases hw with ⟨e_9, w_7, w_8⟩ | e_10
    · subst e_9
      refine lv_if_ne (tgt := 18) hx hb dX12_comes_13 (by decide) (fun _ => ?_) (fun c9 => absurd c9 (by decide))
      refine lv_iconst (v := 0) hx hb dX12_comes_18 (by decide) ?_
      refine lv_istore_n (lv' := [(3, .int 0), (0, .ref h), (1, .int p0), (2, .int p1)]) hx hb dX12_comes_19 rfl hl (by decide) rfl (fun ls hl => ?_)
      refine lv_iload_n hx hb dX12_comes_20 rfl (lv_at hl 3 rfl) ?_
      refine lv_istore (lv' := [(4, .int p1), (3, .int 0), (0, .ref h), (1, .int p0), (2, .int p1)]) hx hb dX12_comes_21 hl (by decide) rfl (fun ls hl => ?_)
      refine k_floop 23 (fun n H locs ls => ∃ (L_11 : Int32) (L_12 : Int32), ((-1) ≤ L_11.toInt ∧ L_11.toInt ≤ 5) ∧ (L_11.toInt < (Fmmen mbank.toNatClampNeg).toInt) ∧ L_11.toInt + 1 ≤ (n : Int) ∧ va_P g.1 vwCl [(h, .inr (12, [.ref mtape, .ref mtext, .int mtaped, .int msize, .int mfaultKind, .int mfaultPlace, .int mat, .int mend, .int mtoken, .int mnumber, .long mname, .ref mmen, .ref mkinds, .ref mreasons, .ref mtold, .ref munits, .ref mhonour, .ref mdraw, .ref mdies, .ref mcoin, .ref msonOf, .ref mkindOf, .ref mowner, .ref mfirst, .ref mlast, .ref mrent, .ref msort, .ref mduelOne, .ref mduelOther, .ref mduelOn, .ref mruleFrom, .ref mruleTo, .ref mhasHonour, .ref mhasDraw, .ref mmName, .ref mkName, .ref mrName, .ref mdName, .ref mcode, .ref mcodeNumber, .ref meWhat, .ref meSign, .ref mpile, .int mbank, .int mrb, .int mcodes, .int mwithin, .int mpiled, .int munitsInRule, .int maskDay, .int maskUses, .int maskSpent, .ref mall, .ref mwas, .int macts, .int mundone, .ref musedBy0, .ref musedBy1, .ref mmornings, .ref mcameFrom, .ref mcameBy, .ref mlevelAt, .ref mwins, .ref mslots, .ref mlevelOf, .ref mworthOf, .int mstates, .int mlevels, .int mside0, .int mside1, .int mdeathDay, .int maway, .int mhires, .int mhirer, .int mslotFound, .int misSpent, .int mfound, .int mlaid, .ref mlaidRow, .ref mgReason, .ref mgDay, .ref mgTold, .ref mgUntold, .int msights, .int mtime, .ref mboxAll, .ref misBoxed])), (mmen, aI g 2 Fmmen), (msonOf, aI g 12 FmsonOf)] H ∧ va_S A s.heap H locs ∧ lv_has ls 5 [(4, .int L_11), (3, .int L_12), (0, .ref h), (1, .int p0), (2, .int p1)]) (fun n H locs ls hI ih => ?_) ((p1.toInt + 1 : Int)).toNat ⟨p1, 0, (by first | with_reducible assumption | omega), by have k0 : (0 : Int32).toInt = 0 := (by decide); omega, by have k0 : (0 : Int32).toInt = 0 := (by decide); omega, hP, hS, hl⟩
      refine hI.elim (fun L_11 hI => hI.elim (fun L_12 hI => ?_))
      have g_13 := hI.1
      have q_14 := hI.2.1
      have hm_15 := hI.2.2.1
      have hP := hI.2.2.2.1
      have hS := hI.2.2.2.2.1
      have hl := hI.2.2.2.2.2
      clear hI
      refine lv_iload hx hb dX12_comes_23 (lv_at hl 0 rfl) ?_
      refine lv_if_lt (tgt := 57) hx hb dX12_comes_25 (by decide) (fun c_16 => ?_) (fun c_16 => ?_)
      · have f_17 := E_lt (rfl : L_11.toInt = _) (by decide : (0 : Int32).toInt = 0) c_16
        refine lv_iload hx hb dX12_comes_57 (lv_at hl 0 rfl) ?_
        refine lv_if_ge (tgt := 66) hx hb dX12_comes_59 (by decide) (fun c9 => absurd c9 (L_nle (by decide : (0 : Int32).toInt = 0) rfl (by omega))) (fun _ => ?_)
        refine lv_iconst (v := 0) hx hb dX12_comes_62 (by decide) ?_
        refine lv_goto (tgt := 67) hx hb dX12_comes_63 (by decide) ?_
        have hP9 : va_P g.1 vwCl [] H := hP.sub [] rfl
        have hD9 : va_D A [] := ⟨fun i j p q h => by simp at h, fun k q h => by simp at h⟩
        exact W.iret (v := 0) hx hb hr (fun t ht hW => ⟨⟨0, (), rfl, trivial, by rw [ht]; exact hP9, by rw [hAe]; exact hD9⟩, hS.F ht⟩) hS.2.2 dX12_comes_67
      · have f_18 := E_nlt (rfl : L_11.toInt = _) (by decide : (0 : Int32).toInt = 0) c_16
        refine lv_iload hx hb dX12_comes_28 (lv_at hl 0 rfl) ?_
        refine lv_iload_n hx hb dX12_comes_30 rfl (lv_at hl 3 rfl) ?_
        refine lv_icmp_eq (tgt := 57) hx hb dX12_comes_31 (by decide) (fun c_19 => ?_) (fun c_19 => ?_)
        · have f_20 := E_eq (rfl : L_11.toInt = _) (rfl : p0.toInt = _) c_19
          refine lv_iload hx hb dX12_comes_57 (lv_at hl 0 rfl) ?_
          refine lv_if_ge (tgt := 66) hx hb dX12_comes_59 (by decide) (fun _ => ?_) (fun c9 => absurd (L_le (by decide : (0 : Int32).toInt = 0) rfl (by omega)) c9)
          refine lv_iload_n hx hb dX12_comes_66 rfl (lv_at hl 1 rfl) ?_
          have hP9 : va_P g.1 vwCl [] H := hP.sub [] rfl
          have hD9 : va_D A [] := ⟨fun i j p q h => by simp at h, fun k q h => by simp at h⟩
          exact W.iret (v := L_12) hx hb hr (fun t ht hW => ⟨⟨L_12, (), rfl, trivial, by rw [ht]; exact hP9, by rw [hAe]; exact hD9⟩, hS.F ht⟩) hS.2.2 dX12_comes_67
        · have f_21 := E_ne (rfl : L_11.toInt = _) (rfl : p0.toInt = _) c_19
          refine lv_aload_n hx hb dX12_comes_34 rfl (lv_at hl 2 rfl) ?_
          refine va_get (D := g.1) (ci := 12) (v := .ref msonOf) (C := RX12) (T := TX12) (N := 87) hx hb hT inF_X12 hown hK.1 hP 0 rfl rfl 20 (by decide) (hT _ bw_913) (fun _ h9 => h9) rfl dX12_comes_35 ?_
          refine lv_bipush (v := 6) hx hb dX12_comes_38 (by decide) ?_
          refine lv_aload_n hx hb dX12_comes_40 rfl (lv_at hl 2 rfl) ?_
          refine va_get (D := g.1) (ci := 12) (v := .int mbank) (C := RX12) (T := TX12) (N := 87) hx hb hT inF_X12 hown hK.1 hP 0 rfl rfl 43 (by decide) (hT _ bw_825) (fun _ h9 => h9) rfl dX12_comes_41 ?_
          refine lv_imul hx hb dX12_comes_44 ?_
          refine lv_topi (fun x_22 ex_22 => ?_)
          have fx_22 : x_22.toInt = 6 * mbank.toInt := by rw [ex_22]; exact I_mul (by decide : (6 : Int32).toInt = 6) rfl (by omega) (by omega)
          refine lv_iload hx hb dX12_comes_45 (lv_at hl 0 rfl) ?_
          refine lv_iadd hx hb dX12_comes_47 ?_
          refine lv_topi (fun x_23 ex_23 => ?_)
          have fx_23 : x_23.toInt = x_22.toInt + L_11.toInt := by rw [ex_23]; exact I_add rfl rfl (by omega) (by omega)
          have h_24 : vp_in x_23 12 := vp_in_iff.mpr (by omega)
          refine va_iald hx hb hK.1 hP 2 1 rfl rfl (i := x_23) h_24 dX12_comes_48 ?_
          refine lv_topi (fun x_25 ex_25 => ?_)
          have fx_25 : (-1) ≤ x_25.toInt ∧ x_25.toInt ≤ 5 := Rg.rd hh11 h_24 ex_25
          have ux_25 := congrArg Int32.toInt ex_25
          have hs9 := SO.at hso (r := L_11) (by omega) (by omega) (by omega) (i := x_23) (by omega) ex_25
          refine lv_istore (lv' := [(4, .int x_25), (3, .int L_12), (0, .ref h), (1, .int p0), (2, .int p1)]) hx hb dX12_comes_49 hl (by decide) rfl (fun ls hl => ?_)
          obtain ⟨x_26, ex_26⟩ : ∃ y : Int32, y = L_12 + 1 := ⟨_, rfl⟩
          refine lv_iinc (v := x_26) (lv' := [(3, .int x_26), (4, .int x_25), (0, .ref h), (1, .int p0), (2, .int p1)]) hx hb dX12_comes_51 hl (k := 1) rfl (by rw [ex_26]; rfl) (by decide) rfl (fun ls hl => ?_)
          refine lv_goto (tgt := 23) hx hb dX12_comes_54 (by decide) ?_
          exact ih (n - 1) (by omega) H locs ls ⟨x_25, x_26, (by first | with_reducible assumption | omega), by omega, by omega, hP.sub [0, 1, 2] rfl, hS, lv_sub hl [1, 0, 2, 3, 4] rfl⟩
    · subst e_10
      refine lv_if_ne (tgt := 18) hx hb dX12_comes_13 (by decide) (fun c9 => absurd (by decide) c9) (fun _ => ?_)
      refine lv_iconst (v := (-1)) hx hb dX12_comes_16 (by decide) ?_
      have hP9 : va_P g.1 vwCl [] H := hP.sub [] rfl
      have hD9 : va_D A [] := ⟨fun i j p q h => by simp at h, fun k q h => by simp at h⟩
      exact W.iret (v := (-1)) hx hb hr (fun t ht hW => ⟨⟨(-1), (), rfl, trivial, by rw [ht]; exact hP9, by rw [hAe]; exact hD9⟩, hS.F ht⟩) hS.2.2 dX12_comes_17
  · subst e_5
    refine lv_if_eq (tgt := 16) hx hb dX12_comes_5 (by decide) (fun _ => ?_) (fun c9 => absurd (by decide) c9)
    refine lv_iconst (v := (-1)) hx hb dX12_comes_16 (by decide) ?_
    have hP9 : va_P g.1 vwCl [] H := hP.sub [] rfl
    have hD9 : va_D A [] := ⟨fun i j p q h => by simp at h, fun k q h => by simp at h⟩
    exact W.iret (v := (-1)) hx hb hr (fun t ht hW => ⟨⟨(-1), (), rfl, trivial, by rw [ht]; exact hP9, by rw [hAe]; exact hD9⟩, hS.F ht⟩) hS.2.2 dX12_comes_17
