theorem py_room16 {m : MethodId} {pc : Nat} {ls : Array Slot} {rest st : List Value} (h : (st.map fun v => v.category).sum ≤ 16) : 2 * (F0 m pc ls rest).monitorRoom + (st.map fun v => v.category).sum ≤ 16 := by
  show 2 * 0 + _ ≤ 16
  omega
/-- a call with up to sixteen cells on the stack below -/
theorem py_runV16 {p : Program} {l : Launch} {e : Env} {R : Room} {s : State} {m : MethodId} {args : Array Value} {below : List Frame} {meth : Method} {c : Code} {H : Heap} {locs : List Loc} {cells slots : Nat} {y : MethodName} {bytes cc : ByteArray} {maxL nL mc ms n index : Nat} {ret : Option FieldType} {ws : List Cond} {rm : Room} {Pc : Array Value → State → Prop} {Qc : Array Value → State → Outcome → State → Prop} {free : Addr → Prop} {Ts : List Cond} {own C : String} {b : Addr} {As rest : List Value} {g : JFrame}
    (S : CallFix p m c cc nL s args Ts own) (hM : Met l y ws rm Pc Qc mc ms free) (cw : CallW R s args own C index y bytes maxL ret ws rm mc ms n) (h16 : 16 + (maxL + 11) + rm.locals ≤ R.locals) (hp : PreV s H C b Pc As)
    (hg : g.method = m) (hn : As.length = n) (hsize : g.locals.size = nL) (hstack : g.stack = As.reverse ++ .ref b :: rest) (hW : 2 * g.monitorRoom + (rest.map fun v => v.category).sum ≤ 16) (hdg : decode cc g.pc = .ok (.invokevirtual index, 3)) (hf : cells + mc ≤ R.cells ∧ slots + ms ≤ R.slots) :
    va_Run p l e R s m args below meth c H locs cells slots mc ms g rest (Qc (Value.ref b :: As).toArray) free := by
  obtain ⟨⟨hrc, hrs, hfr, hlo, hws, hcw, hcode, hini, hy, hlen, hl⟩, hin, hse⟩ := cw
  have hK : Back l R p e below s args y 3 16 (PreOf R mc ms Pc) (PostOf Qc mc ms free) := back_of (bytes := bytes) (maxL := maxL) (ret := ret) hM hp.1 hrc hrs hfr h16 hws hcw (fun a' U hW => word_at hW (Or.inl (by first | rfl | simp [Cond.onTables, Cond.keeps, Cond.steady])) hini)
  obtain ⟨hx, hb, hml, ho, -⟩ := S
  obtain ⟨-, ⟨cellB, hcB, hoB, hclB⟩, hPc⟩ := hp
  intro T hT X
  obtain ⟨v, vm₁, ⟨U', l2, c2, s2⟩, hW₁, X', ⟨g', mk, t, L, e1, e2, hq, h1, hL, h2, h3⟩, st⟩ := callV X hx (C := C) (bytes := bytes) (maxL := maxL) (ret := ret) ho hl hin hse hcode hy hK (by rw [hT]; exact hcB) hoB hclB hg (hsize.trans hml.symm) (argsL := As) (rest := rest) (fun sig h => hn.trans (hlen sig h)) hstack hW (by rw [hb]; exact hdg)
    (fun vm₁ hW₁ => ⟨hf.1, hf.2, hPc (T.setVm vm₁) hT hW₁⟩)
  dsimp only [Pt.U, Pt.locs, Pt.cells, Pt.slots] at X' e1 e2 h1 h2 h3 st
  subst h1; subst h2; subst h3
  exact ⟨v, (T.setVm vm₁).calling g' mk (Value.ref b :: As).toArray, t, U', L, hT, X', hL, e1, e2, hq, st⟩
theorem dX12_goOn_0 : decode cX12_goOn 0 = .ok (.iconst 0, 1) := by decide +kernel
theorem dX12_goOn_1 : decode cX12_goOn 1 = .ok (.istore 7, 2) := by decide +kernel
theorem dX12_goOn_3 : decode cX12_goOn 3 = .ok (.iload 7, 2) := by decide +kernel
theorem dX12_goOn_5 : decode cX12_goOn 5 = .ok (.iload_n 2, 1) := by decide +kernel
theorem dX12_goOn_6 : decode cX12_goOn 6 = .ok (.if_icmp .gt 27, 3) := by decide +kernel
theorem dX12_goOn_9 : decode cX12_goOn 9 = .ok (.aload_n 0, 1) := by decide +kernel
theorem dX12_goOn_10 : decode cX12_goOn 10 = .ok (.getfield 108, 3) := by decide +kernel
theorem dX12_goOn_13 : decode cX12_goOn 13 = .ok (.iload 7, 2) := by decide +kernel
theorem dX12_goOn_15 : decode cX12_goOn 15 = .ok (.iload 7, 2) := by decide +kernel
theorem dX12_goOn_17 : decode cX12_goOn 17 = .ok (.ifCond .ne 8, 3) := by decide +kernel
theorem dX12_goOn_20 : decode cX12_goOn 20 = .ok (.lload 4, 2) := by decide +kernel
theorem dX12_goOn_22 : decode cX12_goOn 22 = .ok (.goto 4, 3) := by decide +kernel
theorem dX12_goOn_25 : decode cX12_goOn 25 = .ok (.lconst 0, 1) := by decide +kernel
theorem dX12_goOn_26 : decode cX12_goOn 26 = .ok (.lastore, 1) := by decide +kernel
theorem dX12_goOn_27 : decode cX12_goOn 27 = .ok (.iinc 7 1, 3) := by decide +kernel
theorem dX12_goOn_30 : decode cX12_goOn 30 = .ok (.goto (-27), 3) := by decide +kernel
theorem dX12_goOn_33 : decode cX12_goOn 33 = .ok (.iconst 0, 1) := by decide +kernel
theorem dX12_goOn_34 : decode cX12_goOn 34 = .ok (.istore 7, 2) := by decide +kernel
theorem dX12_goOn_36 : decode cX12_goOn 36 = .ok (.iload 7, 2) := by decide +kernel
theorem dX12_goOn_38 : decode cX12_goOn 38 = .ok (.iload_n 2, 1) := by decide +kernel
theorem dX12_goOn_39 : decode cX12_goOn 39 = .ok (.if_icmp .ge 71, 3) := by decide +kernel
theorem dX12_goOn_42 : decode cX12_goOn 42 = .ok (.iload 7, 2) := by decide +kernel
theorem dX12_goOn_44 : decode cX12_goOn 44 = .ok (.istore 8, 2) := by decide +kernel
theorem dX12_goOn_46 : decode cX12_goOn 46 = .ok (.iload 8, 2) := by decide +kernel
theorem dX12_goOn_48 : decode cX12_goOn 48 = .ok (.ifCond .lt 56, 3) := by decide +kernel
theorem dX12_goOn_51 : decode cX12_goOn 51 = .ok (.aload_n 0, 1) := by decide +kernel
theorem dX12_goOn_52 : decode cX12_goOn 52 = .ok (.getfield 108, 3) := by decide +kernel
theorem dX12_goOn_55 : decode cX12_goOn 55 = .ok (.iload 8, 2) := by decide +kernel
theorem dX12_goOn_57 : decode cX12_goOn 57 = .ok (.laload, 1) := by decide +kernel
theorem dX12_goOn_58 : decode cX12_goOn 58 = .ok (.aload_n 0, 1) := by decide +kernel
theorem dX12_goOn_59 : decode cX12_goOn 59 = .ok (.iload_n 1, 1) := by decide +kernel
theorem dX12_goOn_60 : decode cX12_goOn 60 = .ok (.iconst 2, 1) := by decide +kernel
theorem dX12_goOn_61 : decode cX12_goOn 61 = .ok (.invokevirtual 293, 3) := by decide +kernel
theorem dX12_goOn_64 : decode cX12_goOn 64 = .ok (.i2l, 1) := by decide +kernel
theorem dX12_goOn_65 : decode cX12_goOn 65 = .ok (.lmul, 1) := by decide +kernel
theorem dX12_goOn_66 : decode cX12_goOn 66 = .ok (.ldc2_w 420, 3) := by decide +kernel
theorem dX12_goOn_69 : decode cX12_goOn 69 = .ok (.ldiv, 1) := by decide +kernel
theorem dX12_goOn_70 : decode cX12_goOn 70 = .ok (.lstore 9, 2) := by decide +kernel
theorem dX12_goOn_72 : decode cX12_goOn 72 = .ok (.aload_n 0, 1) := by decide +kernel
theorem dX12_goOn_73 : decode cX12_goOn 73 = .ok (.getfield 108, 3) := by decide +kernel
theorem dX12_goOn_76 : decode cX12_goOn 76 = .ok (.iload 8, 2) := by decide +kernel
theorem dX12_goOn_78 : decode cX12_goOn 78 = .ok (.iconst 1, 1) := by decide +kernel
theorem dX12_goOn_79 : decode cX12_goOn 79 = .ok (.iadd, 1) := by decide +kernel
theorem dX12_goOn_80 : decode cX12_goOn 80 = .ok (.dup2, 1) := by decide +kernel
theorem dX12_goOn_81 : decode cX12_goOn 81 = .ok (.laload, 1) := by decide +kernel
theorem dX12_goOn_82 : decode cX12_goOn 82 = .ok (.lload 9, 2) := by decide +kernel
theorem dX12_goOn_84 : decode cX12_goOn 84 = .ok (.ladd, 1) := by decide +kernel
theorem dX12_goOn_85 : decode cX12_goOn 85 = .ok (.lastore, 1) := by decide +kernel
theorem dX12_goOn_86 : decode cX12_goOn 86 = .ok (.aload_n 0, 1) := by decide +kernel
theorem dX12_goOn_87 : decode cX12_goOn 87 = .ok (.getfield 108, 3) := by decide +kernel
theorem dX12_goOn_90 : decode cX12_goOn 90 = .ok (.iload 8, 2) := by decide +kernel
theorem dX12_goOn_92 : decode cX12_goOn 92 = .ok (.dup2, 1) := by decide +kernel
theorem dX12_goOn_93 : decode cX12_goOn 93 = .ok (.laload, 1) := by decide +kernel
theorem dX12_goOn_94 : decode cX12_goOn 94 = .ok (.lload 9, 2) := by decide +kernel
theorem dX12_goOn_96 : decode cX12_goOn 96 = .ok (.lsub, 1) := by decide +kernel
theorem dX12_goOn_97 : decode cX12_goOn 97 = .ok (.lastore, 1) := by decide +kernel
theorem dX12_goOn_98 : decode cX12_goOn 98 = .ok (.iinc 8 (-1), 3) := by decide +kernel
theorem dX12_goOn_101 : decode cX12_goOn 101 = .ok (.goto (-55), 3) := by decide +kernel
theorem dX12_goOn_104 : decode cX12_goOn 104 = .ok (.iinc 7 1, 3) := by decide +kernel
theorem dX12_goOn_107 : decode cX12_goOn 107 = .ok (.goto (-71), 3) := by decide +kernel
theorem dX12_goOn_110 : decode cX12_goOn 110 = .ok (.iconst 0, 1) := by decide +kernel
theorem dX12_goOn_111 : decode cX12_goOn 111 = .ok (.istore 7, 2) := by decide +kernel
theorem dX12_goOn_113 : decode cX12_goOn 113 = .ok (.iload 7, 2) := by decide +kernel
theorem dX12_goOn_115 : decode cX12_goOn 115 = .ok (.iload_n 2, 1) := by decide +kernel
theorem dX12_goOn_116 : decode cX12_goOn 116 = .ok (.if_icmp .gt 100, 3) := by decide +kernel
theorem dX12_goOn_119 : decode cX12_goOn 119 = .ok (.aload_n 0, 1) := by decide +kernel
theorem dX12_goOn_120 : decode cX12_goOn 120 = .ok (.getfield 108, 3) := by decide +kernel
theorem dX12_goOn_123 : decode cX12_goOn 123 = .ok (.iload 7, 2) := by decide +kernel
theorem dX12_goOn_125 : decode cX12_goOn 125 = .ok (.laload, 1) := by decide +kernel
theorem dX12_goOn_126 : decode cX12_goOn 126 = .ok (.lconst 0, 1) := by decide +kernel
theorem dX12_goOn_127 : decode cX12_goOn 127 = .ok (.lcmp, 1) := by decide +kernel
theorem dX12_goOn_128 : decode cX12_goOn 128 = .ok (.ifCond .le 82, 3) := by decide +kernel
theorem dX12_goOn_131 : decode cX12_goOn 131 = .ok (.bipush 20, 2) := by decide +kernel
theorem dX12_goOn_133 : decode cX12_goOn 133 = .ok (.iload_n 2, 1) := by decide +kernel
theorem dX12_goOn_134 : decode cX12_goOn 134 = .ok (.iload 7, 2) := by decide +kernel
theorem dX12_goOn_136 : decode cX12_goOn 136 = .ok (.isub, 1) := by decide +kernel
theorem dX12_goOn_137 : decode cX12_goOn 137 = .ok (.iload_n 3, 1) := by decide +kernel
theorem dX12_goOn_138 : decode cX12_goOn 138 = .ok (.iadd, 1) := by decide +kernel
theorem dX12_goOn_139 : decode cX12_goOn 139 = .ok (.invokestatic 339, 3) := by decide +kernel
theorem dX12_goOn_142 : decode cX12_goOn 142 = .ok (.istore 8, 2) := by decide +kernel
theorem dX12_goOn_144 : decode cX12_goOn 144 = .ok (.iload 8, 2) := by decide +kernel
theorem dX12_goOn_146 : decode cX12_goOn 146 = .ok (.ifCond .ne 22, 3) := by decide +kernel
theorem dX12_goOn_149 : decode cX12_goOn 149 = .ok (.aload_n 0, 1) := by decide +kernel
theorem dX12_goOn_150 : decode cX12_goOn 150 = .ok (.dup, 1) := by decide +kernel
theorem dX12_goOn_151 : decode cX12_goOn 151 = .ok (.getfield 422, 3) := by decide +kernel
theorem dX12_goOn_154 : decode cX12_goOn 154 = .ok (.aload_n 0, 1) := by decide +kernel
theorem dX12_goOn_155 : decode cX12_goOn 155 = .ok (.getfield 108, 3) := by decide +kernel
theorem dX12_goOn_158 : decode cX12_goOn 158 = .ok (.iload 7, 2) := by decide +kernel
theorem dX12_goOn_160 : decode cX12_goOn 160 = .ok (.laload, 1) := by decide +kernel
theorem dX12_goOn_161 : decode cX12_goOn 161 = .ok (.ladd, 1) := by decide +kernel
theorem dX12_goOn_162 : decode cX12_goOn 162 = .ok (.putfield 422, 3) := by decide +kernel
theorem dX12_goOn_165 : decode cX12_goOn 165 = .ok (.goto 45, 3) := by decide +kernel
theorem dX12_goOn_168 : decode cX12_goOn 168 = .ok (.aload_n 0, 1) := by decide +kernel
theorem dX12_goOn_169 : decode cX12_goOn 169 = .ok (.getfield 105, 3) := by decide +kernel
theorem dX12_goOn_172 : decode cX12_goOn 172 = .ok (.aload_n 0, 1) := by decide +kernel
theorem dX12_goOn_173 : decode cX12_goOn 173 = .ok (.iload_n 1, 1) := by decide +kernel
theorem dX12_goOn_174 : decode cX12_goOn 174 = .ok (.aload_n 0, 1) := by decide +kernel
theorem dX12_goOn_175 : decode cX12_goOn 175 = .ok (.aload_n 0, 1) := by decide +kernel
theorem dX12_goOn_176 : decode cX12_goOn 176 = .ok (.getfield 64, 3) := by decide +kernel
theorem dX12_goOn_179 : decode cX12_goOn 179 = .ok (.iload_n 3, 1) := by decide +kernel
theorem dX12_goOn_180 : decode cX12_goOn 180 = .ok (.iload 7, 2) := by decide +kernel
theorem dX12_goOn_182 : decode cX12_goOn 182 = .ok (.iload 8, 2) := by decide +kernel
theorem dX12_goOn_184 : decode cX12_goOn 184 = .ok (.iload_n 1, 1) := by decide +kernel
theorem dX12_goOn_185 : decode cX12_goOn 185 = .ok (.iconst 0, 1) := by decide +kernel
theorem dX12_goOn_186 : decode cX12_goOn 186 = .ok (.iload 6, 2) := by decide +kernel
theorem dX12_goOn_188 : decode cX12_goOn 188 = .ok (.invokevirtual 371, 3) := by decide +kernel
theorem dX12_goOn_191 : decode cX12_goOn 191 = .ok (.invokevirtual 344, 3) := by decide +kernel
theorem dX12_goOn_194 : decode cX12_goOn 194 = .ok (.iload 8, 2) := by decide +kernel
theorem dX12_goOn_196 : decode cX12_goOn 196 = .ok (.invokestatic 425, 3) := by decide +kernel
theorem dX12_goOn_199 : decode cX12_goOn 199 = .ok (.dup2, 1) := by decide +kernel
theorem dX12_goOn_200 : decode cX12_goOn 200 = .ok (.laload, 1) := by decide +kernel
theorem dX12_goOn_201 : decode cX12_goOn 201 = .ok (.aload_n 0, 1) := by decide +kernel
theorem dX12_goOn_202 : decode cX12_goOn 202 = .ok (.getfield 108, 3) := by decide +kernel
theorem dX12_goOn_205 : decode cX12_goOn 205 = .ok (.iload 7, 2) := by decide +kernel
theorem dX12_goOn_207 : decode cX12_goOn 207 = .ok (.laload, 1) := by decide +kernel
theorem dX12_goOn_208 : decode cX12_goOn 208 = .ok (.ladd, 1) := by decide +kernel
theorem dX12_goOn_209 : decode cX12_goOn 209 = .ok (.lastore, 1) := by decide +kernel
theorem dX12_goOn_210 : decode cX12_goOn 210 = .ok (.iinc 7 1, 3) := by decide +kernel
theorem dX12_goOn_213 : decode cX12_goOn 213 = .ok (.goto (-100), 3) := by decide +kernel
theorem dX12_goOn_216 : decode cX12_goOn 216 = .ok (.return_, 1) := by decide +kernel
theorem dX12_winter_0 : decode cX12_winter 0 = .ok (.iconst 0, 1) := by decide +kernel
theorem dX12_winter_1 : decode cX12_winter 1 = .ok (.istore_n 3, 1) := by decide +kernel
theorem dX12_winter_2 : decode cX12_winter 2 = .ok (.iload_n 3, 1) := by decide +kernel
theorem dX12_winter_3 : decode cX12_winter 3 = .ok (.aload_n 0, 1) := by decide +kernel
theorem dX12_winter_4 : decode cX12_winter 4 = .ok (.getfield 302, 3) := by decide +kernel
theorem dX12_winter_7 : decode cX12_winter 7 = .ok (.if_icmp .ge 20, 3) := by decide +kernel
theorem dX12_winter_10 : decode cX12_winter 10 = .ok (.aload_n 0, 1) := by decide +kernel
theorem dX12_winter_11 : decode cX12_winter 11 = .ok (.getfield 74, 3) := by decide +kernel
theorem dX12_winter_14 : decode cX12_winter 14 = .ok (.iload_n 3, 1) := by decide +kernel
theorem dX12_winter_15 : decode cX12_winter 15 = .ok (.aload_n 0, 1) := by decide +kernel
theorem dX12_winter_16 : decode cX12_winter 16 = .ok (.iload_n 3, 1) := by decide +kernel
theorem dX12_winter_17 : decode cX12_winter 17 = .ok (.invokevirtual 336, 3) := by decide +kernel
theorem dX12_winter_20 : decode cX12_winter 20 = .ok (.iastore, 1) := by decide +kernel
theorem dX12_winter_21 : decode cX12_winter 21 = .ok (.iinc 3 1, 3) := by decide +kernel
theorem dX12_winter_24 : decode cX12_winter 24 = .ok (.goto (-22), 3) := by decide +kernel
theorem dX12_winter_27 : decode cX12_winter 27 = .ok (.iconst 0, 1) := by decide +kernel
theorem dX12_winter_28 : decode cX12_winter 28 = .ok (.istore_n 3, 1) := by decide +kernel
theorem dX12_winter_29 : decode cX12_winter 29 = .ok (.iload_n 3, 1) := by decide +kernel
theorem dX12_winter_30 : decode cX12_winter 30 = .ok (.aload_n 0, 1) := by decide +kernel
theorem dX12_winter_31 : decode cX12_winter 31 = .ok (.getfield 290, 3) := by decide +kernel
theorem dX12_winter_34 : decode cX12_winter 34 = .ok (.if_icmp .ge 35, 3) := by decide +kernel
theorem dX12_winter_37 : decode cX12_winter 37 = .ok (.aload_n 0, 1) := by decide +kernel
theorem dX12_winter_38 : decode cX12_winter 38 = .ok (.iload_n 3, 1) := by decide +kernel
theorem dX12_winter_39 : decode cX12_winter 39 = .ok (.invokevirtual 341, 3) := by decide +kernel
theorem dX12_winter_42 : decode cX12_winter 42 = .ok (.ifCond .ne 21, 3) := by decide +kernel
theorem dX12_winter_45 : decode cX12_winter 45 = .ok (.aload_n 0, 1) := by decide +kernel
theorem dX12_winter_46 : decode cX12_winter 46 = .ok (.iload_n 3, 1) := by decide +kernel
theorem dX12_winter_47 : decode cX12_winter 47 = .ok (.aload_n 0, 1) := by decide +kernel
theorem dX12_winter_48 : decode cX12_winter 48 = .ok (.getfield 74, 3) := by decide +kernel
theorem dX12_winter_51 : decode cX12_winter 51 = .ok (.aload_n 0, 1) := by decide +kernel
theorem dX12_winter_52 : decode cX12_winter 52 = .ok (.iload_n 3, 1) := by decide +kernel
theorem dX12_winter_53 : decode cX12_winter 53 = .ok (.iconst 1, 1) := by decide +kernel
theorem dX12_winter_54 : decode cX12_winter 54 = .ok (.invokevirtual 287, 3) := by decide +kernel
theorem dX12_winter_57 : decode cX12_winter 57 = .ok (.iaload, 1) := by decide +kernel
theorem dX12_winter_58 : decode cX12_winter 58 = .ok (.iload_n 1, 1) := by decide +kernel
theorem dX12_winter_59 : decode cX12_winter 59 = .ok (.iload_n 2, 1) := by decide +kernel
theorem dX12_winter_60 : decode cX12_winter 60 = .ok (.invokevirtual 375, 3) := by decide +kernel
theorem dX12_winter_63 : decode cX12_winter 63 = .ok (.iinc 3 1, 3) := by decide +kernel
theorem dX12_winter_66 : decode cX12_winter 66 = .ok (.goto (-37), 3) := by decide +kernel
theorem dX12_winter_69 : decode cX12_winter 69 = .ok (.aload_n 0, 1) := by decide +kernel
theorem dX12_winter_70 : decode cX12_winter 70 = .ok (.invokevirtual 379, 3) := by decide +kernel
theorem dX12_winter_73 : decode cX12_winter 73 = .ok (.pop, 1) := by decide +kernel
theorem dX12_winter_74 : decode cX12_winter 74 = .ok (.return_, 1) := by decide +kernel
theorem dX12_winterOf_0 : decode cX12_winterOf 0 = .ok (.aload_n 0, 1) := by decide +kernel
theorem dX12_winterOf_1 : decode cX12_winterOf 1 = .ok (.bipush 100, 2) := by decide +kernel
theorem dX12_winterOf_3 : decode cX12_winterOf 3 = .ok (.invokevirtual 368, 3) := by decide +kernel
theorem dX12_winterOf_6 : decode cX12_winterOf 6 = .ok (.aload_n 0, 1) := by decide +kernel
theorem dX12_winterOf_7 : decode cX12_winterOf 7 = .ok (.getfield 49, 3) := by decide +kernel
theorem dX12_winterOf_10 : decode cX12_winterOf 10 = .ok (.iload_n 1, 1) := by decide +kernel
theorem dX12_winterOf_11 : decode cX12_winterOf 11 = .ok (.iaload, 1) := by decide +kernel
theorem dX12_winterOf_12 : decode cX12_winterOf 12 = .ok (.if_icmp .ge 7, 3) := by decide +kernel
theorem dX12_winterOf_15 : decode cX12_winterOf 15 = .ok (.iconst 1, 1) := by decide +kernel
theorem dX12_winterOf_16 : decode cX12_winterOf 16 = .ok (.goto 4, 3) := by decide +kernel
theorem dX12_winterOf_19 : decode cX12_winterOf 19 = .ok (.iconst 0, 1) := by decide +kernel
theorem dX12_winterOf_20 : decode cX12_winterOf 20 = .ok (.istore 5, 2) := by decide +kernel
theorem dX12_winterOf_22 : decode cX12_winterOf 22 = .ok (.iload 5, 2) := by decide +kernel
theorem dX12_winterOf_24 : decode cX12_winterOf 24 = .ok (.iload 5, 2) := by decide +kernel
theorem dX12_winterOf_26 : decode cX12_winterOf 26 = .ok (.iconst 1, 1) := by decide +kernel
theorem dX12_winterOf_27 : decode cX12_winterOf 27 = .ok (.if_icmp .ne 22, 3) := by decide +kernel
theorem dX12_winterOf_30 : decode cX12_winterOf 30 = .ok (.aload_n 0, 1) := by decide +kernel
theorem dX12_winterOf_31 : decode cX12_winterOf 31 = .ok (.bipush 100, 2) := by decide +kernel
theorem dX12_winterOf_33 : decode cX12_winterOf 33 = .ok (.invokevirtual 368, 3) := by decide +kernel
theorem dX12_winterOf_36 : decode cX12_winterOf 36 = .ok (.aload_n 0, 1) := by decide +kernel
theorem dX12_winterOf_37 : decode cX12_winterOf 37 = .ok (.getfield 52, 3) := by decide +kernel
theorem dX12_winterOf_40 : decode cX12_winterOf 40 = .ok (.iload_n 1, 1) := by decide +kernel
theorem dX12_winterOf_41 : decode cX12_winterOf 41 = .ok (.iaload, 1) := by decide +kernel
theorem dX12_winterOf_42 : decode cX12_winterOf 42 = .ok (.if_icmp .ge 7, 3) := by decide +kernel
theorem dX12_winterOf_45 : decode cX12_winterOf 45 = .ok (.iconst 1, 1) := by decide +kernel
theorem dX12_winterOf_46 : decode cX12_winterOf 46 = .ok (.goto 4, 3) := by decide +kernel
theorem dX12_winterOf_49 : decode cX12_winterOf 49 = .ok (.iconst 0, 1) := by decide +kernel
theorem dX12_winterOf_50 : decode cX12_winterOf 50 = .ok (.iadd, 1) := by decide +kernel
theorem dX12_winterOf_51 : decode cX12_winterOf 51 = .ok (.istore 5, 2) := by decide +kernel
theorem dX12_winterOf_53 : decode cX12_winterOf 53 = .ok (.iconst 0, 1) := by decide +kernel
theorem dX12_winterOf_54 : decode cX12_winterOf 54 = .ok (.istore 6, 2) := by decide +kernel
theorem dX12_winterOf_56 : decode cX12_winterOf 56 = .ok (.iconst 0, 1) := by decide +kernel
theorem dX12_winterOf_57 : decode cX12_winterOf 57 = .ok (.istore 7, 2) := by decide +kernel
theorem dX12_winterOf_59 : decode cX12_winterOf 59 = .ok (.iload 7, 2) := by decide +kernel
theorem dX12_winterOf_61 : decode cX12_winterOf 61 = .ok (.aload_n 0, 1) := by decide +kernel
theorem dX12_winterOf_62 : decode cX12_winterOf 62 = .ok (.iload_n 1, 1) := by decide +kernel
theorem dX12_winterOf_63 : decode cX12_winterOf 63 = .ok (.iconst 0, 1) := by decide +kernel
theorem dX12_winterOf_64 : decode cX12_winterOf 64 = .ok (.invokevirtual 287, 3) := by decide +kernel
theorem dX12_winterOf_67 : decode cX12_winterOf 67 = .ok (.if_icmp .ge 41, 3) := by decide +kernel
theorem dX12_winterOf_70 : decode cX12_winterOf 70 = .ok (.iload 6, 2) := by decide +kernel
theorem dX12_winterOf_72 : decode cX12_winterOf 72 = .ok (.aload_n 0, 1) := by decide +kernel
theorem dX12_winterOf_73 : decode cX12_winterOf 73 = .ok (.bipush 100, 2) := by decide +kernel
theorem dX12_winterOf_75 : decode cX12_winterOf 75 = .ok (.invokevirtual 368, 3) := by decide +kernel
theorem dX12_winterOf_78 : decode cX12_winterOf 78 = .ok (.aload_n 0, 1) := by decide +kernel
theorem dX12_winterOf_79 : decode cX12_winterOf 79 = .ok (.aload_n 0, 1) := by decide +kernel
theorem dX12_winterOf_80 : decode cX12_winterOf 80 = .ok (.iload_n 1, 1) := by decide +kernel
theorem dX12_winterOf_81 : decode cX12_winterOf 81 = .ok (.iconst 1, 1) := by decide +kernel
theorem dX12_winterOf_82 : decode cX12_winterOf 82 = .ok (.invokevirtual 287, 3) := by decide +kernel
theorem dX12_winterOf_85 : decode cX12_winterOf 85 = .ok (.iconst 2, 1) := by decide +kernel
theorem dX12_winterOf_86 : decode cX12_winterOf 86 = .ok (.invokevirtual 293, 3) := by decide +kernel
theorem dX12_winterOf_89 : decode cX12_winterOf 89 = .ok (.iload_n 2, 1) := by decide +kernel
theorem dX12_winterOf_90 : decode cX12_winterOf 90 = .ok (.iadd, 1) := by decide +kernel
theorem dX12_winterOf_91 : decode cX12_winterOf 91 = .ok (.if_icmp .ge 7, 3) := by decide +kernel
theorem dX12_winterOf_94 : decode cX12_winterOf 94 = .ok (.iconst 1, 1) := by decide +kernel
theorem dX12_winterOf_95 : decode cX12_winterOf 95 = .ok (.goto 4, 3) := by decide +kernel
theorem dX12_winterOf_98 : decode cX12_winterOf 98 = .ok (.iconst 0, 1) := by decide +kernel
theorem dX12_winterOf_99 : decode cX12_winterOf 99 = .ok (.iadd, 1) := by decide +kernel
theorem dX12_winterOf_100 : decode cX12_winterOf 100 = .ok (.istore 6, 2) := by decide +kernel
theorem dX12_winterOf_102 : decode cX12_winterOf 102 = .ok (.iinc 7 1, 3) := by decide +kernel
theorem dX12_winterOf_105 : decode cX12_winterOf 105 = .ok (.goto (-46), 3) := by decide +kernel
theorem dX12_winterOf_108 : decode cX12_winterOf 108 = .ok (.iload 5, 2) := by decide +kernel
theorem dX12_winterOf_110 : decode cX12_winterOf 110 = .ok (.istore 7, 2) := by decide +kernel
theorem dX12_winterOf_112 : decode cX12_winterOf 112 = .ok (.aload_n 0, 1) := by decide +kernel
theorem dX12_winterOf_113 : decode cX12_winterOf 113 = .ok (.iload_n 1, 1) := by decide +kernel
theorem dX12_winterOf_114 : decode cX12_winterOf 114 = .ok (.bipush 7, 2) := by decide +kernel
theorem dX12_winterOf_116 : decode cX12_winterOf 116 = .ok (.invokevirtual 287, 3) := by decide +kernel
theorem dX12_winterOf_119 : decode cX12_winterOf 119 = .ok (.iconst 1, 1) := by decide +kernel
theorem dX12_winterOf_120 : decode cX12_winterOf 120 = .ok (.if_icmp .ne 31, 3) := by decide +kernel
theorem dX12_winterOf_123 : decode cX12_winterOf 123 = .ok (.iload 5, 2) := by decide +kernel
theorem dX12_winterOf_125 : decode cX12_winterOf 125 = .ok (.ifCond .le 26, 3) := by decide +kernel
theorem dX12_winterOf_128 : decode cX12_winterOf 128 = .ok (.aload_n 0, 1) := by decide +kernel
theorem dX12_winterOf_129 : decode cX12_winterOf 129 = .ok (.bipush 100, 2) := by decide +kernel
theorem dX12_winterOf_131 : decode cX12_winterOf 131 = .ok (.invokevirtual 368, 3) := by decide +kernel
theorem dX12_winterOf_134 : decode cX12_winterOf 134 = .ok (.aload_n 0, 1) := by decide +kernel
theorem dX12_winterOf_135 : decode cX12_winterOf 135 = .ok (.getfield 68, 3) := by decide +kernel
theorem dX12_winterOf_138 : decode cX12_winterOf 138 = .ok (.if_icmp .ge 10, 3) := by decide +kernel
theorem dX12_winterOf_141 : decode cX12_winterOf 141 = .ok (.iconst 2, 1) := by decide +kernel
theorem dX12_winterOf_142 : decode cX12_winterOf 142 = .ok (.iload 5, 2) := by decide +kernel
theorem dX12_winterOf_144 : decode cX12_winterOf 144 = .ok (.imul, 1) := by decide +kernel
theorem dX12_winterOf_145 : decode cX12_winterOf 145 = .ok (.goto 4, 3) := by decide +kernel
theorem dX12_winterOf_148 : decode cX12_winterOf 148 = .ok (.iconst 0, 1) := by decide +kernel
theorem dX12_winterOf_149 : decode cX12_winterOf 149 = .ok (.istore 7, 2) := by decide +kernel
theorem dX12_winterOf_151 : decode cX12_winterOf 151 = .ok (.bipush 20, 2) := by decide +kernel
theorem dX12_winterOf_153 : decode cX12_winterOf 153 = .ok (.aload_n 0, 1) := by decide +kernel
theorem dX12_winterOf_154 : decode cX12_winterOf 154 = .ok (.iload_n 1, 1) := by decide +kernel
theorem dX12_winterOf_155 : decode cX12_winterOf 155 = .ok (.iconst 0, 1) := by decide +kernel
theorem dX12_winterOf_156 : decode cX12_winterOf 156 = .ok (.invokevirtual 287, 3) := by decide +kernel
theorem dX12_winterOf_159 : decode cX12_winterOf 159 = .ok (.iload 6, 2) := by decide +kernel
theorem dX12_winterOf_161 : decode cX12_winterOf 161 = .ok (.isub, 1) := by decide +kernel
theorem dX12_winterOf_162 : decode cX12_winterOf 162 = .ok (.iload 5, 2) := by decide +kernel
theorem dX12_winterOf_164 : decode cX12_winterOf 164 = .ok (.iadd, 1) := by decide +kernel
theorem dX12_winterOf_165 : decode cX12_winterOf 165 = .ok (.invokestatic 339, 3) := by decide +kernel
theorem dX12_winterOf_168 : decode cX12_winterOf 168 = .ok (.istore 8, 2) := by decide +kernel
theorem dX12_winterOf_170 : decode cX12_winterOf 170 = .ok (.aload_n 0, 1) := by decide +kernel
theorem dX12_winterOf_171 : decode cX12_winterOf 171 = .ok (.iload_n 1, 1) := by decide +kernel
theorem dX12_winterOf_172 : decode cX12_winterOf 172 = .ok (.iconst 0, 1) := by decide +kernel
theorem dX12_winterOf_173 : decode cX12_winterOf 173 = .ok (.iload 8, 2) := by decide +kernel
theorem dX12_winterOf_175 : decode cX12_winterOf 175 = .ok (.invokevirtual 305, 3) := by decide +kernel
theorem dX12_winterOf_178 : decode cX12_winterOf 178 = .ok (.aload_n 0, 1) := by decide +kernel
theorem dX12_winterOf_179 : decode cX12_winterOf 179 = .ok (.iload_n 1, 1) := by decide +kernel
theorem dX12_winterOf_180 : decode cX12_winterOf 180 = .ok (.iconst 4, 1) := by decide +kernel
theorem dX12_winterOf_181 : decode cX12_winterOf 181 = .ok (.aload_n 0, 1) := by decide +kernel
theorem dX12_winterOf_182 : decode cX12_winterOf 182 = .ok (.iload_n 1, 1) := by decide +kernel
theorem dX12_winterOf_183 : decode cX12_winterOf 183 = .ok (.iconst 4, 1) := by decide +kernel
theorem dX12_winterOf_184 : decode cX12_winterOf 184 = .ok (.invokevirtual 287, 3) := by decide +kernel
theorem dX12_winterOf_187 : decode cX12_winterOf 187 = .ok (.iload 5, 2) := by decide +kernel
theorem dX12_winterOf_189 : decode cX12_winterOf 189 = .ok (.iadd, 1) := by decide +kernel
theorem dX12_winterOf_190 : decode cX12_winterOf 190 = .ok (.invokevirtual 305, 3) := by decide +kernel
theorem dX12_winterOf_193 : decode cX12_winterOf 193 = .ok (.aload_n 0, 1) := by decide +kernel
theorem dX12_winterOf_194 : decode cX12_winterOf 194 = .ok (.iload_n 1, 1) := by decide +kernel
theorem dX12_winterOf_195 : decode cX12_winterOf 195 = .ok (.iconst 5, 1) := by decide +kernel
theorem dX12_winterOf_196 : decode cX12_winterOf 196 = .ok (.aload_n 0, 1) := by decide +kernel
theorem dX12_winterOf_197 : decode cX12_winterOf 197 = .ok (.iload_n 1, 1) := by decide +kernel
theorem dX12_winterOf_198 : decode cX12_winterOf 198 = .ok (.iconst 5, 1) := by decide +kernel
theorem dX12_winterOf_199 : decode cX12_winterOf 199 = .ok (.invokevirtual 287, 3) := by decide +kernel
theorem dX12_winterOf_202 : decode cX12_winterOf 202 = .ok (.iload 6, 2) := by decide +kernel
theorem dX12_winterOf_204 : decode cX12_winterOf 204 = .ok (.iadd, 1) := by decide +kernel
theorem dX12_winterOf_205 : decode cX12_winterOf 205 = .ok (.invokevirtual 305, 3) := by decide +kernel
theorem dX12_winterOf_208 : decode cX12_winterOf 208 = .ok (.iload 8, 2) := by decide +kernel
theorem dX12_winterOf_210 : decode cX12_winterOf 210 = .ok (.ifCond .ne 36, 3) := by decide +kernel
theorem dX12_winterOf_213 : decode cX12_winterOf 213 = .ok (.aload_n 0, 1) := by decide +kernel
theorem dX12_winterOf_214 : decode cX12_winterOf 214 = .ok (.iload_n 1, 1) := by decide +kernel
theorem dX12_winterOf_215 : decode cX12_winterOf 215 = .ok (.iconst 1, 1) := by decide +kernel
theorem dX12_winterOf_216 : decode cX12_winterOf 216 = .ok (.iconst (-1), 1) := by decide +kernel
theorem dX12_winterOf_217 : decode cX12_winterOf 217 = .ok (.invokevirtual 305, 3) := by decide +kernel
theorem dX12_winterOf_220 : decode cX12_winterOf 220 = .ok (.aload_n 0, 1) := by decide +kernel
theorem dX12_winterOf_221 : decode cX12_winterOf 221 = .ok (.iload_n 1, 1) := by decide +kernel
theorem dX12_winterOf_222 : decode cX12_winterOf 222 = .ok (.iconst 3, 1) := by decide +kernel
theorem dX12_winterOf_223 : decode cX12_winterOf 223 = .ok (.iconst 0, 1) := by decide +kernel
theorem dX12_winterOf_224 : decode cX12_winterOf 224 = .ok (.invokevirtual 305, 3) := by decide +kernel
theorem dX12_winterOf_227 : decode cX12_winterOf 227 = .ok (.aload_n 0, 1) := by decide +kernel
theorem dX12_winterOf_228 : decode cX12_winterOf 228 = .ok (.iload_n 1, 1) := by decide +kernel
theorem dX12_winterOf_229 : decode cX12_winterOf 229 = .ok (.bipush 6, 2) := by decide +kernel
theorem dX12_winterOf_231 : decode cX12_winterOf 231 = .ok (.iconst 0, 1) := by decide +kernel
theorem dX12_winterOf_232 : decode cX12_winterOf 232 = .ok (.invokevirtual 305, 3) := by decide +kernel
theorem dX12_winterOf_235 : decode cX12_winterOf 235 = .ok (.aload_n 0, 1) := by decide +kernel
theorem dX12_winterOf_236 : decode cX12_winterOf 236 = .ok (.iload_n 1, 1) := by decide +kernel
theorem dX12_winterOf_237 : decode cX12_winterOf 237 = .ok (.bipush 7, 2) := by decide +kernel
theorem dX12_winterOf_239 : decode cX12_winterOf 239 = .ok (.iconst 0, 1) := by decide +kernel
theorem dX12_winterOf_240 : decode cX12_winterOf 240 = .ok (.invokevirtual 305, 3) := by decide +kernel
theorem dX12_winterOf_243 : decode cX12_winterOf 243 = .ok (.goto 41, 3) := by decide +kernel
theorem dX12_winterOf_246 : decode cX12_winterOf 246 = .ok (.aload_n 0, 1) := by decide +kernel
theorem dX12_winterOf_247 : decode cX12_winterOf 247 = .ok (.iload_n 1, 1) := by decide +kernel
theorem dX12_winterOf_248 : decode cX12_winterOf 248 = .ok (.iconst 3, 1) := by decide +kernel
theorem dX12_winterOf_249 : decode cX12_winterOf 249 = .ok (.aload_n 0, 1) := by decide +kernel
theorem dX12_winterOf_250 : decode cX12_winterOf 250 = .ok (.iload_n 1, 1) := by decide +kernel
theorem dX12_winterOf_251 : decode cX12_winterOf 251 = .ok (.iconst 3, 1) := by decide +kernel
theorem dX12_winterOf_252 : decode cX12_winterOf 252 = .ok (.invokevirtual 287, 3) := by decide +kernel
theorem dX12_winterOf_255 : decode cX12_winterOf 255 = .ok (.aload_n 0, 1) := by decide +kernel
theorem dX12_winterOf_256 : decode cX12_winterOf 256 = .ok (.iload_n 3, 1) := by decide +kernel
theorem dX12_winterOf_257 : decode cX12_winterOf 257 = .ok (.iload 7, 2) := by decide +kernel
theorem dX12_winterOf_259 : decode cX12_winterOf 259 = .ok (.iload 6, 2) := by decide +kernel
theorem dX12_winterOf_261 : decode cX12_winterOf 261 = .ok (.iload 8, 2) := by decide +kernel
theorem dX12_winterOf_263 : decode cX12_winterOf 263 = .ok (.aload_n 0, 1) := by decide +kernel
theorem dX12_winterOf_264 : decode cX12_winterOf 264 = .ok (.iload_n 1, 1) := by decide +kernel
theorem dX12_winterOf_265 : decode cX12_winterOf 265 = .ok (.iconst 1, 1) := by decide +kernel
theorem dX12_winterOf_266 : decode cX12_winterOf 266 = .ok (.invokevirtual 287, 3) := by decide +kernel
theorem dX12_winterOf_269 : decode cX12_winterOf 269 = .ok (.aload_n 0, 1) := by decide +kernel
theorem dX12_winterOf_270 : decode cX12_winterOf 270 = .ok (.iload_n 1, 1) := by decide +kernel
theorem dX12_winterOf_271 : decode cX12_winterOf 271 = .ok (.iconst 3, 1) := by decide +kernel
theorem dX12_winterOf_272 : decode cX12_winterOf 272 = .ok (.invokevirtual 287, 3) := by decide +kernel
theorem dX12_winterOf_275 : decode cX12_winterOf 275 = .ok (.iload 4, 2) := by decide +kernel
theorem dX12_winterOf_277 : decode cX12_winterOf 277 = .ok (.invokevirtual 371, 3) := by decide +kernel
theorem dX12_winterOf_280 : decode cX12_winterOf 280 = .ok (.iadd, 1) := by decide +kernel
theorem dX12_winterOf_281 : decode cX12_winterOf 281 = .ok (.invokevirtual 305, 3) := by decide +kernel
theorem dX12_winterOf_284 : decode cX12_winterOf 284 = .ok (.return_, 1) := by decide +kernel
theorem dX12_winters_0 : decode cX12_winters 0 = .ok (.aload_n 0, 1) := by decide +kernel
theorem dX12_winters_1 : decode cX12_winters 1 = .ok (.getfield 290, 3) := by decide +kernel
theorem dX12_winters_4 : decode cX12_winters 4 = .ok (.ifCond .eq 24, 3) := by decide +kernel
theorem dX12_winters_7 : decode cX12_winters 7 = .ok (.iload_n 1, 1) := by decide +kernel
theorem dX12_winters_8 : decode cX12_winters 8 = .ok (.iconst 1, 1) := by decide +kernel
theorem dX12_winters_9 : decode cX12_winters 9 = .ok (.bipush 9, 2) := by decide +kernel
theorem dX12_winters_11 : decode cX12_winters 11 = .ok (.invokestatic 232, 3) := by decide +kernel
theorem dX12_winters_14 : decode cX12_winters 14 = .ok (.ifCond .eq 14, 3) := by decide +kernel
theorem dX12_winters_17 : decode cX12_winters 17 = .ok (.aload_n 0, 1) := by decide +kernel
theorem dX12_winters_18 : decode cX12_winters 18 = .ok (.getfield 309, 3) := by decide +kernel
theorem dX12_winters_21 : decode cX12_winters 21 = .ok (.iload_n 1, 1) := by decide +kernel
theorem dX12_winters_22 : decode cX12_winters 22 = .ok (.iadd, 1) := by decide +kernel
theorem dX12_winters_23 : decode cX12_winters 23 = .ok (.bipush 60, 2) := by decide +kernel
theorem dX12_winters_25 : decode cX12_winters 25 = .ok (.if_icmp .le 5, 3) := by decide +kernel
theorem dX12_winters_28 : decode cX12_winters 28 = .ok (.iconst (-1), 1) := by decide +kernel
theorem dX12_winters_29 : decode cX12_winters 29 = .ok (.ireturn, 1) := by decide +kernel
theorem dX12_winters_30 : decode cX12_winters 30 = .ok (.iconst 0, 1) := by decide +kernel
theorem dX12_winters_31 : decode cX12_winters 31 = .ok (.istore_n 2, 1) := by decide +kernel
theorem dX12_winters_32 : decode cX12_winters 32 = .ok (.iload_n 2, 1) := by decide +kernel
theorem dX12_winters_33 : decode cX12_winters 33 = .ok (.iload_n 1, 1) := by decide +kernel
theorem dX12_winters_34 : decode cX12_winters 34 = .ok (.if_icmp .ge 89, 3) := by decide +kernel
theorem dX12_winters_37 : decode cX12_winters 37 = .ok (.aload_n 0, 1) := by decide +kernel
theorem dX12_winters_38 : decode cX12_winters 38 = .ok (.aload_n 0, 1) := by decide +kernel
theorem dX12_winters_39 : decode cX12_winters 39 = .ok (.getfield 64, 3) := by decide +kernel
theorem dX12_winters_42 : decode cX12_winters 42 = .ok (.aload_n 0, 1) := by decide +kernel
theorem dX12_winters_43 : decode cX12_winters 43 = .ok (.getfield 309, 3) := by decide +kernel
theorem dX12_winters_46 : decode cX12_winters 46 = .ok (.iconst 1, 1) := by decide +kernel
theorem dX12_winters_47 : decode cX12_winters 47 = .ok (.iadd, 1) := by decide +kernel
theorem dX12_winters_48 : decode cX12_winters 48 = .ok (.invokevirtual 405, 3) := by decide +kernel
theorem dX12_winters_51 : decode cX12_winters 51 = .ok (.iconst 0, 1) := by decide +kernel
theorem dX12_winters_52 : decode cX12_winters 52 = .ok (.istore_n 3, 1) := by decide +kernel
theorem dX12_winters_53 : decode cX12_winters 53 = .ok (.iload_n 3, 1) := by decide +kernel
theorem dX12_winters_54 : decode cX12_winters 54 = .ok (.aload_n 0, 1) := by decide +kernel
theorem dX12_winters_55 : decode cX12_winters 55 = .ok (.getfield 290, 3) := by decide +kernel
theorem dX12_winters_58 : decode cX12_winters 58 = .ok (.if_icmp .ge 49, 3) := by decide +kernel
theorem dX12_winters_61 : decode cX12_winters 61 = .ok (.aload_n 0, 1) := by decide +kernel
theorem dX12_winters_62 : decode cX12_winters 62 = .ok (.getfield 83, 3) := by decide +kernel
theorem dX12_winters_65 : decode cX12_winters 65 = .ok (.bipush 10, 2) := by decide +kernel
theorem dX12_winters_67 : decode cX12_winters 67 = .ok (.aload_n 0, 1) := by decide +kernel
theorem dX12_winters_68 : decode cX12_winters 68 = .ok (.getfield 309, 3) := by decide +kernel
theorem dX12_winters_71 : decode cX12_winters 71 = .ok (.imul, 1) := by decide +kernel
theorem dX12_winters_72 : decode cX12_winters 72 = .ok (.iload_n 3, 1) := by decide +kernel
theorem dX12_winters_73 : decode cX12_winters 73 = .ok (.iadd, 1) := by decide +kernel
theorem dX12_winters_74 : decode cX12_winters 74 = .ok (.aload_n 0, 1) := by decide +kernel
theorem dX12_winters_75 : decode cX12_winters 75 = .ok (.iload_n 3, 1) := by decide +kernel
theorem dX12_winters_76 : decode cX12_winters 76 = .ok (.iconst 1, 1) := by decide +kernel
theorem dX12_winters_77 : decode cX12_winters 77 = .ok (.invokevirtual 287, 3) := by decide +kernel
theorem dX12_winters_80 : decode cX12_winters 80 = .ok (.iastore, 1) := by decide +kernel
theorem dX12_winters_81 : decode cX12_winters 81 = .ok (.aload_n 0, 1) := by decide +kernel
theorem dX12_winters_82 : decode cX12_winters 82 = .ok (.getfield 86, 3) := by decide +kernel
theorem dX12_winters_85 : decode cX12_winters 85 = .ok (.bipush 10, 2) := by decide +kernel
theorem dX12_winters_87 : decode cX12_winters 87 = .ok (.aload_n 0, 1) := by decide +kernel
theorem dX12_winters_88 : decode cX12_winters 88 = .ok (.getfield 309, 3) := by decide +kernel
theorem dX12_winters_91 : decode cX12_winters 91 = .ok (.imul, 1) := by decide +kernel
theorem dX12_winters_92 : decode cX12_winters 92 = .ok (.iload_n 3, 1) := by decide +kernel
theorem dX12_winters_93 : decode cX12_winters 93 = .ok (.iadd, 1) := by decide +kernel
theorem dX12_winters_94 : decode cX12_winters 94 = .ok (.aload_n 0, 1) := by decide +kernel
theorem dX12_winters_95 : decode cX12_winters 95 = .ok (.iload_n 3, 1) := by decide +kernel
theorem dX12_winters_96 : decode cX12_winters 96 = .ok (.iconst 0, 1) := by decide +kernel
theorem dX12_winters_97 : decode cX12_winters 97 = .ok (.invokevirtual 287, 3) := by decide +kernel
theorem dX12_winters_100 : decode cX12_winters 100 = .ok (.iastore, 1) := by decide +kernel
theorem dX12_winters_101 : decode cX12_winters 101 = .ok (.iinc 3 1, 3) := by decide +kernel
theorem dX12_winters_104 : decode cX12_winters 104 = .ok (.goto (-51), 3) := by decide +kernel
theorem dX12_winters_107 : decode cX12_winters 107 = .ok (.aload_n 0, 1) := by decide +kernel
theorem dX12_winters_108 : decode cX12_winters 108 = .ok (.dup, 1) := by decide +kernel
theorem dX12_winters_109 : decode cX12_winters 109 = .ok (.getfield 309, 3) := by decide +kernel
theorem dX12_winters_112 : decode cX12_winters 112 = .ok (.iconst 1, 1) := by decide +kernel
theorem dX12_winters_113 : decode cX12_winters 113 = .ok (.iadd, 1) := by decide +kernel
theorem dX12_winters_114 : decode cX12_winters 114 = .ok (.putfield 309, 3) := by decide +kernel
theorem dX12_winters_117 : decode cX12_winters 117 = .ok (.iinc 2 1, 3) := by decide +kernel
theorem dX12_winters_120 : decode cX12_winters 120 = .ok (.goto (-88), 3) := by decide +kernel
theorem dX12_winters_123 : decode cX12_winters 123 = .ok (.aload_n 0, 1) := by decide +kernel
theorem dX12_winters_124 : decode cX12_winters 124 = .ok (.iconst 0, 1) := by decide +kernel
theorem dX12_winters_125 : decode cX12_winters 125 = .ok (.putfield 312, 3) := by decide +kernel
theorem dX12_winters_128 : decode cX12_winters 128 = .ok (.aload_n 0, 1) := by decide +kernel
theorem dX12_winters_129 : decode cX12_winters 129 = .ok (.invokevirtual 408, 3) := by decide +kernel
theorem dX12_winters_132 : decode cX12_winters 132 = .ok (.ireturn, 1) := by decide +kernel
def w_X12_winterOf : List Cond := .code yX12_winterOf cX12_winterOf 9 none :: ([Cond.methodLink RX12 368 yX12_draw, Cond.instanceMethod yX12_draw, Cond.selects RX12 yX12_draw yX12_draw, Cond.initialized RX12, Cond.fieldLink RX12 49 "HeadYearModel" "birth" "[I", Cond.methodLink RX12 287 yX12_of, Cond.instanceMethod yX12_of, Cond.selects RX12 yX12_of yX12_of, Cond.methodLink RX12 339 Lib.Math.min.name, Cond.static Lib.Math.min.name, Cond.initialized "java/lang/Math", Cond.code Lib.Math.min.name Lib.Math.min.code 2 (some .int), Cond.methodLink RX12 305 yX12_tell, Cond.instanceMethod yX12_tell, Cond.selects RX12 yX12_tell yX12_tell, Cond.methodLink RX12 371 yX12_worthBy, Cond.instanceMethod yX12_worthBy, Cond.selects RX12 yX12_worthBy yX12_worthBy, Cond.fieldLink RX12 68 "HeadYearModel" "find" "I", Cond.methodLink RX12 293 yX12_levelOf, Cond.instanceMethod yX12_levelOf, Cond.selects RX12 yX12_levelOf yX12_levelOf, Cond.fieldLink RX12 52 "HeadYearModel" "twin" "[I"] ++ (u_ws RX12 TX12 54 ++ (w_X12_draw ++ (w_X12_of ++ (w_X12_tell ++ (w_X12_worthBy ++ (w_X12_levelOf ++ ([]))))))))
theorem in_X12_winterOf_X12 : ∀ w ∈ u_ws RX12 TX12 54, w ∈ w_X12_winterOf := fun _ h => List.mem_cons_of_mem _ (List.mem_append_right _ (List.mem_append_left _ h))
theorem gg_X12_winterOf_X12_draw : GoodIn w_X12_winterOf w_X12_draw := goodIn_sub (fun _ h => List.mem_cons_of_mem _ (List.mem_append_right _ (List.mem_append_right _ (List.mem_append_left _ h)))) (by decide +kernel)
theorem gg_X12_winterOf_X12_of : GoodIn w_X12_winterOf w_X12_of := goodIn_sub (fun _ h => List.mem_cons_of_mem _ (List.mem_append_right _ (List.mem_append_right _ (List.mem_append_right _ (List.mem_append_left _ h))))) (by decide +kernel)
theorem gg_X12_winterOf_X12_tell : GoodIn w_X12_winterOf w_X12_tell := goodIn_sub (fun _ h => List.mem_cons_of_mem _ (List.mem_append_right _ (List.mem_append_right _ (List.mem_append_right _ (List.mem_append_right _ (List.mem_append_left _ h)))))) (by decide +kernel)
theorem gg_X12_winterOf_X12_worthBy : GoodIn w_X12_winterOf w_X12_worthBy := goodIn_sub (fun _ h => List.mem_cons_of_mem _ (List.mem_append_right _ (List.mem_append_right _ (List.mem_append_right _ (List.mem_append_right _ (List.mem_append_right _ (List.mem_append_left _ h))))))) (by decide +kernel)
theorem gg_X12_winterOf_X12_levelOf : GoodIn w_X12_winterOf w_X12_levelOf := goodIn_sub (fun _ h => List.mem_cons_of_mem _ (List.mem_append_right _ (List.mem_append_right _ (List.mem_append_right _ (List.mem_append_right _ (List.mem_append_right _ (List.mem_append_right _ (List.mem_append_left _ h)))))))) (by decide +kernel)
theorem g_X12_winterOf_X12_draw_368 : GoodIn w_X12_winterOf (wsV RX12 368 RX12 yX12_draw w_X12_draw) := goodIn_app (goodIn_of _ (by decide +kernel)) gg_X12_winterOf_X12_draw
theorem g_X12_winterOf_X12_levelOf_293 : GoodIn w_X12_winterOf (wsV RX12 293 RX12 yX12_levelOf w_X12_levelOf) := goodIn_app (goodIn_of _ (by decide +kernel)) gg_X12_winterOf_X12_levelOf
theorem g_X12_winterOf_X12_of_287 : GoodIn w_X12_winterOf (wsV RX12 287 RX12 yX12_of w_X12_of) := goodIn_app (goodIn_of _ (by decide +kernel)) gg_X12_winterOf_X12_of
theorem g_X12_winterOf_X12_tell_305 : GoodIn w_X12_winterOf (wsV RX12 305 RX12 yX12_tell w_X12_tell) := goodIn_app (goodIn_of _ (by decide +kernel)) gg_X12_winterOf_X12_tell
theorem g_X12_winterOf_X12_worthBy_371 : GoodIn w_X12_winterOf (wsV RX12 371 RX12 yX12_worthBy w_X12_worthBy) := goodIn_app (goodIn_of _ (by decide +kernel)) gg_X12_winterOf_X12_worthBy
set_option maxHeartbeats 4000000 in
set_option maxRecDepth 100000 in
theorem c_X12_winterOf (l : Launch) (E : py_E) (G : wf_G) (L : List Nat) (f : py_F) (sz : Nat) (u : Nat) (a : Int32) (b : Int32) (q : Int32) (d : Int32) (hG : GT G) (hWF : WF E G L f) (Tu : G.1 u = 13) (Ba : (0 ≤ a.toInt ∧ a.toInt ≤ 9)) (Bq : ((-1) ≤ q.toInt ∧ q.toInt ≤ 3)) (hp0 : 0 ≤ nw f G u a.toInt 1) (hq0 : q.toInt ≠ -1 → LV f G u q.toInt) : Met l yX12_winterOf w_X12_winterOf ({ frames := 6, cells := 0, slots := 0, locals := 147 }) (py_Pc E [.ref u, .int a, .int b, .int q, .int d] L f sz) (py_Qv E L f sz (fun L1 f1 => WF E G L1 f1 ∧ KP G [55, 48, 49, 13] false f f1 ∧ FK [30] f f1 u)) 0 0 (va_A (va_pl L f) sz) := by
  refine Met.ofW (cc := cX12_winterOf) (maxL := 9) (ret := none) (by decide) rfl ?_
  intro p e s m args below meth c s₁ B hml hv
  obtain ⟨rfl, rfl, hw⟩ := py_start hv
  have G0 : CallFix p m c cX12_winterOf 9 s _ w_X12_winterOf RX12 := ⟨B.exec, B.bytes, hml, findClass_of_methodNamed B.named, atoms_spec (ws := w_X12_winterOf) B.pre⟩
  have hr := B.returns
  have hlk := B.notSynchronized
  have kcm1 : (-1 : Int32).toInt = -1 := rfl
  have kc0 : (0 : Int32).toInt = 0 := rfl
  have kc1 : (1 : Int32).toInt = 1 := rfl
  have kc2 : (2 : Int32).toInt = 2 := rfl
  have kc3 : (3 : Int32).toInt = 3 := rfl
  have kc4 : (4 : Int32).toInt = 4 := rfl
  have kc5 : (5 : Int32).toInt = 5 := rfl
  have kc6 : (6 : Int32).toInt = 6 := rfl
  have kc7 : (7 : Int32).toInt = 7 := rfl
  have kc20 : (20 : Int32).toInt = 20 := rfl
  have kc100 : (100 : Int32).toInt = 100 := rfl
  have hl := lv_entry ([.ref u, .int a, .int b, .int q, .int d]) (n := 9) (Nat.le_of_ble_eq_true rfl)
  rw [lg_entry_eq]
  generalize (lg_sl ([.ref u, .int a, .int b, .int q, .int d]) ++ List.replicate (9 - (lg_sl ([.ref u, .int a, .int b, .int q, .int d])).length) Slot.unset).toArray = ls at hl ⊢
  have hl : lv_has ls 9 [(0, .ref u), (1, .int a), (2, .int b), (3, .int q), (4, .int d)] := hl
  have hFK : FK [30] f f u := FK.refl
  have hKP : KP G [55, 48, 49, 13] false f f := KP.refl
  have hLW := hq0
  refine lv_aload_n G0.1 G0.2.1 dX12_winterOf_0 rfl (lv_at hl 0 rfl) ?_
  refine lv_bipush (v := 100) G0.1 G0.2.1 dX12_winterOf_1 (by decide) ?_
  obtain ⟨v_1, v_2, v_3, v_4, v_5, v_6, v_7, v_8, v_9, v_10, v_11, v_12, y_13, v_14, v_15, v_16, v_17, v_18, y_19, v_20, y_21, v_22, hr_35, b_23, b_24, b_25, b_26, b_27, b_28, b_29, b_30, b_31, b_32, b_33, b_34⟩ := wg_12 hWF Tu
  refine py_calli hw (va_runV (As := [.int 100]) (rest := []) G0 (c_X12_draw l E G L f s.heap.size u 100 hG hWF Tu (show (100 : Int32).toInt ≠ 0 by omega)) (cwV 1 G0.2.2.2.2 g_X12_winterOf_X12_draw_368 rfl rfl rfl (by decide +kernel) ⟨(Nat.le_of_ble_eq_true rfl), (Nat.le_of_ble_eq_true rfl)⟩) (py_preV hw (C := RX12) (T := TX12) (N := 54) rfl hr_35) rfl rfl hl.1 rfl (lv_room (Nat.le_of_ble_eq_true rfl)) dX12_winterOf_3 ⟨(Nat.le_of_ble_eq_true rfl), (Nat.le_of_ble_eq_true rfl)⟩) (fun r_40 L_36 f_37 H_38 locs hp_39 hw => ?_)
  obtain ⟨hWF, kp_41, fk_42⟩ := hp_39
  have hLW := fun hy => (hLW hy).kp hG Tu kp_41 (LK.of (by decide))
  have hFK := hFK.trans fk_42 (by decide)
  have hKP := hKP.trans kp_41 (by decide) (by decide)
  obtain ⟨v_43, hr_44⟩ := fk_30 hWF Tu fk_42 hr_35
  have nk_45 : nw f_37 G u a.toInt 0 = nw f G u a.toInt 0 := arz_kp (kp_f kp_41 (wt12_26 hG Tu) (by decide) (by decide) (fun _ => by decide)) _
  have nk_46 : nw f_37 G u a.toInt 1 = nw f G u a.toInt 1 := arz_kp (kp_f kp_41 (wt12_26 hG Tu) (by decide) (by decide) (fun _ => by decide)) _
  have br_40 := wf_free r_40
  refine lv_aload_n G0.1 G0.2.1 dX12_winterOf_6 rfl (lv_at hl 0 rfl) ?_
  refine py_get (C := RX12) (T := TX12) (N := 54) (k := 22) (v := .ref (G.2 u 22)) G0 hw in_X12_winterOf_X12 rfl hr_44 (by decide) (by decide +kernel) rfl dX12_winterOf_7 ?_
  refine lv_iload_n G0.1 G0.2.1 dX12_winterOf_10 rfl (lv_at hl 1 rfl) ?_
  obtain ⟨g_47, ha_48, hi_49⟩ := wf_arr (n := 10) (lo := (-2147483648)) (hi := 2147483647) hWF (wt12_22 hG Tu) (by decide) (fun _ => rfl)
  have rg_50 : vp_in a 10 := ti_in (by omega) (by omega)
  refine py_iald G0 hw ha_48 rg_50 dX12_winterOf_11 ?_
  refine lv_topi (fun x_51 ex_51 => ?_)
  have bx_51 := wf_free x_51
  have jn_20 : ∀ (v_52 : Int32) (H_j20 : Heap) (locs : List Loc) (ls : Array Slot), (0 ≤ v_52.toInt ∧ v_52.toInt ≤ 1) → py_W E (va_A (va_pl L f) s.heap.size) s L_36 f_37 H_j20 locs → lv_has ls 9 [(0, .ref u), (1, .int a), (2, .int b), (3, .int q), (4, .int d)] → W p l e (headSpec w_X12_winterOf ({ frames := 6, cells := 0, slots := 0, locals := 147 })).room s m ([.ref u, .int a, .int b, .int q, .int d] : List Value).toArray below meth c H_j20 locs 0 0 (MQ below (py_Qv E L f s.heap.size (fun L1 f1 => WF E G L1 f1 ∧ KP G [55, 48, 49, 13] false f f1 ∧ FK [30] f f1 u)) ([.ref u, .int a, .int b, .int q, .int d] : List Value).toArray s 0 0 (va_A (va_pl L f) s.heap.size)) (F0 m 20 ls [.int v_52]) := by
    intro v_52 H_j20 locs ls bv_52 hw hl
    refine lv_istore (lv' := [(5, .int v_52), (0, .ref u), (1, .int a), (2, .int b), (3, .int q), (4, .int d)]) G0.1 G0.2.1 dX12_winterOf_20 hl (by decide) rfl (fun ls hl => ?_)
    refine lv_iload G0.1 G0.2.1 dX12_winterOf_22 (lv_at hl 0 rfl) ?_
    refine lv_iload G0.1 G0.2.1 dX12_winterOf_24 (lv_at hl 0 rfl) ?_
    refine lv_iconst (v := 1) G0.1 G0.2.1 dX12_winterOf_26 (by decide) ?_
    have jn_50 : ∀ (v_53 : Int32) (L_j50 : List Nat) (f_j50 : py_F) (H_j50 : Heap) (locs : List Loc) (ls : Array Slot), (0 ≤ v_53.toInt ∧ v_53.toInt ≤ 1) → WF E G L_j50 f_j50 → KP G [55, 48, 49, 13] false f f_j50 → (q.toInt ≠ -1 → LV f_j50 G u q.toInt) → FK [30] f f_j50 u → (nw f_j50 G u a.toInt 0 = nw f G u a.toInt 0 ∧ nw f_j50 G u a.toInt 1 = nw f G u a.toInt 1) → py_W E (va_A (va_pl L f) s.heap.size) s L_j50 f_j50 H_j50 locs → lv_has ls 9 [(5, .int v_52), (0, .ref u), (1, .int a), (2, .int b), (3, .int q), (4, .int d)] → W p l e (headSpec w_X12_winterOf ({ frames := 6, cells := 0, slots := 0, locals := 147 })).room s m ([.ref u, .int a, .int b, .int q, .int d] : List Value).toArray below meth c H_j50 locs 0 0 (MQ below (py_Qv E L f s.heap.size (fun L1 f1 => WF E G L1 f1 ∧ KP G [55, 48, 49, 13] false f f1 ∧ FK [30] f f1 u)) ([.ref u, .int a, .int b, .int q, .int d] : List Value).toArray s 0 0 (va_A (va_pl L f) s.heap.size)) (F0 m 50 ls [.int v_53, .int v_52]) := by
      intro v_53 L_j50 f_j50 H_j50 locs ls bv_53 hWF hKP hLW hFK jv0 hw hl
      refine lv_iadd G0.1 G0.2.1 dX12_winterOf_50 ?_
      refine lv_topi (fun x_54 ex_54 => ?_)
      first | have tx_54 := ti_add ex_54 (by omega -splitDisjunctions) (by omega -splitDisjunctions) | skip
      refine lv_istore (lv' := [(5, .int x_54), (0, .ref u), (1, .int a), (2, .int b), (3, .int q), (4, .int d)]) G0.1 G0.2.1 dX12_winterOf_51 hl (by decide) rfl (fun ls hl => ?_)
      refine lv_iconst (v := 0) G0.1 G0.2.1 dX12_winterOf_53 (by decide) ?_
      refine lv_istore (lv' := [(6, .int 0), (5, .int x_54), (0, .ref u), (1, .int a), (2, .int b), (3, .int q), (4, .int d)]) G0.1 G0.2.1 dX12_winterOf_54 hl (by decide) rfl (fun ls hl => ?_)
      refine lv_iconst (v := 0) G0.1 G0.2.1 dX12_winterOf_56 (by decide) ?_
      refine lv_istore (lv' := [(7, .int 0), (6, .int 0), (5, .int x_54), (0, .ref u), (1, .int a), (2, .int b), (3, .int q), (4, .int d)]) G0.1 G0.2.1 dX12_winterOf_57 hl (by decide) rfl (fun ls hl => ?_)
      have lo_59 : ∀ n_59 : Nat, ∀ (v_55 : Int32) (v_56 : Int32) (L_j59 : List Nat) (f_j59 : py_F) (H_j59 : Heap) (locs : List Loc) (ls : Array Slot), (2147483647 - v_55.toInt).toNat = n_59 → (0 ≤ v_55.toInt ∧ v_55.toInt ≤ 2147483647) → (0 ≤ v_56.toInt ∧ v_56.toInt ≤ 2147483647) → WF E G L_j59 f_j59 → KP G [55, 48, 49, 13] false f f_j59 → (q.toInt ≠ -1 → LV f_j59 G u q.toInt) → FK [30] f f_j59 u → (nw f_j59 G u a.toInt 0 = nw f G u a.toInt 0 ∧ nw f_j59 G u a.toInt 1 = nw f G u a.toInt 1) → (v_56.toInt ≤ v_55.toInt) → (v_55.toInt = 0 ∨ v_55.toInt ≤ nw f G u a.toInt 0) → py_W E (va_A (va_pl L f) s.heap.size) s L_j59 f_j59 H_j59 locs → lv_has ls 9 [(7, .int v_55), (6, .int v_56), (5, .int x_54), (0, .ref u), (1, .int a), (2, .int b), (3, .int q), (4, .int d)] → W p l e (headSpec w_X12_winterOf ({ frames := 6, cells := 0, slots := 0, locals := 147 })).room s m ([.ref u, .int a, .int b, .int q, .int d] : List Value).toArray below meth c H_j59 locs 0 0 (MQ below (py_Qv E L f s.heap.size (fun L1 f1 => WF E G L1 f1 ∧ KP G [55, 48, 49, 13] false f f1 ∧ FK [30] f f1 u)) ([.ref u, .int a, .int b, .int q, .int d] : List Value).toArray s 0 0 (va_A (va_pl L f) s.heap.size)) (F0 m 59 ls []) := by
        intro n_59
        induction n_59 using Nat.strongRecOn with
        | _ n_59 ih_59 =>
          intro v_55 v_56 L_j59 f_j59 H_j59 locs ls hn_59 bv_55 bv_56 hWF hKP hLW hFK iv0 iv1 iv2 hw hl
          refine lv_iload G0.1 G0.2.1 dX12_winterOf_59 (lv_at hl 0 rfl) ?_
          refine lv_aload_n G0.1 G0.2.1 dX12_winterOf_61 rfl (lv_at hl 3 rfl) ?_
          refine lv_iload_n G0.1 G0.2.1 dX12_winterOf_62 rfl (lv_at hl 4 rfl) ?_
          refine lv_iconst (v := 0) G0.1 G0.2.1 dX12_winterOf_63 (by decide) ?_
          obtain ⟨v_57, v_58, v_59, v_60, v_61, v_62, v_63, v_64, v_65, v_66, v_67, v_68, y_69, v_70, v_71, v_72, v_73, v_74, y_75, v_76, y_77, v_78, hr_91, b_79, b_80, b_81, b_82, b_83, b_84, b_85, b_86, b_87, b_88, b_89, b_90⟩ := wg_12 hWF Tu
          refine py_calli hw (va_runV (As := [.int a, .int 0]) (rest := [.int v_55]) G0 (c_X12_of l E G L_j59 f_j59 H_j59.size u a 0 hG hWF Tu ⟨by omega, by omega⟩ ⟨by omega, by omega⟩) (cwV 2 G0.2.2.2.2 g_X12_winterOf_X12_of_287 rfl rfl rfl (by decide +kernel) ⟨(Nat.le_of_ble_eq_true rfl), (Nat.le_of_ble_eq_true rfl)⟩) (py_preV hw (C := RX12) (T := TX12) (N := 54) rfl hr_91) rfl rfl hl.1 rfl (lv_room (Nat.le_of_ble_eq_true rfl)) dX12_winterOf_64 ⟨(Nat.le_of_ble_eq_true rfl), (Nat.le_of_ble_eq_true rfl)⟩) (fun r_96 L_92 f_93 H_94 locs hp_95 hw => ?_)
          obtain ⟨en_97, en_98, rfl, rfl⟩ := hp_95
          have en_97 : r_96.toInt = nw f_j59 G u a.toInt (0 : Int) := en_97
          have en_98 : 0 ≤ r_96.toInt ∧ r_96.toInt ≤ 20 := (show ((0 : Int) = 0 → 0 ≤ r_96.toInt ∧ r_96.toInt ≤ 20) ∧ ((0 : Int) = 1 → -1 ≤ r_96.toInt ∧ r_96.toInt ≤ 7) from en_98).1 rfl
          have br_96 := wf_free r_96
          refine lv_icmp_ge (tgt := 108) G0.1 G0.2.1 dX12_winterOf_67 (by decide) (fun c_99 => ?_) (fun c_99 => ?_)
          · skip
            have tc_99 := ti_le c_99
            refine lv_iload G0.1 G0.2.1 dX12_winterOf_108 (lv_at hl 2 rfl) ?_
            refine lv_istore (lv' := [(7, .int x_54), (6, .int v_56), (5, .int x_54), (0, .ref u), (1, .int a), (2, .int b), (3, .int q), (4, .int d)]) G0.1 G0.2.1 dX12_winterOf_110 hl (by decide) rfl (fun ls hl => ?_)
            refine lv_aload_n G0.1 G0.2.1 dX12_winterOf_112 rfl (lv_at hl 3 rfl) ?_
            refine lv_iload_n G0.1 G0.2.1 dX12_winterOf_113 rfl (lv_at hl 4 rfl) ?_
            refine lv_bipush (v := 7) G0.1 G0.2.1 dX12_winterOf_114 (by decide) ?_
            refine py_calli hw (va_runV (As := [.int a, .int 7]) (rest := []) G0 (c_X12_of l E G L_j59 f_j59 H_94.size u a 7 hG hWF Tu ⟨by omega, by omega⟩ ⟨by omega, by omega⟩) (cwV 2 G0.2.2.2.2 g_X12_winterOf_X12_of_287 rfl rfl rfl (by decide +kernel) ⟨(Nat.le_of_ble_eq_true rfl), (Nat.le_of_ble_eq_true rfl)⟩) (py_preV hw (C := RX12) (T := TX12) (N := 54) rfl hr_91) rfl rfl hl.1 rfl (lv_room (Nat.le_of_ble_eq_true rfl)) dX12_winterOf_116 ⟨(Nat.le_of_ble_eq_true rfl), (Nat.le_of_ble_eq_true rfl)⟩) (fun r_104 L_100 f_101 H_102 locs hp_103 hw => ?_)
            obtain ⟨en_105, en_106, rfl, rfl⟩ := hp_103
            have en_105 : r_104.toInt = nw f_j59 G u a.toInt (7 : Int) := en_105
            clear en_106
            have br_104 := wf_free r_104
            refine lv_iconst (v := 1) G0.1 G0.2.1 dX12_winterOf_119 (by decide) ?_
            have jn_151 : ∀ (v_107 : Int32) (L_j151 : List Nat) (f_j151 : py_F) (H_j151 : Heap) (locs : List Loc) (ls : Array Slot), WF E G L_j151 f_j151 → KP G [55, 48, 49, 13] false f f_j151 → (q.toInt ≠ -1 → LV f_j151 G u q.toInt) → FK [30] f f_j151 u → (nw f_j151 G u a.toInt 0 = nw f G u a.toInt 0 ∧ nw f_j151 G u a.toInt 1 = nw f G u a.toInt 1) → py_W E (va_A (va_pl L f) s.heap.size) s L_j151 f_j151 H_j151 locs → lv_has ls 9 [(7, .int v_107), (6, .int v_56), (5, .int x_54), (0, .ref u), (1, .int a), (2, .int b), (3, .int q), (4, .int d)] → W p l e (headSpec w_X12_winterOf ({ frames := 6, cells := 0, slots := 0, locals := 147 })).room s m ([.ref u, .int a, .int b, .int q, .int d] : List Value).toArray below meth c H_j151 locs 0 0 (MQ below (py_Qv E L f s.heap.size (fun L1 f1 => WF E G L1 f1 ∧ KP G [55, 48, 49, 13] false f f1 ∧ FK [30] f f1 u)) ([.ref u, .int a, .int b, .int q, .int d] : List Value).toArray s 0 0 (va_A (va_pl L f) s.heap.size)) (F0 m 151 ls []) := by
              intro v_107 L_j151 f_j151 H_j151 locs ls hWF hKP hLW hFK jv0 hw hl
              refine lv_bipush (v := 20) G0.1 G0.2.1 dX12_winterOf_151 (by decide) ?_
              refine lv_aload_n G0.1 G0.2.1 dX12_winterOf_153 rfl (lv_at hl 3 rfl) ?_
              refine lv_iload_n G0.1 G0.2.1 dX12_winterOf_154 rfl (lv_at hl 4 rfl) ?_
              refine lv_iconst (v := 0) G0.1 G0.2.1 dX12_winterOf_155 (by decide) ?_
              obtain ⟨v_108, v_109, v_110, v_111, v_112, v_113, v_114, v_115, v_116, v_117, v_118, v_119, y_120, v_121, v_122, v_123, v_124, v_125, y_126, v_127, y_128, v_129, hr_142, b_130, b_131, b_132, b_133, b_134, b_135, b_136, b_137, b_138, b_139, b_140, b_141⟩ := wg_12 hWF Tu
              refine py_calli hw (va_runV (As := [.int a, .int 0]) (rest := [.int 20]) G0 (c_X12_of l E G L_j151 f_j151 H_j151.size u a 0 hG hWF Tu ⟨by omega, by omega⟩ ⟨by omega, by omega⟩) (cwV 2 G0.2.2.2.2 g_X12_winterOf_X12_of_287 rfl rfl rfl (by decide +kernel) ⟨(Nat.le_of_ble_eq_true rfl), (Nat.le_of_ble_eq_true rfl)⟩) (py_preV hw (C := RX12) (T := TX12) (N := 54) rfl hr_142) rfl rfl hl.1 rfl (lv_room (Nat.le_of_ble_eq_true rfl)) dX12_winterOf_156 ⟨(Nat.le_of_ble_eq_true rfl), (Nat.le_of_ble_eq_true rfl)⟩) (fun r_147 L_143 f_144 H_145 locs hp_146 hw => ?_)
              obtain ⟨en_148, en_149, rfl, rfl⟩ := hp_146
              have en_148 : r_147.toInt = nw f_j151 G u a.toInt (0 : Int) := en_148
              have en_149 : 0 ≤ r_147.toInt ∧ r_147.toInt ≤ 20 := (show ((0 : Int) = 0 → 0 ≤ r_147.toInt ∧ r_147.toInt ≤ 20) ∧ ((0 : Int) = 1 → -1 ≤ r_147.toInt ∧ r_147.toInt ≤ 7) from en_149).1 rfl
              have br_147 := wf_free r_147
              refine lv_iload G0.1 G0.2.1 dX12_winterOf_159 (lv_at hl 1 rfl) ?_
              refine lv_isub G0.1 G0.2.1 dX12_winterOf_161 ?_
              refine lv_topi (fun x_150 ex_150 => ?_)
              first | have tx_150 := ti_sub ex_150 (by omega -splitDisjunctions) (by omega -splitDisjunctions) | skip
              refine lv_iload G0.1 G0.2.1 dX12_winterOf_162 (lv_at hl 2 rfl) ?_
              refine lv_iadd G0.1 G0.2.1 dX12_winterOf_164 ?_
              refine lv_topi (fun x_151 ex_151 => ?_)
              first | have tx_151 := ti_add ex_151 (by omega -splitDisjunctions) (by omega -splitDisjunctions) | skip
              refine va_mmin G0.1 G0.2.1 (by rw [G0.2.2.1, hl.1]) G0.2.2.2.1 (G0.2.2.2.2 (Cond.methodLink RX12 339 Lib.Math.min.name) (by decide +kernel)) (G0.2.2.2.2 (Cond.static Lib.Math.min.name) (by decide +kernel)) (G0.2.2.2.2 (Cond.initialized "java/lang/Math") (by decide +kernel)) (G0.2.2.2.2 (Cond.code Lib.Math.min.name Lib.Math.min.code 2 (some .int)) (by decide +kernel)) (Nat.le_of_ble_eq_true rfl) (Nat.le_of_ble_eq_true rfl) (Nat.le_of_ble_eq_true rfl) (Nat.le_of_ble_eq_true rfl) dX12_winterOf_165 ?_
              refine lv_topi (fun x_152 ex_152 => ?_)
              have tx_152 := ti_min ex_152
              refine lv_istore (lv' := [(8, .int x_152), (7, .int v_107), (6, .int v_56), (5, .int x_54), (0, .ref u), (1, .int a), (2, .int b), (3, .int q), (4, .int d)]) G0.1 G0.2.1 dX12_winterOf_168 hl (by decide) rfl (fun ls hl => ?_)
              refine lv_aload_n G0.1 G0.2.1 dX12_winterOf_170 rfl (lv_at hl 4 rfl) ?_
              refine lv_iload_n G0.1 G0.2.1 dX12_winterOf_171 rfl (lv_at hl 5 rfl) ?_
              refine lv_iconst (v := 0) G0.1 G0.2.1 dX12_winterOf_172 (by decide) ?_
              refine lv_iload G0.1 G0.2.1 dX12_winterOf_173 (lv_at hl 0 rfl) ?_
              refine py_callv hw (va_runV (As := [.int a, .int 0, .int x_152]) (rest := []) G0 (c_X12_tell l E G L_j151 f_j151 H_145.size u a 0 x_152 hG hWF Tu ⟨by omega, by omega⟩ ⟨by omega, by omega⟩ (show ((0 : Int32).toInt = 0 → 0 ≤ x_152.toInt ∧ x_152.toInt ≤ 20) ∧ ((0 : Int32).toInt = 1 → -1 ≤ x_152.toInt ∧ x_152.toInt ≤ 7) by omega)) (cwV 3 G0.2.2.2.2 g_X12_winterOf_X12_tell_305 rfl rfl rfl (by decide +kernel) ⟨(Nat.le_of_ble_eq_true rfl), (Nat.le_of_ble_eq_true rfl)⟩) (py_preV hw (C := RX12) (T := TX12) (N := 54) rfl hr_142) rfl rfl hl.1 rfl (lv_room (Nat.le_of_ble_eq_true rfl)) dX12_winterOf_175 ⟨(Nat.le_of_ble_eq_true rfl), (Nat.le_of_ble_eq_true rfl)⟩) (fun L_153 f_154 H_155 locs hp_156 hw => ?_)
              obtain ⟨en_158, hWF, kp_159, fk_160⟩ := hp_156
              have en_158 : TL f_j151 f_154 G u a.toInt (0 : Int) x_152.toInt := en_158
              have hLW := fun hy => (hLW hy).kp hG Tu kp_159 (LK.of (by decide))
              have hFK := hFK.trans fk_160 (by decide)
              have hKP := hKP.trans kp_159 (by decide) (by decide)
              have hr_142 := kp_at kp_159 hWF Tu (by decide) (by decide) (by decide) hr_142
              refine lv_aload_n G0.1 G0.2.1 dX12_winterOf_178 rfl (lv_at hl 4 rfl) ?_
              refine lv_iload_n G0.1 G0.2.1 dX12_winterOf_179 rfl (lv_at hl 5 rfl) ?_
              refine lv_iconst (v := 4) G0.1 G0.2.1 dX12_winterOf_180 (by decide) ?_
              refine lv_aload_n G0.1 G0.2.1 dX12_winterOf_181 rfl (lv_at hl 4 rfl) ?_
              refine lv_iload_n G0.1 G0.2.1 dX12_winterOf_182 rfl (lv_at hl 5 rfl) ?_
              refine lv_iconst (v := 4) G0.1 G0.2.1 dX12_winterOf_183 (by decide) ?_
              refine py_calli hw (va_runV (As := [.int a, .int 4]) (rest := [.int 4, .int a, .ref u]) G0 (c_X12_of l E G L_153 f_154 H_155.size u a 4 hG hWF Tu ⟨by omega, by omega⟩ ⟨by omega, by omega⟩) (cwV 2 G0.2.2.2.2 g_X12_winterOf_X12_of_287 rfl rfl rfl (by decide +kernel) ⟨(Nat.le_of_ble_eq_true rfl), (Nat.le_of_ble_eq_true rfl)⟩) (py_preV hw (C := RX12) (T := TX12) (N := 54) rfl hr_142) rfl rfl hl.1 rfl (lv_room (Nat.le_of_ble_eq_true rfl)) dX12_winterOf_184 ⟨(Nat.le_of_ble_eq_true rfl), (Nat.le_of_ble_eq_true rfl)⟩) (fun r_165 L_161 f_162 H_163 locs hp_164 hw => ?_)
              obtain ⟨en_166, en_167, rfl, rfl⟩ := hp_164
              have en_166 : r_165.toInt = nw f_154 G u a.toInt (4 : Int) := en_166
              clear en_167
              have br_165 := wf_free r_165
              refine lv_iload G0.1 G0.2.1 dX12_winterOf_187 (lv_at hl 3 rfl) ?_
              refine lv_iadd G0.1 G0.2.1 dX12_winterOf_189 ?_
              refine lv_topi (fun x_168 ex_168 => ?_)
              first | have tx_168 := ti_add ex_168 (by omega -splitDisjunctions) (by omega -splitDisjunctions) | skip
              refine py_callv hw (va_runV (As := [.int a, .int 4, .int x_168]) (rest := []) G0 (c_X12_tell l E G L_153 f_154 H_163.size u a 4 x_168 hG hWF Tu ⟨by omega, by omega⟩ ⟨by omega, by omega⟩ (show ((4 : Int32).toInt = 0 → 0 ≤ x_168.toInt ∧ x_168.toInt ≤ 20) ∧ ((4 : Int32).toInt = 1 → -1 ≤ x_168.toInt ∧ x_168.toInt ≤ 7) by omega)) (cwV 3 G0.2.2.2.2 g_X12_winterOf_X12_tell_305 rfl rfl rfl (by decide +kernel) ⟨(Nat.le_of_ble_eq_true rfl), (Nat.le_of_ble_eq_true rfl)⟩) (py_preV hw (C := RX12) (T := TX12) (N := 54) rfl hr_142) rfl rfl hl.1 rfl (lv_room (Nat.le_of_ble_eq_true rfl)) dX12_winterOf_190 ⟨(Nat.le_of_ble_eq_true rfl), (Nat.le_of_ble_eq_true rfl)⟩) (fun L_169 f_170 H_171 locs hp_172 hw => ?_)
              obtain ⟨en_174, hWF, kp_175, fk_176⟩ := hp_172
              have en_174 : TL f_154 f_170 G u a.toInt (4 : Int) x_168.toInt := en_174
              have hLW := fun hy => (hLW hy).kp hG Tu kp_175 (LK.of (by decide))
              have hFK := hFK.trans fk_176 (by decide)
              have hKP := hKP.trans kp_175 (by decide) (by decide)
              have hr_142 := kp_at kp_175 hWF Tu (by decide) (by decide) (by decide) hr_142
              refine lv_aload_n G0.1 G0.2.1 dX12_winterOf_193 rfl (lv_at hl 4 rfl) ?_
              refine lv_iload_n G0.1 G0.2.1 dX12_winterOf_194 rfl (lv_at hl 5 rfl) ?_
              refine lv_iconst (v := 5) G0.1 G0.2.1 dX12_winterOf_195 (by decide) ?_
              refine lv_aload_n G0.1 G0.2.1 dX12_winterOf_196 rfl (lv_at hl 4 rfl) ?_
              refine lv_iload_n G0.1 G0.2.1 dX12_winterOf_197 rfl (lv_at hl 5 rfl) ?_
              refine lv_iconst (v := 5) G0.1 G0.2.1 dX12_winterOf_198 (by decide) ?_
              refine py_calli hw (va_runV (As := [.int a, .int 5]) (rest := [.int 5, .int a, .ref u]) G0 (c_X12_of l E G L_169 f_170 H_171.size u a 5 hG hWF Tu ⟨by omega, by omega⟩ ⟨by omega, by omega⟩) (cwV 2 G0.2.2.2.2 g_X12_winterOf_X12_of_287 rfl rfl rfl (by decide +kernel) ⟨(Nat.le_of_ble_eq_true rfl), (Nat.le_of_ble_eq_true rfl)⟩) (py_preV hw (C := RX12) (T := TX12) (N := 54) rfl hr_142) rfl rfl hl.1 rfl (lv_room (Nat.le_of_ble_eq_true rfl)) dX12_winterOf_199 ⟨(Nat.le_of_ble_eq_true rfl), (Nat.le_of_ble_eq_true rfl)⟩) (fun r_181 L_177 f_178 H_179 locs hp_180 hw => ?_)
              obtain ⟨en_182, en_183, rfl, rfl⟩ := hp_180
              have en_182 : r_181.toInt = nw f_170 G u a.toInt (5 : Int) := en_182
              clear en_183
              have br_181 := wf_free r_181
              refine lv_iload G0.1 G0.2.1 dX12_winterOf_202 (lv_at hl 2 rfl) ?_
              refine lv_iadd G0.1 G0.2.1 dX12_winterOf_204 ?_
              refine lv_topi (fun x_184 ex_184 => ?_)
              first | have tx_184 := ti_add ex_184 (by omega -splitDisjunctions) (by omega -splitDisjunctions) | skip
              refine py_callv hw (va_runV (As := [.int a, .int 5, .int x_184]) (rest := []) G0 (c_X12_tell l E G L_169 f_170 H_179.size u a 5 x_184 hG hWF Tu ⟨by omega, by omega⟩ ⟨by omega, by omega⟩ (show ((5 : Int32).toInt = 0 → 0 ≤ x_184.toInt ∧ x_184.toInt ≤ 20) ∧ ((5 : Int32).toInt = 1 → -1 ≤ x_184.toInt ∧ x_184.toInt ≤ 7) by omega)) (cwV 3 G0.2.2.2.2 g_X12_winterOf_X12_tell_305 rfl rfl rfl (by decide +kernel) ⟨(Nat.le_of_ble_eq_true rfl), (Nat.le_of_ble_eq_true rfl)⟩) (py_preV hw (C := RX12) (T := TX12) (N := 54) rfl hr_142) rfl rfl hl.1 rfl (lv_room (Nat.le_of_ble_eq_true rfl)) dX12_winterOf_205 ⟨(Nat.le_of_ble_eq_true rfl), (Nat.le_of_ble_eq_true rfl)⟩) (fun L_185 f_186 H_187 locs hp_188 hw => ?_)
              obtain ⟨en_190, hWF, kp_191, fk_192⟩ := hp_188
              have en_190 : TL f_170 f_186 G u a.toInt (5 : Int) x_184.toInt := en_190
              have hLW := fun hy => (hLW hy).kp hG Tu kp_191 (LK.of (by decide))
              have hFK := hFK.trans fk_192 (by decide)
              have hKP := hKP.trans kp_191 (by decide) (by decide)
              have hr_142 := kp_at kp_191 hWF Tu (by decide) (by decide) (by decide) hr_142
              refine lv_iload G0.1 G0.2.1 dX12_winterOf_208 (lv_at hl 0 rfl) ?_
              have jn_284 : ∀ (L_j284 : List Nat) (f_j284 : py_F) (H_j284 : Heap) (locs : List Loc) (ls : Array Slot), WF E G L_j284 f_j284 → KP G [55, 48, 49, 13] false f f_j284 → (q.toInt ≠ -1 → LV f_j284 G u q.toInt) → FK [30] f f_j284 u → py_W E (va_A (va_pl L f) s.heap.size) s L_j284 f_j284 H_j284 locs → lv_has ls 9 [(8, .int x_152), (7, .int v_107), (6, .int v_56), (5, .int x_54), (0, .ref u), (1, .int a), (2, .int b), (3, .int q), (4, .int d)] → W p l e (headSpec w_X12_winterOf ({ frames := 6, cells := 0, slots := 0, locals := 147 })).room s m ([.ref u, .int a, .int b, .int q, .int d] : List Value).toArray below meth c H_j284 locs 0 0 (MQ below (py_Qv E L f s.heap.size (fun L1 f1 => WF E G L1 f1 ∧ KP G [55, 48, 49, 13] false f f1 ∧ FK [30] f f1 u)) ([.ref u, .int a, .int b, .int q, .int d] : List Value).toArray s 0 0 (va_A (va_pl L f) s.heap.size)) (F0 m 284 ls []) := by
                intro L_j284 f_j284 H_j284 locs ls hWF hKP hLW hFK hw hl
                exact py_vret G0 hr hlk hw ⟨hWF, hKP, hFK⟩ dX12_winterOf_284
              refine lv_if_ne (tgt := 246) G0.1 G0.2.1 dX12_winterOf_210 (by decide) (fun c_193 => ?_) (fun c_193 => ?_)
              · skip
                have tc_193 := ti_ne c_193
                refine lv_aload_n G0.1 G0.2.1 dX12_winterOf_246 rfl (lv_at hl 4 rfl) ?_
                refine lv_iload_n G0.1 G0.2.1 dX12_winterOf_247 rfl (lv_at hl 5 rfl) ?_
                refine lv_iconst (v := 3) G0.1 G0.2.1 dX12_winterOf_248 (by decide) ?_
                refine lv_aload_n G0.1 G0.2.1 dX12_winterOf_249 rfl (lv_at hl 4 rfl) ?_
                refine lv_iload_n G0.1 G0.2.1 dX12_winterOf_250 rfl (lv_at hl 5 rfl) ?_
                refine lv_iconst (v := 3) G0.1 G0.2.1 dX12_winterOf_251 (by decide) ?_
                refine py_calli hw (va_runV (As := [.int a, .int 3]) (rest := [.int 3, .int a, .ref u]) G0 (c_X12_of l E G L_185 f_186 H_187.size u a 3 hG hWF Tu ⟨by omega, by omega⟩ ⟨by omega, by omega⟩) (cwV 2 G0.2.2.2.2 g_X12_winterOf_X12_of_287 rfl rfl rfl (by decide +kernel) ⟨(Nat.le_of_ble_eq_true rfl), (Nat.le_of_ble_eq_true rfl)⟩) (py_preV hw (C := RX12) (T := TX12) (N := 54) rfl hr_142) rfl rfl hl.1 rfl (lv_room (Nat.le_of_ble_eq_true rfl)) dX12_winterOf_252 ⟨(Nat.le_of_ble_eq_true rfl), (Nat.le_of_ble_eq_true rfl)⟩) (fun r_198 L_194 f_195 H_196 locs hp_197 hw => ?_)
                obtain ⟨en_199, en_200, rfl, rfl⟩ := hp_197
                have en_199 : r_198.toInt = nw f_186 G u a.toInt (3 : Int) := en_199
                clear en_200
                have br_198 := wf_free r_198
                refine lv_aload_n G0.1 G0.2.1 dX12_winterOf_255 rfl (lv_at hl 4 rfl) ?_
                refine lv_iload_n G0.1 G0.2.1 dX12_winterOf_256 rfl (lv_at hl 7 rfl) ?_
                refine lv_iload G0.1 G0.2.1 dX12_winterOf_257 (lv_at hl 1 rfl) ?_
                refine lv_iload G0.1 G0.2.1 dX12_winterOf_259 (lv_at hl 2 rfl) ?_
                refine lv_iload G0.1 G0.2.1 dX12_winterOf_261 (lv_at hl 0 rfl) ?_
                refine lv_aload_n G0.1 G0.2.1 dX12_winterOf_263 rfl (lv_at hl 4 rfl) ?_
                refine lv_iload_n G0.1 G0.2.1 dX12_winterOf_264 rfl (lv_at hl 5 rfl) ?_
                refine lv_iconst (v := 1) G0.1 G0.2.1 dX12_winterOf_265 (by decide) ?_
                refine py_calli hw (py_runV16 (As := [.int a, .int 1]) (rest := [.int x_152, .int v_56, .int v_107, .int q, .ref u, .int r_198, .int 3, .int a, .ref u]) G0 (c_X12_of l E G L_185 f_186 H_196.size u a 1 hG hWF Tu ⟨by omega, by omega⟩ ⟨by omega, by omega⟩) (cwV 2 G0.2.2.2.2 g_X12_winterOf_X12_of_287 rfl rfl rfl (by decide +kernel) ⟨(Nat.le_of_ble_eq_true rfl), (Nat.le_of_ble_eq_true rfl)⟩) (Nat.le_of_ble_eq_true rfl) (py_preV hw (C := RX12) (T := TX12) (N := 54) rfl hr_142) rfl rfl hl.1 rfl (py_room16 (Nat.le_of_ble_eq_true rfl)) dX12_winterOf_266 ⟨(Nat.le_of_ble_eq_true rfl), (Nat.le_of_ble_eq_true rfl)⟩) (fun r_205 L_201 f_202 H_203 locs hp_204 hw => ?_)
                obtain ⟨en_206, en_207, rfl, rfl⟩ := hp_204
                have en_206 : r_205.toInt = nw f_186 G u a.toInt (1 : Int) := en_206
                have en_207 : -1 ≤ r_205.toInt ∧ r_205.toInt ≤ 7 := (show ((1 : Int) = 0 → 0 ≤ r_205.toInt ∧ r_205.toInt ≤ 20) ∧ ((1 : Int) = 1 → -1 ≤ r_205.toInt ∧ r_205.toInt ≤ 7) from en_207).2 rfl
                have br_205 := wf_free r_205
                refine lv_aload_n G0.1 G0.2.1 dX12_winterOf_269 rfl (lv_at hl 4 rfl) ?_
                refine lv_iload_n G0.1 G0.2.1 dX12_winterOf_270 rfl (lv_at hl 5 rfl) ?_
                refine lv_iconst (v := 3) G0.1 G0.2.1 dX12_winterOf_271 (by decide) ?_
                refine py_calli hw (py_runV16 (As := [.int a, .int 3]) (rest := [.int r_205, .int x_152, .int v_56, .int v_107, .int q, .ref u, .int r_198, .int 3, .int a, .ref u]) G0 (c_X12_of l E G L_185 f_186 H_203.size u a 3 hG hWF Tu ⟨by omega, by omega⟩ ⟨by omega, by omega⟩) (cwV 2 G0.2.2.2.2 g_X12_winterOf_X12_of_287 rfl rfl rfl (by decide +kernel) ⟨(Nat.le_of_ble_eq_true rfl), (Nat.le_of_ble_eq_true rfl)⟩) (Nat.le_of_ble_eq_true rfl) (py_preV hw (C := RX12) (T := TX12) (N := 54) rfl hr_142) rfl rfl hl.1 rfl (py_room16 (Nat.le_of_ble_eq_true rfl)) dX12_winterOf_272 ⟨(Nat.le_of_ble_eq_true rfl), (Nat.le_of_ble_eq_true rfl)⟩) (fun r_212 L_208 f_209 H_210 locs hp_211 hw => ?_)
                obtain ⟨en_213, en_214, rfl, rfl⟩ := hp_211
                have en_213 : r_212.toInt = nw f_186 G u a.toInt (3 : Int) := en_213
                clear en_214
                have br_212 := wf_free r_212
                refine lv_iload G0.1 G0.2.1 dX12_winterOf_275 (lv_at hl 8 rfl) ?_
                refine py_calli hw (va_runV (As := [.int q, .int v_107, .int v_56, .int x_152, .int r_205, .int r_212, .int d]) (rest := [.int r_198, .int 3, .int a, .ref u]) G0 (c_X12_worthBy l E G L_185 f_186 H_210.size u q v_107 v_56 x_152 r_205 r_212 d hG hWF Tu ⟨by omega, by omega⟩ hLW) (cwV 7 G0.2.2.2.2 g_X12_winterOf_X12_worthBy_371 rfl rfl rfl (by decide +kernel) ⟨(Nat.le_of_ble_eq_true rfl), (Nat.le_of_ble_eq_true rfl)⟩) (py_preV hw (C := RX12) (T := TX12) (N := 54) rfl hr_142) rfl rfl hl.1 rfl (lv_room (Nat.le_of_ble_eq_true rfl)) dX12_winterOf_277 ⟨(Nat.le_of_ble_eq_true rfl), (Nat.le_of_ble_eq_true rfl)⟩) (fun r_219 L_215 f_216 H_217 locs hp_218 hw => ?_)
                obtain ⟨b_220, hWF, kp_221, fk_222⟩ := hp_218
                have hLW := fun hy => (hLW hy).kp hG Tu kp_221 (LK.of (by decide))
                have hFK := hFK.trans fk_222 (by decide)
                have hKP := hKP.trans kp_221 (by decide) (by decide)
                have hr_142 := kp_at kp_221 hWF Tu (by decide) (by decide) (by decide) hr_142
                refine lv_iadd G0.1 G0.2.1 dX12_winterOf_280 ?_
                refine lv_topi (fun x_223 ex_223 => ?_)
                first | have tx_223 := ti_add ex_223 (by omega -splitDisjunctions) (by omega -splitDisjunctions) | skip
                refine py_callv hw (va_runV (As := [.int a, .int 3, .int x_223]) (rest := []) G0 (c_X12_tell l E G L_215 f_216 H_217.size u a 3 x_223 hG hWF Tu ⟨by omega, by omega⟩ ⟨by omega, by omega⟩ (show ((3 : Int32).toInt = 0 → 0 ≤ x_223.toInt ∧ x_223.toInt ≤ 20) ∧ ((3 : Int32).toInt = 1 → -1 ≤ x_223.toInt ∧ x_223.toInt ≤ 7) by omega)) (cwV 3 G0.2.2.2.2 g_X12_winterOf_X12_tell_305 rfl rfl rfl (by decide +kernel) ⟨(Nat.le_of_ble_eq_true rfl), (Nat.le_of_ble_eq_true rfl)⟩) (py_preV hw (C := RX12) (T := TX12) (N := 54) rfl hr_142) rfl rfl hl.1 rfl (lv_room (Nat.le_of_ble_eq_true rfl)) dX12_winterOf_281 ⟨(Nat.le_of_ble_eq_true rfl), (Nat.le_of_ble_eq_true rfl)⟩) (fun L_224 f_225 H_226 locs hp_227 hw => ?_)
                obtain ⟨en_229, hWF, kp_230, fk_231⟩ := hp_227
                have en_229 : TL f_216 f_225 G u a.toInt (3 : Int) x_223.toInt := en_229
                have hLW := fun hy => (hLW hy).kp hG Tu kp_230 (LK.of (by decide))
                have hFK := hFK.trans fk_231 (by decide)
                have hKP := hKP.trans kp_230 (by decide) (by decide)
                have hr_142 := kp_at kp_230 hWF Tu (by decide) (by decide) (by decide) hr_142
                exact jn_284 L_224 f_225 _ _ ls hWF hKP hLW hFK hw (lv_sub hl [0, 1, 2, 3, 4, 5, 6, 7, 8] rfl)
              · skip
                have tc_193 := ti_eq c_193
                refine lv_aload_n G0.1 G0.2.1 dX12_winterOf_213 rfl (lv_at hl 4 rfl) ?_
                refine lv_iload_n G0.1 G0.2.1 dX12_winterOf_214 rfl (lv_at hl 5 rfl) ?_
                refine lv_iconst (v := 1) G0.1 G0.2.1 dX12_winterOf_215 (by decide) ?_
                refine lv_iconst (v := (-1)) G0.1 G0.2.1 dX12_winterOf_216 (by decide) ?_
                refine py_callv hw (va_runV (As := [.int a, .int 1, .int (-1)]) (rest := []) G0 (c_X12_tell l E G L_185 f_186 H_187.size u a 1 (-1) hG hWF Tu ⟨by omega, by omega⟩ ⟨by omega, by omega⟩ (show ((1 : Int32).toInt = 0 → 0 ≤ ((-1) : Int32).toInt ∧ ((-1) : Int32).toInt ≤ 20) ∧ ((1 : Int32).toInt = 1 → -1 ≤ ((-1) : Int32).toInt ∧ ((-1) : Int32).toInt ≤ 7) by omega)) (cwV 3 G0.2.2.2.2 g_X12_winterOf_X12_tell_305 rfl rfl rfl (by decide +kernel) ⟨(Nat.le_of_ble_eq_true rfl), (Nat.le_of_ble_eq_true rfl)⟩) (py_preV hw (C := RX12) (T := TX12) (N := 54) rfl hr_142) rfl rfl hl.1 rfl (lv_room (Nat.le_of_ble_eq_true rfl)) dX12_winterOf_217 ⟨(Nat.le_of_ble_eq_true rfl), (Nat.le_of_ble_eq_true rfl)⟩) (fun L_232 f_233 H_234 locs hp_235 hw => ?_)
                obtain ⟨en_237, hWF, kp_238, fk_239⟩ := hp_235
                have en_237 : TL f_186 f_233 G u a.toInt (1 : Int) ((-1) : Int) := en_237
                have hLW := fun hy => (hLW hy).kp hG Tu kp_238 (LK.of (by decide))
                have hFK := hFK.trans fk_239 (by decide)
                have hKP := hKP.trans kp_238 (by decide) (by decide)
                have hr_142 := kp_at kp_238 hWF Tu (by decide) (by decide) (by decide) hr_142
                refine lv_aload_n G0.1 G0.2.1 dX12_winterOf_220 rfl (lv_at hl 4 rfl) ?_
                refine lv_iload_n G0.1 G0.2.1 dX12_winterOf_221 rfl (lv_at hl 5 rfl) ?_
                refine lv_iconst (v := 3) G0.1 G0.2.1 dX12_winterOf_222 (by decide) ?_
                refine lv_iconst (v := 0) G0.1 G0.2.1 dX12_winterOf_223 (by decide) ?_
                refine py_callv hw (va_runV (As := [.int a, .int 3, .int 0]) (rest := []) G0 (c_X12_tell l E G L_232 f_233 H_234.size u a 3 0 hG hWF Tu ⟨by omega, by omega⟩ ⟨by omega, by omega⟩ (show ((3 : Int32).toInt = 0 → 0 ≤ (0 : Int32).toInt ∧ (0 : Int32).toInt ≤ 20) ∧ ((3 : Int32).toInt = 1 → -1 ≤ (0 : Int32).toInt ∧ (0 : Int32).toInt ≤ 7) by omega)) (cwV 3 G0.2.2.2.2 g_X12_winterOf_X12_tell_305 rfl rfl rfl (by decide +kernel) ⟨(Nat.le_of_ble_eq_true rfl), (Nat.le_of_ble_eq_true rfl)⟩) (py_preV hw (C := RX12) (T := TX12) (N := 54) rfl hr_142) rfl rfl hl.1 rfl (lv_room (Nat.le_of_ble_eq_true rfl)) dX12_winterOf_224 ⟨(Nat.le_of_ble_eq_true rfl), (Nat.le_of_ble_eq_true rfl)⟩) (fun L_240 f_241 H_242 locs hp_243 hw => ?_)
                obtain ⟨en_245, hWF, kp_246, fk_247⟩ := hp_243
                have en_245 : TL f_233 f_241 G u a.toInt (3 : Int) (0 : Int) := en_245
                have hLW := fun hy => (hLW hy).kp hG Tu kp_246 (LK.of (by decide))
                have hFK := hFK.trans fk_247 (by decide)
                have hKP := hKP.trans kp_246 (by decide) (by decide)
                have hr_142 := kp_at kp_246 hWF Tu (by decide) (by decide) (by decide) hr_142
                refine lv_aload_n G0.1 G0.2.1 dX12_winterOf_227 rfl (lv_at hl 4 rfl) ?_
                refine lv_iload_n G0.1 G0.2.1 dX12_winterOf_228 rfl (lv_at hl 5 rfl) ?_
                refine lv_bipush (v := 6) G0.1 G0.2.1 dX12_winterOf_229 (by decide) ?_
                refine lv_iconst (v := 0) G0.1 G0.2.1 dX12_winterOf_231 (by decide) ?_
                refine py_callv hw (va_runV (As := [.int a, .int 6, .int 0]) (rest := []) G0 (c_X12_tell l E G L_240 f_241 H_242.size u a 6 0 hG hWF Tu ⟨by omega, by omega⟩ ⟨by omega, by omega⟩ (show ((6 : Int32).toInt = 0 → 0 ≤ (0 : Int32).toInt ∧ (0 : Int32).toInt ≤ 20) ∧ ((6 : Int32).toInt = 1 → -1 ≤ (0 : Int32).toInt ∧ (0 : Int32).toInt ≤ 7) by omega)) (cwV 3 G0.2.2.2.2 g_X12_winterOf_X12_tell_305 rfl rfl rfl (by decide +kernel) ⟨(Nat.le_of_ble_eq_true rfl), (Nat.le_of_ble_eq_true rfl)⟩) (py_preV hw (C := RX12) (T := TX12) (N := 54) rfl hr_142) rfl rfl hl.1 rfl (lv_room (Nat.le_of_ble_eq_true rfl)) dX12_winterOf_232 ⟨(Nat.le_of_ble_eq_true rfl), (Nat.le_of_ble_eq_true rfl)⟩) (fun L_248 f_249 H_250 locs hp_251 hw => ?_)
                obtain ⟨en_253, hWF, kp_254, fk_255⟩ := hp_251
                have en_253 : TL f_241 f_249 G u a.toInt (6 : Int) (0 : Int) := en_253
                have hLW := fun hy => (hLW hy).kp hG Tu kp_254 (LK.of (by decide))
                have hFK := hFK.trans fk_255 (by decide)
                have hKP := hKP.trans kp_254 (by decide) (by decide)
                have hr_142 := kp_at kp_254 hWF Tu (by decide) (by decide) (by decide) hr_142
                refine lv_aload_n G0.1 G0.2.1 dX12_winterOf_235 rfl (lv_at hl 4 rfl) ?_
                refine lv_iload_n G0.1 G0.2.1 dX12_winterOf_236 rfl (lv_at hl 5 rfl) ?_
                refine lv_bipush (v := 7) G0.1 G0.2.1 dX12_winterOf_237 (by decide) ?_
                refine lv_iconst (v := 0) G0.1 G0.2.1 dX12_winterOf_239 (by decide) ?_
                refine py_callv hw (va_runV (As := [.int a, .int 7, .int 0]) (rest := []) G0 (c_X12_tell l E G L_248 f_249 H_250.size u a 7 0 hG hWF Tu ⟨by omega, by omega⟩ ⟨by omega, by omega⟩ (show ((7 : Int32).toInt = 0 → 0 ≤ (0 : Int32).toInt ∧ (0 : Int32).toInt ≤ 20) ∧ ((7 : Int32).toInt = 1 → -1 ≤ (0 : Int32).toInt ∧ (0 : Int32).toInt ≤ 7) by omega)) (cwV 3 G0.2.2.2.2 g_X12_winterOf_X12_tell_305 rfl rfl rfl (by decide +kernel) ⟨(Nat.le_of_ble_eq_true rfl), (Nat.le_of_ble_eq_true rfl)⟩) (py_preV hw (C := RX12) (T := TX12) (N := 54) rfl hr_142) rfl rfl hl.1 rfl (lv_room (Nat.le_of_ble_eq_true rfl)) dX12_winterOf_240 ⟨(Nat.le_of_ble_eq_true rfl), (Nat.le_of_ble_eq_true rfl)⟩) (fun L_256 f_257 H_258 locs hp_259 hw => ?_)
                obtain ⟨en_261, hWF, kp_262, fk_263⟩ := hp_259
                have en_261 : TL f_249 f_257 G u a.toInt (7 : Int) (0 : Int) := en_261
                have hLW := fun hy => (hLW hy).kp hG Tu kp_262 (LK.of (by decide))
                have hFK := hFK.trans fk_263 (by decide)
                have hKP := hKP.trans kp_262 (by decide) (by decide)
                have hr_142 := kp_at kp_262 hWF Tu (by decide) (by decide) (by decide) hr_142
                refine lv_goto (tgt := 284) G0.1 G0.2.1 dX12_winterOf_243 (by decide) ?_
                exact jn_284 L_256 f_257 _ _ ls hWF hKP hLW hFK hw (lv_sub hl [0, 1, 2, 3, 4, 5, 6, 7, 8] rfl)
            refine lv_icmp_ne (tgt := 151) G0.1 G0.2.1 dX12_winterOf_120 (by decide) (fun c_264 => ?_) (fun c_264 => ?_)
            · skip
              have tc_264 := ti_ne c_264
              exact jn_151 x_54 L_j59 f_j59 _ _ ls hWF hKP hLW hFK (by first | omega | (intros; omega)) hw (lv_sub hl [0, 1, 2, 3, 4, 5, 6, 7] rfl)
            · skip
              have tc_264 := ti_eq c_264
              refine lv_iload G0.1 G0.2.1 dX12_winterOf_123 (lv_at hl 2 rfl) ?_
              refine lv_if_le (tgt := 151) G0.1 G0.2.1 dX12_winterOf_125 (by decide) (fun c_265 => ?_) (fun c_265 => ?_)
              · skip
                have tc_265 := ti_le c_265
                exact jn_151 x_54 L_j59 f_j59 _ _ ls hWF hKP hLW hFK (by first | omega | (intros; omega)) hw (lv_sub hl [0, 1, 2, 3, 4, 5, 6, 7] rfl)
              · skip
                have tc_265 := ti_nle c_265
                refine lv_aload_n G0.1 G0.2.1 dX12_winterOf_128 rfl (lv_at hl 3 rfl) ?_
                refine lv_bipush (v := 100) G0.1 G0.2.1 dX12_winterOf_129 (by decide) ?_
                refine py_calli hw (va_runV (As := [.int 100]) (rest := []) G0 (c_X12_draw l E G L_j59 f_j59 H_102.size u 100 hG hWF Tu (show (100 : Int32).toInt ≠ 0 by omega)) (cwV 1 G0.2.2.2.2 g_X12_winterOf_X12_draw_368 rfl rfl rfl (by decide +kernel) ⟨(Nat.le_of_ble_eq_true rfl), (Nat.le_of_ble_eq_true rfl)⟩) (py_preV hw (C := RX12) (T := TX12) (N := 54) rfl hr_91) rfl rfl hl.1 rfl (lv_room (Nat.le_of_ble_eq_true rfl)) dX12_winterOf_131 ⟨(Nat.le_of_ble_eq_true rfl), (Nat.le_of_ble_eq_true rfl)⟩) (fun r_270 L_266 f_267 H_268 locs hp_269 hw => ?_)
                obtain ⟨hWF, kp_271, fk_272⟩ := hp_269
                have hLW := fun hy => (hLW hy).kp hG Tu kp_271 (LK.of (by decide))
                have hFK := hFK.trans fk_272 (by decide)
                have hKP := hKP.trans kp_271 (by decide) (by decide)
                obtain ⟨v_273, hr_274⟩ := fk_30 hWF Tu fk_272 hr_91
                have nk_275 : nw f_267 G u a.toInt 0 = nw f_j59 G u a.toInt 0 := arz_kp (kp_f kp_271 (wt12_26 hG Tu) (by decide) (by decide) (fun _ => by decide)) _
                have nk_276 : nw f_267 G u a.toInt 1 = nw f_j59 G u a.toInt 1 := arz_kp (kp_f kp_271 (wt12_26 hG Tu) (by decide) (by decide) (fun _ => by decide)) _
                have br_270 := wf_free r_270
                refine lv_aload_n G0.1 G0.2.1 dX12_winterOf_134 rfl (lv_at hl 3 rfl) ?_
                refine py_get (C := RX12) (T := TX12) (N := 54) (k := 32) (v := .int v_71) G0 hw in_X12_winterOf_X12 rfl hr_274 (by decide) (by decide +kernel) rfl dX12_winterOf_135 ?_
                have jn_149 : ∀ (v_277 : Int32) (H_j149 : Heap) (locs : List Loc) (ls : Array Slot), py_W E (va_A (va_pl L f) s.heap.size) s L_266 f_267 H_j149 locs → lv_has ls 9 [(7, .int x_54), (6, .int v_56), (5, .int x_54), (0, .ref u), (1, .int a), (2, .int b), (3, .int q), (4, .int d)] → W p l e (headSpec w_X12_winterOf ({ frames := 6, cells := 0, slots := 0, locals := 147 })).room s m ([.ref u, .int a, .int b, .int q, .int d] : List Value).toArray below meth c H_j149 locs 0 0 (MQ below (py_Qv E L f s.heap.size (fun L1 f1 => WF E G L1 f1 ∧ KP G [55, 48, 49, 13] false f f1 ∧ FK [30] f f1 u)) ([.ref u, .int a, .int b, .int q, .int d] : List Value).toArray s 0 0 (va_A (va_pl L f) s.heap.size)) (F0 m 149 ls [.int v_277]) := by
                  intro v_277 H_j149 locs ls hw hl
                  refine lv_istore (lv' := [(7, .int v_277), (6, .int v_56), (5, .int x_54), (0, .ref u), (1, .int a), (2, .int b), (3, .int q), (4, .int d)]) G0.1 G0.2.1 dX12_winterOf_149 hl (by decide) rfl (fun ls hl => ?_)
                  exact jn_151 v_277 L_266 f_267 _ _ ls hWF hKP hLW hFK (by first | omega | (intros; omega)) hw (lv_sub hl [0, 1, 2, 3, 4, 5, 6, 7] rfl)
                refine lv_icmp_ge (tgt := 148) G0.1 G0.2.1 dX12_winterOf_138 (by decide) (fun c_278 => ?_) (fun c_278 => ?_)
                · skip
                  have tc_278 := ti_le c_278
                  refine lv_iconst (v := 0) G0.1 G0.2.1 dX12_winterOf_148 (by decide) ?_
                  exact jn_149 0 _ _ ls hw (lv_sub hl [0, 1, 2, 3, 4, 5, 6, 7] rfl)
                · skip
                  have tc_278 := ti_nle c_278
                  refine lv_iconst (v := 2) G0.1 G0.2.1 dX12_winterOf_141 (by decide) ?_
                  refine lv_iload G0.1 G0.2.1 dX12_winterOf_142 (lv_at hl 2 rfl) ?_
                  refine lv_imul G0.1 G0.2.1 dX12_winterOf_144 ?_
                  refine lv_topi (fun x_279 ex_279 => ?_)
                  first | have tx_279 := ti_muld ex_279 kc2 (by omega -splitDisjunctions) (by omega -splitDisjunctions) | skip
                  refine lv_goto (tgt := 149) G0.1 G0.2.1 dX12_winterOf_145 (by decide) ?_
                  exact jn_149 x_279 _ _ ls hw (lv_sub hl [0, 1, 2, 3, 4, 5, 6, 7] rfl)
          · skip
            have tc_99 := ti_nle c_99
            refine lv_iload G0.1 G0.2.1 dX12_winterOf_70 (lv_at hl 1 rfl) ?_
            refine lv_aload_n G0.1 G0.2.1 dX12_winterOf_72 rfl (lv_at hl 3 rfl) ?_
            refine lv_bipush (v := 100) G0.1 G0.2.1 dX12_winterOf_73 (by decide) ?_
            refine py_calli hw (va_runV (As := [.int 100]) (rest := [.int v_56]) G0 (c_X12_draw l E G L_j59 f_j59 H_94.size u 100 hG hWF Tu (show (100 : Int32).toInt ≠ 0 by omega)) (cwV 1 G0.2.2.2.2 g_X12_winterOf_X12_draw_368 rfl rfl rfl (by decide +kernel) ⟨(Nat.le_of_ble_eq_true rfl), (Nat.le_of_ble_eq_true rfl)⟩) (py_preV hw (C := RX12) (T := TX12) (N := 54) rfl hr_91) rfl rfl hl.1 rfl (lv_room (Nat.le_of_ble_eq_true rfl)) dX12_winterOf_75 ⟨(Nat.le_of_ble_eq_true rfl), (Nat.le_of_ble_eq_true rfl)⟩) (fun r_284 L_280 f_281 H_282 locs hp_283 hw => ?_)
            obtain ⟨hWF, kp_285, fk_286⟩ := hp_283
            have hLW := fun hy => (hLW hy).kp hG Tu kp_285 (LK.of (by decide))
            have hFK := hFK.trans fk_286 (by decide)
            have hKP := hKP.trans kp_285 (by decide) (by decide)
            obtain ⟨v_287, hr_288⟩ := fk_30 hWF Tu fk_286 hr_91
            have nk_289 : nw f_281 G u a.toInt 0 = nw f_j59 G u a.toInt 0 := arz_kp (kp_f kp_285 (wt12_26 hG Tu) (by decide) (by decide) (fun _ => by decide)) _
            have nk_290 : nw f_281 G u a.toInt 1 = nw f_j59 G u a.toInt 1 := arz_kp (kp_f kp_285 (wt12_26 hG Tu) (by decide) (by decide) (fun _ => by decide)) _
            have br_284 := wf_free r_284
            refine lv_aload_n G0.1 G0.2.1 dX12_winterOf_78 rfl (lv_at hl 3 rfl) ?_
            refine lv_aload_n G0.1 G0.2.1 dX12_winterOf_79 rfl (lv_at hl 3 rfl) ?_
            refine lv_iload_n G0.1 G0.2.1 dX12_winterOf_80 rfl (lv_at hl 4 rfl) ?_
            refine lv_iconst (v := 1) G0.1 G0.2.1 dX12_winterOf_81 (by decide) ?_
            refine py_calli hw (va_runV (As := [.int a, .int 1]) (rest := [.ref u, .int r_284, .int v_56]) G0 (c_X12_of l E G L_280 f_281 H_282.size u a 1 hG hWF Tu ⟨by omega, by omega⟩ ⟨by omega, by omega⟩) (cwV 2 G0.2.2.2.2 g_X12_winterOf_X12_of_287 rfl rfl rfl (by decide +kernel) ⟨(Nat.le_of_ble_eq_true rfl), (Nat.le_of_ble_eq_true rfl)⟩) (py_preV hw (C := RX12) (T := TX12) (N := 54) rfl hr_288) rfl rfl hl.1 rfl (lv_room (Nat.le_of_ble_eq_true rfl)) dX12_winterOf_82 ⟨(Nat.le_of_ble_eq_true rfl), (Nat.le_of_ble_eq_true rfl)⟩) (fun r_295 L_291 f_292 H_293 locs hp_294 hw => ?_)
            obtain ⟨en_296, en_297, rfl, rfl⟩ := hp_294
            have en_296 : r_295.toInt = nw f_281 G u a.toInt (1 : Int) := en_296
            have en_297 : -1 ≤ r_295.toInt ∧ r_295.toInt ≤ 7 := (show ((1 : Int) = 0 → 0 ≤ r_295.toInt ∧ r_295.toInt ≤ 20) ∧ ((1 : Int) = 1 → -1 ≤ r_295.toInt ∧ r_295.toInt ≤ 7) from en_297).2 rfl
            have br_295 := wf_free r_295
            refine lv_iconst (v := 2) G0.1 G0.2.1 dX12_winterOf_85 (by decide) ?_
            refine py_calli hw (va_runV (As := [.int r_295, .int 2]) (rest := [.int r_284, .int v_56]) G0 (c_X12_levelOf l E G L_280 f_281 H_293.size u r_295 2 hG hWF Tu ⟨by omega, by omega⟩ ⟨by omega, by omega⟩) (cwV 2 G0.2.2.2.2 g_X12_winterOf_X12_levelOf_293 rfl rfl rfl (by decide +kernel) ⟨(Nat.le_of_ble_eq_true rfl), (Nat.le_of_ble_eq_true rfl)⟩) (py_preV hw (C := RX12) (T := TX12) (N := 54) rfl hr_288) rfl rfl hl.1 rfl (lv_room (Nat.le_of_ble_eq_true rfl)) dX12_winterOf_86 ⟨(Nat.le_of_ble_eq_true rfl), (Nat.le_of_ble_eq_true rfl)⟩) (fun r_302 L_298 f_299 H_300 locs hp_301 hw => ?_)
            obtain ⟨en_303, rfl, rfl⟩ := hp_301
            have en_303 : r_302.toInt = lr f_281 G u r_295.toInt (2 : Int) := en_303
            have br_302 := wf_free r_302
            refine lv_iload_n G0.1 G0.2.1 dX12_winterOf_89 rfl (lv_at hl 5 rfl) ?_
            refine lv_iadd G0.1 G0.2.1 dX12_winterOf_90 ?_
            refine lv_topi (fun x_304 ex_304 => ?_)
            first | have tx_304 := ti_add ex_304 (by omega -splitDisjunctions) (by omega -splitDisjunctions) | skip
            have jn_99 : ∀ (v_305 : Int32) (H_j99 : Heap) (locs : List Loc) (ls : Array Slot), (0 ≤ v_305.toInt ∧ v_305.toInt ≤ 1) → py_W E (va_A (va_pl L f) s.heap.size) s L_280 f_281 H_j99 locs → lv_has ls 9 [(7, .int v_55), (6, .int v_56), (5, .int x_54), (0, .ref u), (1, .int a), (2, .int b), (3, .int q), (4, .int d)] → W p l e (headSpec w_X12_winterOf ({ frames := 6, cells := 0, slots := 0, locals := 147 })).room s m ([.ref u, .int a, .int b, .int q, .int d] : List Value).toArray below meth c H_j99 locs 0 0 (MQ below (py_Qv E L f s.heap.size (fun L1 f1 => WF E G L1 f1 ∧ KP G [55, 48, 49, 13] false f f1 ∧ FK [30] f f1 u)) ([.ref u, .int a, .int b, .int q, .int d] : List Value).toArray s 0 0 (va_A (va_pl L f) s.heap.size)) (F0 m 99 ls [.int v_305, .int v_56]) := by
              intro v_305 H_j99 locs ls bv_305 hw hl
              refine lv_iadd G0.1 G0.2.1 dX12_winterOf_99 ?_
              refine lv_topi (fun x_306 ex_306 => ?_)
              first | have tx_306 := ti_add ex_306 (by omega -splitDisjunctions) (by omega -splitDisjunctions) | skip
              refine lv_istore (lv' := [(6, .int x_306), (7, .int v_55), (5, .int x_54), (0, .ref u), (1, .int a), (2, .int b), (3, .int q), (4, .int d)]) G0.1 G0.2.1 dX12_winterOf_100 hl (by decide) rfl (fun ls hl => ?_)
              obtain ⟨x_307, ex_307⟩ : ∃ y : Int32, y = v_55 + 1 := ⟨_, rfl⟩
              first | have tx_307 := ti_add ex_307 (by omega -splitDisjunctions) (by omega -splitDisjunctions) | skip
              refine lv_iinc (v := x_307) (lv' := [(7, .int x_307), (6, .int x_306), (5, .int x_54), (0, .ref u), (1, .int a), (2, .int b), (3, .int q), (4, .int d)]) G0.1 G0.2.1 dX12_winterOf_102 hl (k := 1) rfl (show _ + (1 : Int32) = _ from ex_307.symm) (by decide) rfl (fun ls hl => ?_)
              refine lv_goto (tgt := 59) G0.1 G0.2.1 dX12_winterOf_105 (by decide) ?_
              exact ih_59 ((2147483647 - x_307.toInt).toNat) (by omega) x_307 x_306 L_280 f_281 _ _ ls rfl ⟨by omega, by omega⟩ ⟨by omega, by omega⟩ hWF hKP hLW hFK (by first | omega | (intros; omega)) (by first | omega | (intros; omega)) (by first | omega | (intros; omega)) hw (lv_sub hl [0, 1, 2, 3, 4, 5, 6, 7] rfl)
            refine lv_icmp_ge (tgt := 98) G0.1 G0.2.1 dX12_winterOf_91 (by decide) (fun c_308 => ?_) (fun c_308 => ?_)
            · skip
              have tc_308 := ti_le c_308
              refine lv_iconst (v := 0) G0.1 G0.2.1 dX12_winterOf_98 (by decide) ?_
              exact jn_99 0 _ _ ls ⟨by omega, by omega⟩ hw (lv_sub hl [0, 1, 2, 3, 4, 5, 6, 7] rfl)
            · skip
              have tc_308 := ti_nle c_308
              refine lv_iconst (v := 1) G0.1 G0.2.1 dX12_winterOf_94 (by decide) ?_
              refine lv_goto (tgt := 99) G0.1 G0.2.1 dX12_winterOf_95 (by decide) ?_
              exact jn_99 1 _ _ ls ⟨by omega, by omega⟩ hw (lv_sub hl [0, 1, 2, 3, 4, 5, 6, 7] rfl)
      exact lo_59 _ 0 0 L_j50 f_j50 _ _ ls rfl ⟨by omega, by omega⟩ ⟨by omega, by omega⟩ hWF hKP hLW hFK (by first | omega | (intros; omega)) (by first | omega | (intros; omega)) (by first | omega | (intros; omega)) hw (lv_sub hl [0, 1, 2, 3, 4, 5, 6, 7] rfl)
    refine lv_icmp_ne (tgt := 49) G0.1 G0.2.1 dX12_winterOf_27 (by decide) (fun c_309 => ?_) (fun c_309 => ?_)
    · skip
      have tc_309 := ti_ne c_309
      refine lv_iconst (v := 0) G0.1 G0.2.1 dX12_winterOf_49 (by decide) ?_
      exact jn_50 0 L_36 f_37 _ _ ls ⟨by omega, by omega⟩ hWF hKP hLW hFK (by first | omega | (intros; omega)) hw (lv_sub hl [0, 1, 2, 3, 4, 5] rfl)
    · skip
      have tc_309 := ti_eq c_309
      refine lv_aload_n G0.1 G0.2.1 dX12_winterOf_30 rfl (lv_at hl 1 rfl) ?_
      refine lv_bipush (v := 100) G0.1 G0.2.1 dX12_winterOf_31 (by decide) ?_
      refine py_calli hw (va_runV (As := [.int 100]) (rest := [.int v_52]) G0 (c_X12_draw l E G L_36 f_37 H_j20.size u 100 hG hWF Tu (show (100 : Int32).toInt ≠ 0 by omega)) (cwV 1 G0.2.2.2.2 g_X12_winterOf_X12_draw_368 rfl rfl rfl (by decide +kernel) ⟨(Nat.le_of_ble_eq_true rfl), (Nat.le_of_ble_eq_true rfl)⟩) (py_preV hw (C := RX12) (T := TX12) (N := 54) rfl hr_44) rfl rfl hl.1 rfl (lv_room (Nat.le_of_ble_eq_true rfl)) dX12_winterOf_33 ⟨(Nat.le_of_ble_eq_true rfl), (Nat.le_of_ble_eq_true rfl)⟩) (fun r_314 L_310 f_311 H_312 locs hp_313 hw => ?_)
      obtain ⟨hWF, kp_315, fk_316⟩ := hp_313
      have hLW := fun hy => (hLW hy).kp hG Tu kp_315 (LK.of (by decide))
      have hFK := hFK.trans fk_316 (by decide)
      have hKP := hKP.trans kp_315 (by decide) (by decide)
      obtain ⟨v_317, hr_318⟩ := fk_30 hWF Tu fk_316 hr_44
      have ha_48 := kp_at kp_315 hWF (wt12_22 hG Tu) (by decide) (by decide) (by decide) ha_48
      have nk_319 : nw f_311 G u a.toInt 0 = nw f_37 G u a.toInt 0 := arz_kp (kp_f kp_315 (wt12_26 hG Tu) (by decide) (by decide) (fun _ => by decide)) _
      have nk_320 : nw f_311 G u a.toInt 1 = nw f_37 G u a.toInt 1 := arz_kp (kp_f kp_315 (wt12_26 hG Tu) (by decide) (by decide) (fun _ => by decide)) _
      have br_314 := wf_free r_314
      refine lv_aload_n G0.1 G0.2.1 dX12_winterOf_36 rfl (lv_at hl 1 rfl) ?_
      refine py_get (C := RX12) (T := TX12) (N := 54) (k := 23) (v := .ref (G.2 u 23)) G0 hw in_X12_winterOf_X12 rfl hr_318 (by decide) (by decide +kernel) rfl dX12_winterOf_37 ?_
      refine lv_iload_n G0.1 G0.2.1 dX12_winterOf_40 rfl (lv_at hl 2 rfl) ?_
      obtain ⟨g_321, ha_322, hi_323⟩ := wf_arr (n := 10) (lo := (-2147483648)) (hi := 2147483647) hWF (wt12_23 hG Tu) (by decide) (fun _ => rfl)
      have rg_324 : vp_in a 10 := ti_in (by omega) (by omega)
      refine py_iald G0 hw ha_322 rg_324 dX12_winterOf_41 ?_
      refine lv_topi (fun x_325 ex_325 => ?_)
      have bx_325 := wf_free x_325
      refine lv_icmp_ge (tgt := 49) G0.1 G0.2.1 dX12_winterOf_42 (by decide) (fun c_326 => ?_) (fun c_326 => ?_)
      · skip
        have tc_326 := ti_le c_326
        refine lv_iconst (v := 0) G0.1 G0.2.1 dX12_winterOf_49 (by decide) ?_
        exact jn_50 0 L_310 f_311 _ _ ls ⟨by omega, by omega⟩ hWF hKP hLW hFK (by first | omega | (intros; omega)) hw (lv_sub hl [0, 1, 2, 3, 4, 5] rfl)
      · skip
        have tc_326 := ti_nle c_326
        refine lv_iconst (v := 1) G0.1 G0.2.1 dX12_winterOf_45 (by decide) ?_
        refine lv_goto (tgt := 50) G0.1 G0.2.1 dX12_winterOf_46 (by decide) ?_
        exact jn_50 1 L_310 f_311 _ _ ls ⟨by omega, by omega⟩ hWF hKP hLW hFK (by first | omega | (intros; omega)) hw (lv_sub hl [0, 1, 2, 3, 4, 5] rfl)
  refine lv_icmp_ge (tgt := 19) G0.1 G0.2.1 dX12_winterOf_12 (by decide) (fun c_327 => ?_) (fun c_327 => ?_)
  · skip
    have tc_327 := ti_le c_327
    refine lv_iconst (v := 0) G0.1 G0.2.1 dX12_winterOf_19 (by decide) ?_
    exact jn_20 0 _ _ ls ⟨by omega, by omega⟩ hw (lv_sub hl [0, 1, 2, 3, 4] rfl)
  · skip
    have tc_327 := ti_nle c_327
    refine lv_iconst (v := 1) G0.1 G0.2.1 dX12_winterOf_15 (by decide) ?_
    refine lv_goto (tgt := 20) G0.1 G0.2.1 dX12_winterOf_16 (by decide) ?_
    exact jn_20 1 _ _ ls ⟨by omega, by omega⟩ hw (lv_sub hl [0, 1, 2, 3, 4] rfl)

def w_X12_winter : List Cond := .code yX12_winter cX12_winter 4 none :: ([Cond.fieldLink RX12 302 "HeadYearModel" "levels" "I", Cond.fieldLink RX12 290 "HeadYearModel" "families" "I", Cond.methodLink RX12 379 yX12_springs, Cond.instanceMethod yX12_springs, Cond.selects RX12 yX12_springs yX12_springs, Cond.initialized RX12, Cond.methodLink RX12 341 yX12_isGone, Cond.instanceMethod yX12_isGone, Cond.selects RX12 yX12_isGone yX12_isGone, Cond.fieldLink RX12 74 "HeadYearModel" "lacks" "[I", Cond.methodLink RX12 287 yX12_of, Cond.instanceMethod yX12_of, Cond.selects RX12 yX12_of yX12_of, Cond.methodLink RX12 375 yX12_winterOf, Cond.instanceMethod yX12_winterOf, Cond.selects RX12 yX12_winterOf yX12_winterOf, Cond.methodLink RX12 336 yX12_lackAt, Cond.instanceMethod yX12_lackAt, Cond.selects RX12 yX12_lackAt yX12_lackAt] ++ (u_ws RX12 TX12 54 ++ (w_X12_springs ++ (w_X12_isGone ++ (w_X12_of ++ (w_X12_winterOf ++ (w_X12_lackAt ++ ([]))))))))
theorem in_X12_winter_X12 : ∀ w ∈ u_ws RX12 TX12 54, w ∈ w_X12_winter := fun _ h => List.mem_cons_of_mem _ (List.mem_append_right _ (List.mem_append_left _ h))
theorem gg_X12_winter_X12_springs : GoodIn w_X12_winter w_X12_springs := goodIn_sub (fun _ h => List.mem_cons_of_mem _ (List.mem_append_right _ (List.mem_append_right _ (List.mem_append_left _ h)))) (by decide +kernel)
theorem gg_X12_winter_X12_isGone : GoodIn w_X12_winter w_X12_isGone := goodIn_sub (fun _ h => List.mem_cons_of_mem _ (List.mem_append_right _ (List.mem_append_right _ (List.mem_append_right _ (List.mem_append_left _ h))))) (by decide +kernel)
theorem gg_X12_winter_X12_of : GoodIn w_X12_winter w_X12_of := goodIn_sub (fun _ h => List.mem_cons_of_mem _ (List.mem_append_right _ (List.mem_append_right _ (List.mem_append_right _ (List.mem_append_right _ (List.mem_append_left _ h)))))) (by decide +kernel)
theorem gg_X12_winter_X12_winterOf : GoodIn w_X12_winter w_X12_winterOf := goodIn_sub (fun _ h => List.mem_cons_of_mem _ (List.mem_append_right _ (List.mem_append_right _ (List.mem_append_right _ (List.mem_append_right _ (List.mem_append_right _ (List.mem_append_left _ h))))))) (by decide +kernel)
theorem gg_X12_winter_X12_lackAt : GoodIn w_X12_winter w_X12_lackAt := goodIn_sub (fun _ h => List.mem_cons_of_mem _ (List.mem_append_right _ (List.mem_append_right _ (List.mem_append_right _ (List.mem_append_right _ (List.mem_append_right _ (List.mem_append_right _ (List.mem_append_left _ h)))))))) (by decide +kernel)
theorem g_X12_winter_X12_isGone_341 : GoodIn w_X12_winter (wsV RX12 341 RX12 yX12_isGone w_X12_isGone) := goodIn_app (goodIn_of _ (by decide +kernel)) gg_X12_winter_X12_isGone
theorem g_X12_winter_X12_lackAt_336 : GoodIn w_X12_winter (wsV RX12 336 RX12 yX12_lackAt w_X12_lackAt) := goodIn_app (goodIn_of _ (by decide +kernel)) gg_X12_winter_X12_lackAt
theorem g_X12_winter_X12_of_287 : GoodIn w_X12_winter (wsV RX12 287 RX12 yX12_of w_X12_of) := goodIn_app (goodIn_of _ (by decide +kernel)) gg_X12_winter_X12_of
theorem g_X12_winter_X12_springs_379 : GoodIn w_X12_winter (wsV RX12 379 RX12 yX12_springs w_X12_springs) := goodIn_app (goodIn_of _ (by decide +kernel)) gg_X12_winter_X12_springs
theorem g_X12_winter_X12_winterOf_375 : GoodIn w_X12_winter (wsV RX12 375 RX12 yX12_winterOf w_X12_winterOf) := goodIn_app (goodIn_of _ (by decide +kernel)) gg_X12_winter_X12_winterOf
set_option maxHeartbeats 4000000 in
set_option maxRecDepth 100000 in
theorem c_X12_winter (l : Launch) (E : py_E) (G : wf_G) (L : List Nat) (f : py_F) (sz : Nat) (u : Nat) (a : Int32) (b : Int32) (hG : GT G) (hWF : WF E G L f) (Tu : G.1 u = 13) (Ba : ((-1) ≤ a.toInt ∧ a.toInt ≤ 3)) (hq0 : a.toInt ≠ -1 → LV f G u a.toInt) : Met l yX12_winter w_X12_winter ({ frames := 8, cells := 0, slots := 0, locals := 180 }) (py_Pc E [.ref u, .int a, .int b] L f sz) (py_Qv E L f sz (fun L1 f1 => WF E G L1 f1 ∧ KP G [58, 55, 48, 49, 59, 60, 13] false f f1 ∧ FK [30] f f1 u)) 0 0 (va_A (va_pl L f) sz) := by
  refine Met.ofW (cc := cX12_winter) (maxL := 4) (ret := none) (by decide) rfl ?_
  intro p e s m args below meth c s₁ B hml hv
  obtain ⟨rfl, rfl, hw⟩ := py_start hv
  have G0 : CallFix p m c cX12_winter 4 s _ w_X12_winter RX12 := ⟨B.exec, B.bytes, hml, findClass_of_methodNamed B.named, atoms_spec (ws := w_X12_winter) B.pre⟩
  have hr := B.returns
  have hlk := B.notSynchronized
  have kcm1 : (-1 : Int32).toInt = -1 := rfl
  have kc0 : (0 : Int32).toInt = 0 := rfl
  have kc1 : (1 : Int32).toInt = 1 := rfl
  have hl := lv_entry ([.ref u, .int a, .int b]) (n := 4) (Nat.le_of_ble_eq_true rfl)
  rw [lg_entry_eq]
  generalize (lg_sl ([.ref u, .int a, .int b]) ++ List.replicate (4 - (lg_sl ([.ref u, .int a, .int b])).length) Slot.unset).toArray = ls at hl ⊢
  have hl : lv_has ls 4 [(0, .ref u), (1, .int a), (2, .int b)] := hl
  have hFK : FK [30] f f u := FK.refl
  have hKP : KP G [58, 55, 48, 49, 59, 60, 13] false f f := KP.refl
  have hLW := hq0
  refine lv_iconst (v := 0) G0.1 G0.2.1 dX12_winter_0 (by decide) ?_
  refine lv_istore_n (lv' := [(3, .int 0), (0, .ref u), (1, .int a), (2, .int b)]) G0.1 G0.2.1 dX12_winter_1 rfl hl (by decide) rfl (fun ls hl => ?_)
  have lo_2 : ∀ n_2 : Nat, ∀ (v_1 : Int32) (L_j2 : List Nat) (f_j2 : py_F) (H_j2 : Heap) (locs : List Loc) (ls : Array Slot), (2147483647 - v_1.toInt).toNat = n_2 → (0 ≤ v_1.toInt ∧ v_1.toInt ≤ 2147483647) → WF E G L_j2 f_j2 → KP G [58, 55, 48, 49, 59, 60, 13] false f f_j2 → (a.toInt ≠ -1 → LV f_j2 G u a.toInt) → FK [30] f f_j2 u → py_W E (va_A (va_pl L f) s.heap.size) s L_j2 f_j2 H_j2 locs → lv_has ls 4 [(3, .int v_1), (0, .ref u), (1, .int a), (2, .int b)] → W p l e (headSpec w_X12_winter ({ frames := 8, cells := 0, slots := 0, locals := 180 })).room s m ([.ref u, .int a, .int b] : List Value).toArray below meth c H_j2 locs 0 0 (MQ below (py_Qv E L f s.heap.size (fun L1 f1 => WF E G L1 f1 ∧ KP G [58, 55, 48, 49, 59, 60, 13] false f f1 ∧ FK [30] f f1 u)) ([.ref u, .int a, .int b] : List Value).toArray s 0 0 (va_A (va_pl L f) s.heap.size)) (F0 m 2 ls []) := by
    intro n_2
    induction n_2 using Nat.strongRecOn with
    | _ n_2 ih_2 =>
      intro v_1 L_j2 f_j2 H_j2 locs ls hn_2 bv_1 hWF hKP hLW hFK hw hl
      refine lv_iload_n G0.1 G0.2.1 dX12_winter_2 rfl (lv_at hl 0 rfl) ?_
      refine lv_aload_n G0.1 G0.2.1 dX12_winter_3 rfl (lv_at hl 1 rfl) ?_
      obtain ⟨v_2, v_3, v_4, v_5, v_6, v_7, v_8, v_9, v_10, v_11, v_12, v_13, y_14, v_15, v_16, v_17, v_18, v_19, y_20, v_21, y_22, v_23, hr_36, b_24, b_25, b_26, b_27, b_28, b_29, b_30, b_31, b_32, b_33, b_34, b_35⟩ := wg_12 hWF Tu
      refine py_get (C := RX12) (T := TX12) (N := 54) (k := 24) (v := .int v_11) G0 hw in_X12_winter_X12 rfl hr_36 (by decide) (by decide +kernel) rfl dX12_winter_4 ?_
      refine lv_icmp_ge (tgt := 27) G0.1 G0.2.1 dX12_winter_7 (by decide) (fun c_37 => ?_) (fun c_37 => ?_)
      · skip
        have tc_37 := ti_le c_37
        refine lv_iconst (v := 0) G0.1 G0.2.1 dX12_winter_27 (by decide) ?_
        refine lv_istore_n (lv' := [(3, .int 0), (0, .ref u), (1, .int a), (2, .int b)]) G0.1 G0.2.1 dX12_winter_28 rfl hl (by decide) rfl (fun ls hl => ?_)
        have lo_29 : ∀ n_29 : Nat, ∀ (v_38 : Int32) (L_j29 : List Nat) (f_j29 : py_F) (H_j29 : Heap) (locs : List Loc) (ls : Array Slot), (2147483647 - v_38.toInt).toNat = n_29 → (0 ≤ v_38.toInt ∧ v_38.toInt ≤ 2147483647) → WF E G L_j29 f_j29 → KP G [58, 55, 48, 49, 59, 60, 13] false f f_j29 → (a.toInt ≠ -1 → LV f_j29 G u a.toInt) → FK [30] f f_j29 u → py_W E (va_A (va_pl L f) s.heap.size) s L_j29 f_j29 H_j29 locs → lv_has ls 4 [(3, .int v_38), (0, .ref u), (1, .int a), (2, .int b)] → W p l e (headSpec w_X12_winter ({ frames := 8, cells := 0, slots := 0, locals := 180 })).room s m ([.ref u, .int a, .int b] : List Value).toArray below meth c H_j29 locs 0 0 (MQ below (py_Qv E L f s.heap.size (fun L1 f1 => WF E G L1 f1 ∧ KP G [58, 55, 48, 49, 59, 60, 13] false f f1 ∧ FK [30] f f1 u)) ([.ref u, .int a, .int b] : List Value).toArray s 0 0 (va_A (va_pl L f) s.heap.size)) (F0 m 29 ls []) := by
          intro n_29
          induction n_29 using Nat.strongRecOn with
          | _ n_29 ih_29 =>
            intro v_38 L_j29 f_j29 H_j29 locs ls hn_29 bv_38 hWF hKP hLW hFK hw hl
            refine lv_iload_n G0.1 G0.2.1 dX12_winter_29 rfl (lv_at hl 0 rfl) ?_
            refine lv_aload_n G0.1 G0.2.1 dX12_winter_30 rfl (lv_at hl 1 rfl) ?_
            obtain ⟨v_39, v_40, v_41, v_42, v_43, v_44, v_45, v_46, v_47, v_48, v_49, v_50, y_51, v_52, v_53, v_54, v_55, v_56, y_57, v_58, y_59, v_60, hr_73, b_61, b_62, b_63, b_64, b_65, b_66, b_67, b_68, b_69, b_70, b_71, b_72⟩ := wg_12 hWF Tu
            refine py_get (C := RX12) (T := TX12) (N := 54) (k := 25) (v := .int v_49) G0 hw in_X12_winter_X12 rfl hr_73 (by decide) (by decide +kernel) rfl dX12_winter_31 ?_
            refine lv_icmp_ge (tgt := 69) G0.1 G0.2.1 dX12_winter_34 (by decide) (fun c_74 => ?_) (fun c_74 => ?_)
            · skip
              have tc_74 := ti_le c_74
              refine lv_aload_n G0.1 G0.2.1 dX12_winter_69 rfl (lv_at hl 1 rfl) ?_
              refine py_calli hw (va_runV (As := []) (rest := []) G0 (c_X12_springs l E G L_j29 f_j29 H_j29.size u hG hWF Tu) (cwV 0 G0.2.2.2.2 g_X12_winter_X12_springs_379 rfl rfl rfl (by decide +kernel) ⟨(Nat.le_of_ble_eq_true rfl), (Nat.le_of_ble_eq_true rfl)⟩) (py_preV hw (C := RX12) (T := TX12) (N := 54) rfl hr_73) rfl rfl hl.1 rfl (lv_room (Nat.le_of_ble_eq_true rfl)) dX12_winter_70 ⟨(Nat.le_of_ble_eq_true rfl), (Nat.le_of_ble_eq_true rfl)⟩) (fun r_79 L_75 f_76 H_77 locs hp_78 hw => ?_)
              obtain ⟨hWF, kp_80, fk_81⟩ := hp_78
              have hLW := fun hy => (hLW hy).kp hG Tu kp_80 (LK.of (by decide))
              have hFK := hFK.trans fk_81 (by decide)
              have hKP := hKP.trans kp_80 (by decide) (by decide)
              obtain ⟨v_82, hr_83⟩ := fk_30 hWF Tu fk_81 hr_73
              have br_79 := wf_free r_79
              refine lv_pop G0.1 G0.2.1 dX12_winter_73 rfl ?_
              exact py_vret G0 hr hlk hw ⟨hWF, hKP, hFK⟩ dX12_winter_74
            · skip
              have tc_74 := ti_nle c_74
              refine lv_aload_n G0.1 G0.2.1 dX12_winter_37 rfl (lv_at hl 1 rfl) ?_
              refine lv_iload_n G0.1 G0.2.1 dX12_winter_38 rfl (lv_at hl 0 rfl) ?_
              refine py_calli hw (va_runV (As := [.int v_38]) (rest := []) G0 (c_X12_isGone l E G L_j29 f_j29 H_j29.size u v_38 hG hWF Tu ⟨by omega, by omega⟩) (cwV 1 G0.2.2.2.2 g_X12_winter_X12_isGone_341 rfl rfl rfl (by decide +kernel) ⟨(Nat.le_of_ble_eq_true rfl), (Nat.le_of_ble_eq_true rfl)⟩) (py_preV hw (C := RX12) (T := TX12) (N := 54) rfl hr_73) rfl rfl hl.1 rfl (lv_room (Nat.le_of_ble_eq_true rfl)) dX12_winter_39 ⟨(Nat.le_of_ble_eq_true rfl), (Nat.le_of_ble_eq_true rfl)⟩) (fun r_88 L_84 f_85 H_86 locs hp_87 hw => ?_)
              obtain ⟨b_91, en_89, en_90, rfl, rfl⟩ := hp_87
              refine lv_if_ne (tgt := 63) G0.1 G0.2.1 dX12_winter_42 (by decide) (fun c_92 => ?_) (fun c_92 => ?_)
              · skip
                have tc_92 := ti_ne c_92
                replace en_89 := en_89 (by omega)
                clear en_90
                obtain ⟨x_93, ex_93⟩ : ∃ y : Int32, y = v_38 + 1 := ⟨_, rfl⟩
                first | have tx_93 := ti_add ex_93 (by omega -splitDisjunctions) (by omega -splitDisjunctions) | skip
                refine lv_iinc (v := x_93) (lv' := [(3, .int x_93), (0, .ref u), (1, .int a), (2, .int b)]) G0.1 G0.2.1 dX12_winter_63 hl (k := 0) rfl (show _ + (1 : Int32) = _ from ex_93.symm) (by decide) rfl (fun ls hl => ?_)
                refine lv_goto (tgt := 29) G0.1 G0.2.1 dX12_winter_66 (by decide) ?_
                exact ih_29 ((2147483647 - x_93.toInt).toNat) (by omega) x_93 L_j29 f_j29 _ _ ls rfl ⟨by omega, by omega⟩ hWF hKP hLW hFK hw (lv_sub hl [0, 1, 2, 3] rfl)
              · skip
                have tc_92 := ti_eq c_92
                clear en_89
                replace en_90 := en_90 (by omega)
                refine lv_aload_n G0.1 G0.2.1 dX12_winter_45 rfl (lv_at hl 1 rfl) ?_
                refine lv_iload_n G0.1 G0.2.1 dX12_winter_46 rfl (lv_at hl 0 rfl) ?_
                refine lv_aload_n G0.1 G0.2.1 dX12_winter_47 rfl (lv_at hl 1 rfl) ?_
                refine py_get (C := RX12) (T := TX12) (N := 54) (k := 35) (v := .ref (G.2 u 35)) G0 hw in_X12_winter_X12 rfl hr_73 (by decide) (by decide +kernel) rfl dX12_winter_48 ?_
                refine lv_aload_n G0.1 G0.2.1 dX12_winter_51 rfl (lv_at hl 1 rfl) ?_
                refine lv_iload_n G0.1 G0.2.1 dX12_winter_52 rfl (lv_at hl 0 rfl) ?_
                refine lv_iconst (v := 1) G0.1 G0.2.1 dX12_winter_53 (by decide) ?_
                refine py_calli hw (va_runV (As := [.int v_38, .int 1]) (rest := [.ref (G.2 u 35), .int v_38, .ref u]) G0 (c_X12_of l E G L_j29 f_j29 H_86.size u v_38 1 hG hWF Tu ⟨by omega, by omega⟩ ⟨by omega, by omega⟩) (cwV 2 G0.2.2.2.2 g_X12_winter_X12_of_287 rfl rfl rfl (by decide +kernel) ⟨(Nat.le_of_ble_eq_true rfl), (Nat.le_of_ble_eq_true rfl)⟩) (py_preV hw (C := RX12) (T := TX12) (N := 54) rfl hr_73) rfl rfl hl.1 rfl (lv_room (Nat.le_of_ble_eq_true rfl)) dX12_winter_54 ⟨(Nat.le_of_ble_eq_true rfl), (Nat.le_of_ble_eq_true rfl)⟩) (fun r_98 L_94 f_95 H_96 locs hp_97 hw => ?_)
                obtain ⟨en_99, en_100, rfl, rfl⟩ := hp_97
                have en_99 : r_98.toInt = nw f_j29 G u v_38.toInt (1 : Int) := en_99
                have en_100 : ((1 : Int) = 0 → 0 ≤ r_98.toInt ∧ r_98.toInt ≤ 20) ∧ ((1 : Int) = 1 → -1 ≤ r_98.toInt ∧ r_98.toInt ≤ 7) := en_100
                have br_98 := wf_free r_98
                obtain ⟨g_101, ha_102, hi_103⟩ := wf_arr (n := 8) (lo := (-2147483648)) (hi := 2147483647) hWF (wt12_35 hG Tu) (by decide) (fun _ => rfl)
                have rg_104 : vp_in r_98 8 := ti_in (by omega) (by omega)
                refine py_iald G0 hw ha_102 rg_104 dX12_winter_57 ?_
                refine lv_topi (fun x_105 ex_105 => ?_)
                have bx_105 := wf_free x_105
                refine lv_iload_n G0.1 G0.2.1 dX12_winter_58 rfl (lv_at hl 2 rfl) ?_
                refine lv_iload_n G0.1 G0.2.1 dX12_winter_59 rfl (lv_at hl 3 rfl) ?_
                refine py_callv hw (va_runV (As := [.int v_38, .int x_105, .int a, .int b]) (rest := []) G0 (c_X12_winterOf l E G L_j29 f_j29 H_96.size u v_38 x_105 a b hG hWF Tu ⟨by omega, by omega⟩ ⟨by omega, by omega⟩ (show 0 ≤ nw f_j29 G u v_38.toInt 1 by omega) hLW) (cwV 4 G0.2.2.2.2 g_X12_winter_X12_winterOf_375 rfl rfl rfl (by decide +kernel) ⟨(Nat.le_of_ble_eq_true rfl), (Nat.le_of_ble_eq_true rfl)⟩) (py_preV hw (C := RX12) (T := TX12) (N := 54) rfl hr_73) rfl rfl hl.1 rfl (lv_room (Nat.le_of_ble_eq_true rfl)) dX12_winter_60 ⟨(Nat.le_of_ble_eq_true rfl), (Nat.le_of_ble_eq_true rfl)⟩) (fun L_106 f_107 H_108 locs hp_109 hw => ?_)
                obtain ⟨hWF, kp_111, fk_112⟩ := hp_109
                have hLW := fun hy => (hLW hy).kp hG Tu kp_111 (LK.of (by decide))
                have hFK := hFK.trans fk_112 (by decide)
                have hKP := hKP.trans kp_111 (by decide) (by decide)
                obtain ⟨v_113, hr_114⟩ := fk_30 hWF Tu fk_112 hr_73
                have ha_102 := kp_at kp_111 hWF (wt12_35 hG Tu) (by decide) (by decide) (by decide) ha_102
                obtain ⟨x_115, ex_115⟩ : ∃ y : Int32, y = v_38 + 1 := ⟨_, rfl⟩
                first | have tx_115 := ti_add ex_115 (by omega -splitDisjunctions) (by omega -splitDisjunctions) | skip
                refine lv_iinc (v := x_115) (lv' := [(3, .int x_115), (0, .ref u), (1, .int a), (2, .int b)]) G0.1 G0.2.1 dX12_winter_63 hl (k := 0) rfl (show _ + (1 : Int32) = _ from ex_115.symm) (by decide) rfl (fun ls hl => ?_)
                refine lv_goto (tgt := 29) G0.1 G0.2.1 dX12_winter_66 (by decide) ?_
                exact ih_29 ((2147483647 - x_115.toInt).toNat) (by omega) x_115 L_106 f_107 _ _ ls rfl ⟨by omega, by omega⟩ hWF hKP hLW hFK hw (lv_sub hl [0, 1, 2, 3] rfl)
        exact lo_29 _ 0 L_j2 f_j2 _ _ ls rfl ⟨by omega, by omega⟩ hWF hKP hLW hFK hw (lv_sub hl [0, 1, 2, 3] rfl)
      · skip
        have tc_37 := ti_nle c_37
        refine lv_aload_n G0.1 G0.2.1 dX12_winter_10 rfl (lv_at hl 1 rfl) ?_
        refine py_get (C := RX12) (T := TX12) (N := 54) (k := 35) (v := .ref (G.2 u 35)) G0 hw in_X12_winter_X12 rfl hr_36 (by decide) (by decide +kernel) rfl dX12_winter_11 ?_
        refine lv_iload_n G0.1 G0.2.1 dX12_winter_14 rfl (lv_at hl 0 rfl) ?_
        refine lv_aload_n G0.1 G0.2.1 dX12_winter_15 rfl (lv_at hl 1 rfl) ?_
        refine lv_iload_n G0.1 G0.2.1 dX12_winter_16 rfl (lv_at hl 0 rfl) ?_
        refine py_calli hw (va_runV (As := [.int v_1]) (rest := [.int v_1, .ref (G.2 u 35)]) G0 (c_X12_lackAt l E G L_j2 f_j2 H_j2.size u v_1 hG hWF Tu ⟨by omega, by omega⟩) (cwV 1 G0.2.2.2.2 g_X12_winter_X12_lackAt_336 rfl rfl rfl (by decide +kernel) ⟨(Nat.le_of_ble_eq_true rfl), (Nat.le_of_ble_eq_true rfl)⟩) (py_preV hw (C := RX12) (T := TX12) (N := 54) rfl hr_36) rfl rfl hl.1 rfl (lv_room (Nat.le_of_ble_eq_true rfl)) dX12_winter_17 ⟨(Nat.le_of_ble_eq_true rfl), (Nat.le_of_ble_eq_true rfl)⟩) (fun r_120 L_116 f_117 H_118 locs hp_119 hw => ?_)
        obtain ⟨rfl, rfl⟩ := hp_119
        have br_120 := wf_free r_120
        obtain ⟨g_121, ha_122, hi_123⟩ := wf_arr (n := 8) (lo := (-2147483648)) (hi := 2147483647) hWF (wt12_35 hG Tu) (by decide) (fun _ => rfl)
        have rg_124 : vp_in v_1 8 := ti_in (by omega) (by omega)
        refine py_iast G0 hw ha_122 rg_124 dX12_winter_20 (fun f_125 H_126 locs h_127 x_128 hw => ?_)
        have hLW := fun hy => (hLW hy).kp hG Tu (KP.refl.upd hWF x_128 (wt12_35 hG Tu) (Or.inl (by decide)) : KP G [58] false f_j2 f_125) (LK.of (by decide))
        have hFK := hFK.same ((x_128 _ (hWF _ (by rw [Tu]; decide)).1 (wf_ne Tu (wt12_35 hG Tu) (by decide))).2)
        have hKP := hKP.upd hWF x_128 (wt12_35 hG Tu) (Or.inl (by decide))
        have hi_129 := wf_inu (k := (v_1 : Int32).toNatClampNeg) (x := r_120) hi_123 (wf_free r_120).1 (wf_free r_120).2
        have hWF := wf_upd hWF h_127 x_128 (by rw [(wt12_35 hG Tu)]; exact ⟨_, rfl, hi_129⟩)
        have hr_36 := hr_36.ext x_128 (py_ne_arr hr_36 ha_122)
        obtain ⟨x_130, ex_130⟩ : ∃ y : Int32, y = v_1 + 1 := ⟨_, rfl⟩
        first | have tx_130 := ti_add ex_130 (by omega -splitDisjunctions) (by omega -splitDisjunctions) | skip
        refine lv_iinc (v := x_130) (lv' := [(3, .int x_130), (0, .ref u), (1, .int a), (2, .int b)]) G0.1 G0.2.1 dX12_winter_21 hl (k := 0) rfl (show _ + (1 : Int32) = _ from ex_130.symm) (by decide) rfl (fun ls hl => ?_)
        refine lv_goto (tgt := 2) G0.1 G0.2.1 dX12_winter_24 (by decide) ?_
        exact ih_2 ((2147483647 - x_130.toInt).toNat) (by omega) x_130 L_j2 f_125 _ _ ls rfl ⟨by omega, by omega⟩ hWF hKP hLW hFK hw (lv_sub hl [0, 1, 2, 3] rfl)
  exact lo_2 _ 0 L f _ _ ls rfl ⟨by omega, by omega⟩ hWF hKP hLW hFK hw (lv_sub hl [0, 1, 2, 3] rfl)

def w_X12_winters : List Cond := .code yX12_winters cX12_winters 4 (some .int) :: ([Cond.fieldLink RX12 290 "HeadYearModel" "families" "I", Cond.methodLink RX12 232 yX12_in, Cond.static yX12_in, Cond.initialized RX12, Cond.fieldLink RX12 309 "HeadYearModel" "years" "I", Cond.fieldLink RX12 312 "HeadYearModel" "buys" "I", Cond.methodLink RX12 408 yX12_headsOfAll, Cond.instanceMethod yX12_headsOfAll, Cond.selects RX12 yX12_headsOfAll yX12_headsOfAll, Cond.fieldLink RX12 64 "HeadYearModel" "holding" "I", Cond.methodLink RX12 405 yX12_winter, Cond.instanceMethod yX12_winter, Cond.selects RX12 yX12_winter yX12_winter, Cond.fieldLink RX12 83 "HeadYearModel" "diaryLevel" "[I", Cond.methodLink RX12 287 yX12_of, Cond.instanceMethod yX12_of, Cond.selects RX12 yX12_of yX12_of, Cond.fieldLink RX12 86 "HeadYearModel" "diaryHeads" "[I"] ++ (u_ws RX12 TX12 54 ++ (w_X12_in ++ (w_X12_headsOfAll ++ (w_X12_winter ++ (w_X12_of ++ ([])))))))
theorem in_X12_winters_X12 : ∀ w ∈ u_ws RX12 TX12 54, w ∈ w_X12_winters := fun _ h => List.mem_cons_of_mem _ (List.mem_append_right _ (List.mem_append_left _ h))
theorem gg_X12_winters_X12_in : GoodIn w_X12_winters w_X12_in := goodIn_sub (fun _ h => List.mem_cons_of_mem _ (List.mem_append_right _ (List.mem_append_right _ (List.mem_append_left _ h)))) (by decide +kernel)
theorem gg_X12_winters_X12_headsOfAll : GoodIn w_X12_winters w_X12_headsOfAll := goodIn_sub (fun _ h => List.mem_cons_of_mem _ (List.mem_append_right _ (List.mem_append_right _ (List.mem_append_right _ (List.mem_append_left _ h))))) (by decide +kernel)
theorem gg_X12_winters_X12_winter : GoodIn w_X12_winters w_X12_winter := goodIn_sub (fun _ h => List.mem_cons_of_mem _ (List.mem_append_right _ (List.mem_append_right _ (List.mem_append_right _ (List.mem_append_right _ (List.mem_append_left _ h)))))) (by decide +kernel)
theorem gg_X12_winters_X12_of : GoodIn w_X12_winters w_X12_of := goodIn_sub (fun _ h => List.mem_cons_of_mem _ (List.mem_append_right _ (List.mem_append_right _ (List.mem_append_right _ (List.mem_append_right _ (List.mem_append_right _ (List.mem_append_left _ h))))))) (by decide +kernel)
theorem g_X12_winters_X12_headsOfAll_408 : GoodIn w_X12_winters (wsV RX12 408 RX12 yX12_headsOfAll w_X12_headsOfAll) := goodIn_app (goodIn_of _ (by decide +kernel)) gg_X12_winters_X12_headsOfAll
theorem g_X12_winters_X12_in_232 : GoodIn w_X12_winters (va_wsS RX12 232 yX12_in w_X12_in) := goodIn_app (goodIn_of _ (by decide +kernel)) gg_X12_winters_X12_in
theorem g_X12_winters_X12_of_287 : GoodIn w_X12_winters (wsV RX12 287 RX12 yX12_of w_X12_of) := goodIn_app (goodIn_of _ (by decide +kernel)) gg_X12_winters_X12_of
theorem g_X12_winters_X12_winter_405 : GoodIn w_X12_winters (wsV RX12 405 RX12 yX12_winter w_X12_winter) := goodIn_app (goodIn_of _ (by decide +kernel)) gg_X12_winters_X12_winter
set_option maxHeartbeats 4000000 in
set_option maxRecDepth 100000 in
theorem c_X12_winters (l : Launch) (E : py_E) (G : wf_G) (L : List Nat) (f : py_F) (sz : Nat) (u : Nat) (a : Int32) (hG : GT G) (hWF : WF E G L f) (Tu : G.1 u = 13) (hq0 : GM f G u) : Met l yX12_winters w_X12_winters ({ frames := 9, cells := 0, slots := 0, locals := 203 }) (py_Pc E [.ref u, .int a] L f sz) (py_Qi E L f sz (fun _ L1 f1 => (((mi f u 25 = 0 ∨ a.toInt < 1 ∨ 9 < a.toInt ∨ 60 < mi f u 29 + a.toInt) ∧ mi f1 u 29 = mi f u 29) ∨ (mi f u 25 ≠ 0 ∧ 1 ≤ a.toInt ∧ a.toInt ≤ 9 ∧ mi f u 29 + a.toInt ≤ 60 ∧ mi f1 u 29 = mi f u 29 + a.toInt)) ∧ WF E G L1 f1 ∧ KP G [58, 55, 48, 49, 59, 60, 61, 62, 13] false f f1 ∧ FK [29, 30, 43] f f1 u)) 0 0 (va_A (va_pl L f) sz) := by
  refine Met.ofW (cc := cX12_winters) (maxL := 4) (ret := (some .int)) (by decide) rfl ?_
  intro p e s m args below meth c s₁ B hml hv
  obtain ⟨rfl, rfl, hw⟩ := py_start hv
  have G0 : CallFix p m c cX12_winters 4 s _ w_X12_winters RX12 := ⟨B.exec, B.bytes, hml, findClass_of_methodNamed B.named, atoms_spec (ws := w_X12_winters) B.pre⟩
  have hr := B.returns
  have hlk := B.notSynchronized
  have kcm1 : (-1 : Int32).toInt = -1 := rfl
  have kc0 : (0 : Int32).toInt = 0 := rfl
  have kc1 : (1 : Int32).toInt = 1 := rfl
  have kc9 : (9 : Int32).toInt = 9 := rfl
  have kc10 : (10 : Int32).toInt = 10 := rfl
  have kc60 : (60 : Int32).toInt = 60 := rfl
  have hl := lv_entry ([.ref u, .int a]) (n := 4) (Nat.le_of_ble_eq_true rfl)
  rw [lg_entry_eq]
  generalize (lg_sl ([.ref u, .int a]) ++ List.replicate (4 - (lg_sl ([.ref u, .int a])).length) Slot.unset).toArray = ls at hl ⊢
  have hl : lv_has ls 4 [(0, .ref u), (1, .int a)] := hl
  have hFK : FK [29, 30, 43] f f u := FK.refl
  have hKP : KP G [58, 55, 48, 49, 59, 60, 61, 62, 13] false f f := KP.refl
  have hGM := hq0
  refine lv_aload_n G0.1 G0.2.1 dX12_winters_0 rfl (lv_at hl 0 rfl) ?_
  obtain ⟨v_1, v_2, v_3, v_4, v_5, v_6, v_7, v_8, v_9, v_10, v_11, v_12, y_13, v_14, v_15, v_16, v_17, v_18, y_19, v_20, y_21, v_22, hr_35, b_23, b_24, b_25, b_26, b_27, b_28, b_29, b_30, b_31, b_32, b_33, b_34⟩ := wg_12 hWF Tu
  have tq_36 := mi_row hr_35 25 rfl
  have tq_37 := mi_row hr_35 29 rfl
  refine py_get (C := RX12) (T := TX12) (N := 54) (k := 25) (v := .int v_11) G0 hw in_X12_winters_X12 rfl hr_35 (by decide) (by decide +kernel) rfl dX12_winters_1 ?_
  refine lv_if_eq (tgt := 28) G0.1 G0.2.1 dX12_winters_4 (by decide) (fun c_38 => ?_) (fun c_38 => ?_)
  · skip
    have tc_38 := ti_eq c_38
    refine lv_iconst (v := (-1)) G0.1 G0.2.1 dX12_winters_28 (by decide) ?_
    exact py_iret G0 hr rfl hlk hw ⟨(by first | omega | (intro q; omega)), hWF, hKP, hFK⟩ dX12_winters_29
  · skip
    have tc_38 := ti_ne c_38
    refine lv_iload_n G0.1 G0.2.1 dX12_winters_7 rfl (lv_at hl 1 rfl) ?_
    refine lv_iconst (v := 1) G0.1 G0.2.1 dX12_winters_8 (by decide) ?_
    refine lv_bipush (v := 9) G0.1 G0.2.1 dX12_winters_9 (by decide) ?_
    refine py_calli hw (va_runS (As := [.int a, .int 1, .int 9]) (rest := []) G0 (c_X12_in l E G L f s.heap.size a 1 9 hG hWF) (va_cwS 3 G0.2.2.2.2 g_X12_winters_X12_in_232 rfl rfl rfl (by decide +kernel) ⟨(Nat.le_of_ble_eq_true rfl), (Nat.le_of_ble_eq_true rfl)⟩) (py_preS hw) rfl rfl hl.1 rfl (lv_room (Nat.le_of_ble_eq_true rfl)) dX12_winters_11 ⟨(Nat.le_of_ble_eq_true rfl), (Nat.le_of_ble_eq_true rfl)⟩) (fun r_43 L_39 f_40 H_41 locs hp_42 hw => ?_)
    obtain ⟨b_46, en_44, en_45, rfl, rfl⟩ := hp_42
    have en_44 : r_43.toInt ≠ 0 → (1 : Int) ≤ a.toInt ∧ a.toInt ≤ (9 : Int) := en_44
    have en_45 : r_43.toInt = 0 → a.toInt < (1 : Int) ∨ (9 : Int) < a.toInt := en_45
    refine lv_if_eq (tgt := 28) G0.1 G0.2.1 dX12_winters_14 (by decide) (fun c_47 => ?_) (fun c_47 => ?_)
    · skip
      have tc_47 := ti_eq c_47
      clear en_44
      replace en_45 := en_45 (by omega)
      refine lv_iconst (v := (-1)) G0.1 G0.2.1 dX12_winters_28 (by decide) ?_
      exact py_iret G0 hr rfl hlk hw ⟨(by first | omega | (intro q; omega)), hWF, hKP, hFK⟩ dX12_winters_29
    · skip
      have tc_47 := ti_ne c_47
      replace en_44 := en_44 (by omega)
      clear en_45
      refine lv_aload_n G0.1 G0.2.1 dX12_winters_17 rfl (lv_at hl 0 rfl) ?_
      refine py_get (C := RX12) (T := TX12) (N := 54) (k := 29) (v := .int v_12) G0 hw in_X12_winters_X12 rfl hr_35 (by decide) (by decide +kernel) rfl dX12_winters_18 ?_
      refine lv_iload_n G0.1 G0.2.1 dX12_winters_21 rfl (lv_at hl 1 rfl) ?_
      refine lv_iadd G0.1 G0.2.1 dX12_winters_22 ?_
      refine lv_topi (fun x_48 ex_48 => ?_)
      first | have tx_48 := ti_add ex_48 (by omega -splitDisjunctions) (by omega -splitDisjunctions) | skip
      refine lv_bipush (v := 60) G0.1 G0.2.1 dX12_winters_23 (by decide) ?_
      refine lv_icmp_le (tgt := 30) G0.1 G0.2.1 dX12_winters_25 (by decide) (fun c_49 => ?_) (fun c_49 => ?_)
      · skip
        have tc_49 := ti_le c_49
        refine lv_iconst (v := 0) G0.1 G0.2.1 dX12_winters_30 (by decide) ?_
        refine lv_istore_n (lv' := [(2, .int 0), (0, .ref u), (1, .int a)]) G0.1 G0.2.1 dX12_winters_31 rfl hl (by decide) rfl (fun ls hl => ?_)
        have lo_32 : ∀ n_32 : Nat, ∀ (v_50 : Int32) (L_j32 : List Nat) (f_j32 : py_F) (H_j32 : Heap) (locs : List Loc) (ls : Array Slot), (2147483647 - v_50.toInt).toNat = n_32 → (0 ≤ v_50.toInt ∧ v_50.toInt ≤ 2147483647) → WF E G L_j32 f_j32 → KP G [58, 55, 48, 49, 59, 60, 61, 62, 13] false f f_j32 → GM f_j32 G u → FK [29, 30, 43] f f_j32 u → (mi f_j32 u 29 + a.toInt - v_50.toInt ≤ 60 ∧ v_50.toInt ≤ a.toInt) → (mi f_j32 u 29 = mi f u 29 + v_50.toInt) → py_W E (va_A (va_pl L f) s.heap.size) s L_j32 f_j32 H_j32 locs → lv_has ls 4 [(2, .int v_50), (0, .ref u), (1, .int a)] → W p l e (headSpec w_X12_winters ({ frames := 9, cells := 0, slots := 0, locals := 203 })).room s m ([.ref u, .int a] : List Value).toArray below meth c H_j32 locs 0 0 (MQ below (py_Qi E L f s.heap.size (fun _ L1 f1 => (((mi f u 25 = 0 ∨ a.toInt < 1 ∨ 9 < a.toInt ∨ 60 < mi f u 29 + a.toInt) ∧ mi f1 u 29 = mi f u 29) ∨ (mi f u 25 ≠ 0 ∧ 1 ≤ a.toInt ∧ a.toInt ≤ 9 ∧ mi f u 29 + a.toInt ≤ 60 ∧ mi f1 u 29 = mi f u 29 + a.toInt)) ∧ WF E G L1 f1 ∧ KP G [58, 55, 48, 49, 59, 60, 61, 62, 13] false f f1 ∧ FK [29, 30, 43] f f1 u)) ([.ref u, .int a] : List Value).toArray s 0 0 (va_A (va_pl L f) s.heap.size)) (F0 m 32 ls []) := by
          intro n_32
          induction n_32 using Nat.strongRecOn with
          | _ n_32 ih_32 =>
            intro v_50 L_j32 f_j32 H_j32 locs ls hn_32 bv_50 hWF hKP hGM hFK iv0 iv1 hw hl
            refine lv_iload_n G0.1 G0.2.1 dX12_winters_32 rfl (lv_at hl 0 rfl) ?_
            refine lv_iload_n G0.1 G0.2.1 dX12_winters_33 rfl (lv_at hl 2 rfl) ?_
            refine lv_icmp_ge (tgt := 123) G0.1 G0.2.1 dX12_winters_34 (by decide) (fun c_51 => ?_) (fun c_51 => ?_)
            · skip
              have tc_51 := ti_le c_51
              refine lv_aload_n G0.1 G0.2.1 dX12_winters_123 rfl (lv_at hl 1 rfl) ?_
              refine lv_iconst (v := 0) G0.1 G0.2.1 dX12_winters_124 (by decide) ?_
              obtain ⟨v_52, v_53, v_54, v_55, v_56, v_57, v_58, v_59, v_60, v_61, v_62, v_63, y_64, v_65, v_66, v_67, v_68, v_69, y_70, v_71, y_72, v_73, hr_86, b_74, b_75, b_76, b_77, b_78, b_79, b_80, b_81, b_82, b_83, b_84, b_85⟩ := wg_12 hWF Tu
              have tq_87 := mi_row hr_86 25 rfl
              have tq_88 := mi_row hr_86 29 rfl
              refine py_put (C := RX12) (T := TX12) (N := 54) (k := 43) (v := .int 0) (fs' := [.int v_52, .ref (G.2 u 1), .int v_53, .int v_54, .int v_55, .int v_56, .ref (G.2 u 6), .ref (G.2 u 7), .ref (G.2 u 8), .ref (G.2 u 9), .ref (G.2 u 10), .ref (G.2 u 11), .ref (G.2 u 12), .int v_57, .int v_58, .ref (G.2 u 15), .ref (G.2 u 16), .ref (G.2 u 17), .ref (G.2 u 18), .int v_59, .int v_60, .ref (G.2 u 21), .ref (G.2 u 22), .ref (G.2 u 23), .int v_61, .int v_62, .ref (G.2 u 26), .ref (G.2 u 27), .ref (G.2 u 28), .int v_63, .long y_64, .int v_65, .int v_66, .int v_67, .int v_68, .ref (G.2 u 35), .ref (G.2 u 36), .ref (G.2 u 37), .ref (G.2 u 38), .ref (G.2 u 39), .ref (G.2 u 40), .ref (G.2 u 41), .ref (G.2 u 42), .int 0, .ref (G.2 u 44), .ref (G.2 u 45), .ref (G.2 u 46), .ref (G.2 u 47), .long y_70, .ref (G.2 u 49), .ref (G.2 u 50), .int v_71, .long y_72, .int v_73]) (ty0 := tyX12) G0 hw tyX12_ok nmX12 in_X12_winters_X12 rfl hr_86 (by decide) (by decide +kernel) rfl rfl rfl rfl (Nat.le_of_ble_eq_true rfl) rfl dX12_winters_125 (fun f_89 H_90 locs h_91 x_92 hw => ?_)
              have hGM := hGM.own hG hWF Tu x_92 (by have z1 := mi_row hr_86 13 rfl; have z2 := mi_row h_91 13 rfl; omega) (by have z1 := mi_row hr_86 31 rfl; have z2 := mi_row h_91 31 rfl; omega)
              have hFK := hFK.put hr_86 h_91 43 (by decide) rfl
              have hKP := hKP.upd hWF x_92 Tu (Or.inl (by decide))
              have hWF := wf_upd hWF h_91 x_92 (by rw [Tu]; exact ⟨v_52, v_53, v_54, v_55, v_56, v_57, v_58, v_59, v_60, v_61, v_62, v_63, y_64, v_65, v_66, v_67, v_68, 0, y_70, v_71, y_72, v_73, rfl, ⟨by omega, by omega⟩, ⟨by omega, by omega⟩, ⟨by omega, by omega⟩, ⟨by omega, by omega⟩, ⟨by omega, by omega⟩, ⟨by omega, by omega⟩, ⟨by omega, by omega⟩, ⟨by omega, by omega⟩, ⟨by omega, by omega⟩, ⟨by omega, by omega⟩, ⟨by omega, by omega⟩, ⟨by omega, by omega⟩⟩)
              have tq_93 := mi_row h_91 25 rfl
              have tq_94 := mi_row h_91 29 rfl
              refine lv_aload_n G0.1 G0.2.1 dX12_winters_128 rfl (lv_at hl 1 rfl) ?_
              refine py_calli hw (va_runV (As := []) (rest := []) G0 (c_X12_headsOfAll l E G L_j32 f_89 H_90.size u hG hWF Tu) (cwV 0 G0.2.2.2.2 g_X12_winters_X12_headsOfAll_408 rfl rfl rfl (by decide +kernel) ⟨(Nat.le_of_ble_eq_true rfl), (Nat.le_of_ble_eq_true rfl)⟩) (py_preV hw (C := RX12) (T := TX12) (N := 54) rfl h_91) rfl rfl hl.1 rfl (lv_room (Nat.le_of_ble_eq_true rfl)) dX12_winters_129 ⟨(Nat.le_of_ble_eq_true rfl), (Nat.le_of_ble_eq_true rfl)⟩) (fun r_99 L_95 f_96 H_97 locs hp_98 hw => ?_)
              obtain ⟨rfl, rfl⟩ := hp_98
              have br_99 := wf_free r_99
              exact py_iret G0 hr rfl hlk hw ⟨(by first | omega | (intro q; omega)), hWF, hKP, hFK⟩ dX12_winters_132
            · skip
              have tc_51 := ti_nle c_51
              refine lv_aload_n G0.1 G0.2.1 dX12_winters_37 rfl (lv_at hl 1 rfl) ?_
              refine lv_aload_n G0.1 G0.2.1 dX12_winters_38 rfl (lv_at hl 1 rfl) ?_
              obtain ⟨v_100, v_101, v_102, v_103, v_104, v_105, v_106, v_107, v_108, v_109, v_110, v_111, y_112, v_113, v_114, v_115, v_116, v_117, y_118, v_119, y_120, v_121, hr_134, b_122, b_123, b_124, b_125, b_126, b_127, b_128, b_129, b_130, b_131, b_132, b_133⟩ := wg_12 hWF Tu
              have tq_135 := mi_row hr_134 25 rfl
              have tq_136 := mi_row hr_134 29 rfl
              refine py_get (C := RX12) (T := TX12) (N := 54) (k := 31) (v := .int v_113) G0 hw in_X12_winters_X12 rfl hr_134 (by decide) (by decide +kernel) rfl dX12_winters_39 ?_
              refine lv_aload_n G0.1 G0.2.1 dX12_winters_42 rfl (lv_at hl 1 rfl) ?_
              refine py_get (C := RX12) (T := TX12) (N := 54) (k := 29) (v := .int v_111) G0 hw in_X12_winters_X12 rfl hr_134 (by decide) (by decide +kernel) rfl dX12_winters_43 ?_
              refine lv_iconst (v := 1) G0.1 G0.2.1 dX12_winters_46 (by decide) ?_
              refine lv_iadd G0.1 G0.2.1 dX12_winters_47 ?_
              refine lv_topi (fun x_137 ex_137 => ?_)
              first | have tx_137 := ti_add ex_137 (by omega -splitDisjunctions) (by omega -splitDisjunctions) | skip
              refine py_callv hw (va_runV (As := [.int v_113, .int x_137]) (rest := []) G0 (c_X12_winter l E G L_j32 f_j32 H_j32.size u v_113 x_137 hG hWF Tu ⟨by omega, by omega⟩ (fun hy => hGM.hold (by have hz := mi_row hr_134 31 rfl; omega) hy)) (cwV 2 G0.2.2.2.2 g_X12_winters_X12_winter_405 rfl rfl rfl (by decide +kernel) ⟨(Nat.le_of_ble_eq_true rfl), (Nat.le_of_ble_eq_true rfl)⟩) (py_preV hw (C := RX12) (T := TX12) (N := 54) rfl hr_134) rfl rfl hl.1 rfl (lv_room (Nat.le_of_ble_eq_true rfl)) dX12_winters_48 ⟨(Nat.le_of_ble_eq_true rfl), (Nat.le_of_ble_eq_true rfl)⟩) (fun L_138 f_139 H_140 locs hp_141 hw => ?_)
              obtain ⟨hWF, kp_143, fk_144⟩ := hp_141
              have hGM := hGM.kp hG Tu kp_143 fk_144 (LK.of (by decide)) (by decide)
              have hFK := hFK.trans fk_144 (by decide)
              have hKP := hKP.trans kp_143 (by decide) (by decide)
              obtain ⟨v_145, hr_146⟩ := fk_30 hWF Tu fk_144 hr_134
              have tq_147 := mi_row hr_146 25 rfl
              have tq_148 := mi_row hr_146 29 rfl
              refine lv_iconst (v := 0) G0.1 G0.2.1 dX12_winters_51 (by decide) ?_
              refine lv_istore_n (lv' := [(3, .int 0), (2, .int v_50), (0, .ref u), (1, .int a)]) G0.1 G0.2.1 dX12_winters_52 rfl hl (by decide) rfl (fun ls hl => ?_)
              have lo_53 : ∀ n_53 : Nat, ∀ (v_149 : Int32) (L_j53 : List Nat) (f_j53 : py_F) (H_j53 : Heap) (locs : List Loc) (ls : Array Slot), (2147483647 - v_149.toInt).toNat = n_53 → (0 ≤ v_149.toInt ∧ v_149.toInt ≤ 2147483647) → WF E G L_j53 f_j53 → KP G [58, 55, 48, 49, 59, 60, 61, 62, 13] false f f_j53 → GM f_j53 G u → FK [29, 30, 43] f f_j53 u → (mi f_j53 u 29 + a.toInt - v_50.toInt ≤ 60 ∧ v_50.toInt < a.toInt) → (mi f_j53 u 29 = mi f u 29 + v_50.toInt) → py_W E (va_A (va_pl L f) s.heap.size) s L_j53 f_j53 H_j53 locs → lv_has ls 4 [(3, .int v_149), (2, .int v_50), (0, .ref u), (1, .int a)] → W p l e (headSpec w_X12_winters ({ frames := 9, cells := 0, slots := 0, locals := 203 })).room s m ([.ref u, .int a] : List Value).toArray below meth c H_j53 locs 0 0 (MQ below (py_Qi E L f s.heap.size (fun _ L1 f1 => (((mi f u 25 = 0 ∨ a.toInt < 1 ∨ 9 < a.toInt ∨ 60 < mi f u 29 + a.toInt) ∧ mi f1 u 29 = mi f u 29) ∨ (mi f u 25 ≠ 0 ∧ 1 ≤ a.toInt ∧ a.toInt ≤ 9 ∧ mi f u 29 + a.toInt ≤ 60 ∧ mi f1 u 29 = mi f u 29 + a.toInt)) ∧ WF E G L1 f1 ∧ KP G [58, 55, 48, 49, 59, 60, 61, 62, 13] false f f1 ∧ FK [29, 30, 43] f f1 u)) ([.ref u, .int a] : List Value).toArray s 0 0 (va_A (va_pl L f) s.heap.size)) (F0 m 53 ls []) := by
                intro n_53
                induction n_53 using Nat.strongRecOn with
                | _ n_53 ih_53 =>
                  intro v_149 L_j53 f_j53 H_j53 locs ls hn_53 bv_149 hWF hKP hGM hFK iv0 iv1 hw hl
                  refine lv_iload_n G0.1 G0.2.1 dX12_winters_53 rfl (lv_at hl 0 rfl) ?_
                  refine lv_aload_n G0.1 G0.2.1 dX12_winters_54 rfl (lv_at hl 2 rfl) ?_
                  obtain ⟨v_150, v_151, v_152, v_153, v_154, v_155, v_156, v_157, v_158, v_159, v_160, v_161, y_162, v_163, v_164, v_165, v_166, v_167, y_168, v_169, y_170, v_171, hr_184, b_172, b_173, b_174, b_175, b_176, b_177, b_178, b_179, b_180, b_181, b_182, b_183⟩ := wg_12 hWF Tu
                  have tq_185 := mi_row hr_184 25 rfl
                  have tq_186 := mi_row hr_184 29 rfl
                  refine py_get (C := RX12) (T := TX12) (N := 54) (k := 25) (v := .int v_160) G0 hw in_X12_winters_X12 rfl hr_184 (by decide) (by decide +kernel) rfl dX12_winters_55 ?_
                  refine lv_icmp_ge (tgt := 107) G0.1 G0.2.1 dX12_winters_58 (by decide) (fun c_187 => ?_) (fun c_187 => ?_)
                  · skip
                    have tc_187 := ti_le c_187
                    refine lv_aload_n G0.1 G0.2.1 dX12_winters_107 rfl (lv_at hl 2 rfl) ?_
                    refine lv_dup G0.1 G0.2.1 dX12_winters_108 rfl ?_
                    refine py_get (C := RX12) (T := TX12) (N := 54) (k := 29) (v := .int v_161) G0 hw in_X12_winters_X12 rfl hr_184 (by decide) (by decide +kernel) rfl dX12_winters_109 ?_
                    refine lv_iconst (v := 1) G0.1 G0.2.1 dX12_winters_112 (by decide) ?_
                    refine lv_iadd G0.1 G0.2.1 dX12_winters_113 ?_
                    refine lv_topi (fun x_188 ex_188 => ?_)
                    first | have tx_188 := ti_add ex_188 (by omega -splitDisjunctions) (by omega -splitDisjunctions) | skip
                    refine py_put (C := RX12) (T := TX12) (N := 54) (k := 29) (v := .int x_188) (fs' := [.int v_150, .ref (G.2 u 1), .int v_151, .int v_152, .int v_153, .int v_154, .ref (G.2 u 6), .ref (G.2 u 7), .ref (G.2 u 8), .ref (G.2 u 9), .ref (G.2 u 10), .ref (G.2 u 11), .ref (G.2 u 12), .int v_155, .int v_156, .ref (G.2 u 15), .ref (G.2 u 16), .ref (G.2 u 17), .ref (G.2 u 18), .int v_157, .int v_158, .ref (G.2 u 21), .ref (G.2 u 22), .ref (G.2 u 23), .int v_159, .int v_160, .ref (G.2 u 26), .ref (G.2 u 27), .ref (G.2 u 28), .int x_188, .long y_162, .int v_163, .int v_164, .int v_165, .int v_166, .ref (G.2 u 35), .ref (G.2 u 36), .ref (G.2 u 37), .ref (G.2 u 38), .ref (G.2 u 39), .ref (G.2 u 40), .ref (G.2 u 41), .ref (G.2 u 42), .int v_167, .ref (G.2 u 44), .ref (G.2 u 45), .ref (G.2 u 46), .ref (G.2 u 47), .long y_168, .ref (G.2 u 49), .ref (G.2 u 50), .int v_169, .long y_170, .int v_171]) (ty0 := tyX12) G0 hw tyX12_ok nmX12 in_X12_winters_X12 rfl hr_184 (by decide) (by decide +kernel) rfl rfl rfl rfl (Nat.le_of_ble_eq_true rfl) rfl dX12_winters_114 (fun f_189 H_190 locs h_191 x_192 hw => ?_)
                    have hGM := hGM.own hG hWF Tu x_192 (by have z1 := mi_row hr_184 13 rfl; have z2 := mi_row h_191 13 rfl; omega) (by have z1 := mi_row hr_184 31 rfl; have z2 := mi_row h_191 31 rfl; omega)
                    have hFK := hFK.put hr_184 h_191 29 (by decide) rfl
                    have hKP := hKP.upd hWF x_192 Tu (Or.inl (by decide))
                    have hWF := wf_upd hWF h_191 x_192 (by rw [Tu]; exact ⟨v_150, v_151, v_152, v_153, v_154, v_155, v_156, v_157, v_158, v_159, v_160, x_188, y_162, v_163, v_164, v_165, v_166, v_167, y_168, v_169, y_170, v_171, rfl, ⟨by omega, by omega⟩, ⟨by omega, by omega⟩, ⟨by omega, by omega⟩, ⟨by omega, by omega⟩, ⟨by omega, by omega⟩, ⟨by omega, by omega⟩, ⟨by omega, by omega⟩, ⟨by omega, by omega⟩, ⟨by omega, by omega⟩, ⟨by omega, by omega⟩, ⟨by omega, by omega⟩, ⟨by omega, by omega⟩⟩)
                    have tq_193 := mi_row h_191 25 rfl
                    have tq_194 := mi_row h_191 29 rfl
                    obtain ⟨x_195, ex_195⟩ : ∃ y : Int32, y = v_50 + 1 := ⟨_, rfl⟩
                    first | have tx_195 := ti_add ex_195 (by omega -splitDisjunctions) (by omega -splitDisjunctions) | skip
                    refine lv_iinc (v := x_195) (lv' := [(2, .int x_195), (3, .int v_149), (0, .ref u), (1, .int a)]) G0.1 G0.2.1 dX12_winters_117 hl (k := 1) rfl (show _ + (1 : Int32) = _ from ex_195.symm) (by decide) rfl (fun ls hl => ?_)
                    refine lv_goto (tgt := 32) G0.1 G0.2.1 dX12_winters_120 (by decide) ?_
                    exact ih_32 ((2147483647 - x_195.toInt).toNat) (by omega) x_195 L_j53 f_189 _ _ ls rfl ⟨by omega, by omega⟩ hWF hKP hGM hFK (by first | omega | (intros; omega)) (by first | omega | (intros; omega)) hw (lv_sub hl [0, 2, 3] rfl)
                  · skip
                    have tc_187 := ti_nle c_187
                    refine lv_aload_n G0.1 G0.2.1 dX12_winters_61 rfl (lv_at hl 2 rfl) ?_
                    refine py_get (C := RX12) (T := TX12) (N := 54) (k := 38) (v := .ref (G.2 u 38)) G0 hw in_X12_winters_X12 rfl hr_184 (by decide) (by decide +kernel) rfl dX12_winters_62 ?_
                    refine lv_bipush (v := 10) G0.1 G0.2.1 dX12_winters_65 (by decide) ?_
                    refine lv_aload_n G0.1 G0.2.1 dX12_winters_67 rfl (lv_at hl 2 rfl) ?_
                    refine py_get (C := RX12) (T := TX12) (N := 54) (k := 29) (v := .int v_161) G0 hw in_X12_winters_X12 rfl hr_184 (by decide) (by decide +kernel) rfl dX12_winters_68 ?_
                    refine lv_imul G0.1 G0.2.1 dX12_winters_71 ?_
                    refine lv_topi (fun x_196 ex_196 => ?_)
                    first | have tx_196 := ti_muld ex_196 kc10 (by omega -splitDisjunctions) (by omega -splitDisjunctions) | skip
                    refine lv_iload_n G0.1 G0.2.1 dX12_winters_72 rfl (lv_at hl 0 rfl) ?_
                    refine lv_iadd G0.1 G0.2.1 dX12_winters_73 ?_
                    refine lv_topi (fun x_197 ex_197 => ?_)
                    first | have tx_197 := ti_add ex_197 (by omega -splitDisjunctions) (by omega -splitDisjunctions) | skip
                    refine lv_aload_n G0.1 G0.2.1 dX12_winters_74 rfl (lv_at hl 2 rfl) ?_
                    refine lv_iload_n G0.1 G0.2.1 dX12_winters_75 rfl (lv_at hl 0 rfl) ?_
                    refine lv_iconst (v := 1) G0.1 G0.2.1 dX12_winters_76 (by decide) ?_
                    refine py_calli hw (va_runV (As := [.int v_149, .int 1]) (rest := [.int x_197, .ref (G.2 u 38)]) G0 (c_X12_of l E G L_j53 f_j53 H_j53.size u v_149 1 hG hWF Tu ⟨by omega, by omega⟩ ⟨by omega, by omega⟩) (cwV 2 G0.2.2.2.2 g_X12_winters_X12_of_287 rfl rfl rfl (by decide +kernel) ⟨(Nat.le_of_ble_eq_true rfl), (Nat.le_of_ble_eq_true rfl)⟩) (py_preV hw (C := RX12) (T := TX12) (N := 54) rfl hr_184) rfl rfl hl.1 rfl (lv_room (Nat.le_of_ble_eq_true rfl)) dX12_winters_77 ⟨(Nat.le_of_ble_eq_true rfl), (Nat.le_of_ble_eq_true rfl)⟩) (fun r_202 L_198 f_199 H_200 locs hp_201 hw => ?_)
                    obtain ⟨en_203, en_204, rfl, rfl⟩ := hp_201
                    have en_203 : r_202.toInt = nw f_j53 G u v_149.toInt (1 : Int) := en_203
                    have en_204 : ((1 : Int) = 0 → 0 ≤ r_202.toInt ∧ r_202.toInt ≤ 20) ∧ ((1 : Int) = 1 → -1 ≤ r_202.toInt ∧ r_202.toInt ≤ 7) := en_204
                    have br_202 := wf_free r_202
                    obtain ⟨g_205, ha_206, hi_207⟩ := wf_arr (n := 600) (lo := (-2147483648)) (hi := 2147483647) hWF (wt12_38 hG Tu) (by decide) (fun _ => rfl)
                    have rg_208 : vp_in x_197 600 := ti_in (by omega) (by omega)
                    refine py_iast G0 hw ha_206 rg_208 dX12_winters_80 (fun f_209 H_210 locs h_211 x_212 hw => ?_)
                    have hGM := hGM.kps hG Tu (KP.refl.upd hWF x_212 (wt12_38 hG Tu) (Or.inl (by decide)) : KP G [61] false f_j53 f_209) (LK.of (by decide)) (by decide)
                    have hFK := hFK.same ((x_212 _ (hWF _ (by rw [Tu]; decide)).1 (wf_ne Tu (wt12_38 hG Tu) (by decide))).2)
                    have hKP := hKP.upd hWF x_212 (wt12_38 hG Tu) (Or.inl (by decide))
                    have hi_213 := wf_inu (k := (x_197 : Int32).toNatClampNeg) (x := r_202) hi_207 (wf_free r_202).1 (wf_free r_202).2
                    have hWF := wf_upd hWF h_211 x_212 (by rw [(wt12_38 hG Tu)]; exact ⟨_, rfl, hi_213⟩)
                    have hr_184 := hr_184.ext x_212 (py_ne_arr hr_184 ha_206)
                    have tq_214 := mi_row hr_184 25 rfl
                    have tq_215 := mi_row hr_184 29 rfl
                    refine lv_aload_n G0.1 G0.2.1 dX12_winters_81 rfl (lv_at hl 2 rfl) ?_
                    refine py_get (C := RX12) (T := TX12) (N := 54) (k := 39) (v := .ref (G.2 u 39)) G0 hw in_X12_winters_X12 rfl hr_184 (by decide) (by decide +kernel) rfl dX12_winters_82 ?_
                    refine lv_bipush (v := 10) G0.1 G0.2.1 dX12_winters_85 (by decide) ?_
                    refine lv_aload_n G0.1 G0.2.1 dX12_winters_87 rfl (lv_at hl 2 rfl) ?_
                    refine py_get (C := RX12) (T := TX12) (N := 54) (k := 29) (v := .int v_161) G0 hw in_X12_winters_X12 rfl hr_184 (by decide) (by decide +kernel) rfl dX12_winters_88 ?_
                    refine lv_imul G0.1 G0.2.1 dX12_winters_91 ?_
                    refine lv_topi (fun x_216 ex_216 => ?_)
                    first | have tx_216 := ti_muld ex_216 kc10 (by omega -splitDisjunctions) (by omega -splitDisjunctions) | skip
                    refine lv_iload_n G0.1 G0.2.1 dX12_winters_92 rfl (lv_at hl 0 rfl) ?_
                    refine lv_iadd G0.1 G0.2.1 dX12_winters_93 ?_
                    refine lv_topi (fun x_217 ex_217 => ?_)
                    first | have tx_217 := ti_add ex_217 (by omega -splitDisjunctions) (by omega -splitDisjunctions) | skip
                    refine lv_aload_n G0.1 G0.2.1 dX12_winters_94 rfl (lv_at hl 2 rfl) ?_
                    refine lv_iload_n G0.1 G0.2.1 dX12_winters_95 rfl (lv_at hl 0 rfl) ?_
                    refine lv_iconst (v := 0) G0.1 G0.2.1 dX12_winters_96 (by decide) ?_
                    refine py_calli hw (va_runV (As := [.int v_149, .int 0]) (rest := [.int x_217, .ref (G.2 u 39)]) G0 (c_X12_of l E G L_j53 f_209 H_210.size u v_149 0 hG hWF Tu ⟨by omega, by omega⟩ ⟨by omega, by omega⟩) (cwV 2 G0.2.2.2.2 g_X12_winters_X12_of_287 rfl rfl rfl (by decide +kernel) ⟨(Nat.le_of_ble_eq_true rfl), (Nat.le_of_ble_eq_true rfl)⟩) (py_preV hw (C := RX12) (T := TX12) (N := 54) rfl hr_184) rfl rfl hl.1 rfl (lv_room (Nat.le_of_ble_eq_true rfl)) dX12_winters_97 ⟨(Nat.le_of_ble_eq_true rfl), (Nat.le_of_ble_eq_true rfl)⟩) (fun r_222 L_218 f_219 H_220 locs hp_221 hw => ?_)
                    obtain ⟨en_223, en_224, rfl, rfl⟩ := hp_221
                    have en_223 : r_222.toInt = nw f_209 G u v_149.toInt (0 : Int) := en_223
                    have en_224 : ((0 : Int) = 0 → 0 ≤ r_222.toInt ∧ r_222.toInt ≤ 20) ∧ ((0 : Int) = 1 → -1 ≤ r_222.toInt ∧ r_222.toInt ≤ 7) := en_224
                    have br_222 := wf_free r_222
                    obtain ⟨g_225, ha_226, hi_227⟩ := wf_arr (n := 600) (lo := (-2147483648)) (hi := 2147483647) hWF (wt12_39 hG Tu) (by decide) (fun _ => rfl)
                    have rg_228 : vp_in x_217 600 := ti_in (by omega) (by omega)
                    refine py_iast G0 hw ha_226 rg_228 dX12_winters_100 (fun f_229 H_230 locs h_231 x_232 hw => ?_)
                    have hGM := hGM.kps hG Tu (KP.refl.upd hWF x_232 (wt12_39 hG Tu) (Or.inl (by decide)) : KP G [62] false f_209 f_229) (LK.of (by decide)) (by decide)
                    have hFK := hFK.same ((x_232 _ (hWF _ (by rw [Tu]; decide)).1 (wf_ne Tu (wt12_39 hG Tu) (by decide))).2)
                    have hKP := hKP.upd hWF x_232 (wt12_39 hG Tu) (Or.inl (by decide))
                    have hi_233 := wf_inu (k := (x_217 : Int32).toNatClampNeg) (x := r_222) hi_227 (wf_free r_222).1 (wf_free r_222).2
                    have hWF := wf_upd hWF h_231 x_232 (by rw [(wt12_39 hG Tu)]; exact ⟨_, rfl, hi_233⟩)
                    have hr_184 := hr_184.ext x_232 (py_ne_arr hr_184 ha_226)
                    have tq_234 := mi_row hr_184 25 rfl
                    have tq_235 := mi_row hr_184 29 rfl
                    have h_211 := h_211.ext x_232 (wf_ne (wt12_38 hG Tu) (wt12_39 hG Tu) (by decide))
                    obtain ⟨x_236, ex_236⟩ : ∃ y : Int32, y = v_149 + 1 := ⟨_, rfl⟩
                    first | have tx_236 := ti_add ex_236 (by omega -splitDisjunctions) (by omega -splitDisjunctions) | skip
                    refine lv_iinc (v := x_236) (lv' := [(3, .int x_236), (2, .int v_50), (0, .ref u), (1, .int a)]) G0.1 G0.2.1 dX12_winters_101 hl (k := 0) rfl (show _ + (1 : Int32) = _ from ex_236.symm) (by decide) rfl (fun ls hl => ?_)
                    refine lv_goto (tgt := 53) G0.1 G0.2.1 dX12_winters_104 (by decide) ?_
                    exact ih_53 ((2147483647 - x_236.toInt).toNat) (by omega) x_236 L_j53 f_229 _ _ ls rfl ⟨by omega, by omega⟩ hWF hKP hGM hFK (by first | omega | (intros; omega)) (by first | omega | (intros; omega)) hw (lv_sub hl [0, 1, 2, 3] rfl)
              exact lo_53 _ 0 L_138 f_139 _ _ ls rfl ⟨by omega, by omega⟩ hWF hKP hGM hFK (by first | omega | (intros; omega)) (by first | omega | (intros; omega)) hw (lv_sub hl [0, 1, 2, 3] rfl)
        exact lo_32 _ 0 L f _ _ ls rfl ⟨by omega, by omega⟩ hWF hKP hGM hFK (by first | omega | (intros; omega)) (by first | omega | (intros; omega)) hw (lv_sub hl [0, 1, 2] rfl)
      · skip
        have tc_49 := ti_nle c_49
        refine lv_iconst (v := (-1)) G0.1 G0.2.1 dX12_winters_28 (by decide) ?_
        exact py_iret G0 hr rfl hlk hw ⟨(by first | omega | (intro q; omega)), hWF, hKP, hFK⟩ dX12_winters_29

def w_X12_goOn : List Cond := .code yX12_goOn cX12_goOn 11 none :: ([Cond.fieldLink RX12 108 "HeadYearModel" "dying" "[J", Cond.methodLink RX12 339 Lib.Math.min.name, Cond.static Lib.Math.min.name, Cond.initialized "java/lang/Math", Cond.code Lib.Math.min.name Lib.Math.min.code 2 (some .int), Cond.fieldLink RX12 105 "HeadYearModel" "then" "[J", Cond.fieldLink RX12 64 "HeadYearModel" "holding" "I", Cond.methodLink RX12 371 yX12_worthBy, Cond.instanceMethod yX12_worthBy, Cond.selects RX12 yX12_worthBy yX12_worthBy, Cond.initialized RX12, Cond.methodLink RX12 344 yX12_wantBy, Cond.instanceMethod yX12_wantBy, Cond.selects RX12 yX12_wantBy yX12_wantBy, Cond.methodLink RX12 425 yX12_state, Cond.static yX12_state, Cond.fieldLink RX12 422 "HeadYearModel" "goneParts" "J", Cond.methodLink RX12 293 yX12_levelOf, Cond.instanceMethod yX12_levelOf, Cond.selects RX12 yX12_levelOf yX12_levelOf, Cond.constantLong RX12 420 (100)] ++ (u_ws RX12 TX12 54 ++ (w_X12_worthBy ++ (w_X12_wantBy ++ (w_X12_state ++ (w_X12_levelOf ++ ([])))))))
theorem in_X12_goOn_X12 : ∀ w ∈ u_ws RX12 TX12 54, w ∈ w_X12_goOn := fun _ h => List.mem_cons_of_mem _ (List.mem_append_right _ (List.mem_append_left _ h))
theorem gg_X12_goOn_X12_worthBy : GoodIn w_X12_goOn w_X12_worthBy := goodIn_sub (fun _ h => List.mem_cons_of_mem _ (List.mem_append_right _ (List.mem_append_right _ (List.mem_append_left _ h)))) (by decide +kernel)
theorem gg_X12_goOn_X12_wantBy : GoodIn w_X12_goOn w_X12_wantBy := goodIn_sub (fun _ h => List.mem_cons_of_mem _ (List.mem_append_right _ (List.mem_append_right _ (List.mem_append_right _ (List.mem_append_left _ h))))) (by decide +kernel)
theorem gg_X12_goOn_X12_state : GoodIn w_X12_goOn w_X12_state := goodIn_sub (fun _ h => List.mem_cons_of_mem _ (List.mem_append_right _ (List.mem_append_right _ (List.mem_append_right _ (List.mem_append_right _ (List.mem_append_left _ h)))))) (by decide +kernel)
theorem gg_X12_goOn_X12_levelOf : GoodIn w_X12_goOn w_X12_levelOf := goodIn_sub (fun _ h => List.mem_cons_of_mem _ (List.mem_append_right _ (List.mem_append_right _ (List.mem_append_right _ (List.mem_append_right _ (List.mem_append_right _ (List.mem_append_left _ h))))))) (by decide +kernel)
theorem g_X12_goOn_X12_levelOf_293 : GoodIn w_X12_goOn (wsV RX12 293 RX12 yX12_levelOf w_X12_levelOf) := goodIn_app (goodIn_of _ (by decide +kernel)) gg_X12_goOn_X12_levelOf
theorem g_X12_goOn_X12_state_425 : GoodIn w_X12_goOn (va_wsS RX12 425 yX12_state w_X12_state) := goodIn_app (goodIn_of _ (by decide +kernel)) gg_X12_goOn_X12_state
theorem g_X12_goOn_X12_wantBy_344 : GoodIn w_X12_goOn (wsV RX12 344 RX12 yX12_wantBy w_X12_wantBy) := goodIn_app (goodIn_of _ (by decide +kernel)) gg_X12_goOn_X12_wantBy
theorem g_X12_goOn_X12_worthBy_371 : GoodIn w_X12_goOn (wsV RX12 371 RX12 yX12_worthBy w_X12_worthBy) := goodIn_app (goodIn_of _ (by decide +kernel)) gg_X12_goOn_X12_worthBy
set_option maxHeartbeats 4000000 in
set_option maxRecDepth 100000 in
theorem c_X12_goOn (l : Launch) (E : py_E) (G : wf_G) (L : List Nat) (f : py_F) (sz : Nat) (u : Nat) (a : Int32) (b : Int32) (q : Int32) (v : Int64) (d : Int32) (hG : GT G) (hWF : WF E G L f) (Tu : G.1 u = 13) (Ba : (0 ≤ a.toInt ∧ a.toInt ≤ 7)) (Bb : (1 ≤ b.toInt ∧ b.toInt ≤ 20)) (Bq : (0 ≤ q.toInt ∧ q.toInt ≤ 2)) (hq0 : GM f G u) : Met l yX12_goOn w_X12_goOn ({ frames := 6, cells := 0, slots := 0, locals := 147 }) (py_Pc E [.ref u, .int a, .int b, .int q, .long v, .int d] L f sz) (py_Qv E L f sz (fun L1 f1 => WF E G L1 f1 ∧ KP G [68, 69, 48, 49, 13] false f f1 ∧ FK [48] f f1 u)) 0 0 (va_A (va_pl L f) sz) := by
  refine Met.ofW (cc := cX12_goOn) (maxL := 11) (ret := none) (by decide) rfl ?_
  intro p e s m args below meth c s₁ B hml hv
  obtain ⟨rfl, rfl, hw⟩ := py_start hv
  have G0 : CallFix p m c cX12_goOn 11 s _ w_X12_goOn RX12 := ⟨B.exec, B.bytes, hml, findClass_of_methodNamed B.named, atoms_spec (ws := w_X12_goOn) B.pre⟩
  have hr := B.returns
  have hlk := B.notSynchronized
  have kcm1 : (-1 : Int32).toInt = -1 := rfl
  have kc0 : (0 : Int32).toInt = 0 := rfl
  have kc1 : (1 : Int32).toInt = 1 := rfl
  have kc2 : (2 : Int32).toInt = 2 := rfl
  have kc20 : (20 : Int32).toInt = 20 := rfl
  have hl := lv_entry ([.ref u, .int a, .int b, .int q, .long v, .int d]) (n := 11) (Nat.le_of_ble_eq_true rfl)
  rw [lg_entry_eq]
  generalize (lg_sl ([.ref u, .int a, .int b, .int q, .long v, .int d]) ++ List.replicate (11 - (lg_sl ([.ref u, .int a, .int b, .int q, .long v, .int d])).length) Slot.unset).toArray = ls at hl ⊢
  have hl : lv_has ls 11 [(0, .ref u), (1, .int a), (2, .int b), (3, .int q), (4, .long v), (6, .int d)] := hl
  have hFK : FK [48] f f u := FK.refl
  have hKP : KP G [68, 69, 48, 49, 13] false f f := KP.refl
  have hGM := hq0
  refine lv_iconst (v := 0) G0.1 G0.2.1 dX12_goOn_0 (by decide) ?_
  refine lv_istore (lv' := [(7, .int 0), (0, .ref u), (1, .int a), (2, .int b), (3, .int q), (4, .long v), (6, .int d)]) G0.1 G0.2.1 dX12_goOn_1 hl (by decide) rfl (fun ls hl => ?_)
  have lo_3 : ∀ n_3 : Nat, ∀ (v_1 : Int32) (L_j3 : List Nat) (f_j3 : py_F) (H_j3 : Heap) (locs : List Loc) (ls : Array Slot), (2147483647 - v_1.toInt).toNat = n_3 → (0 ≤ v_1.toInt ∧ v_1.toInt ≤ 2147483647) → WF E G L_j3 f_j3 → KP G [68, 69, 48, 49, 13] false f f_j3 → GM f_j3 G u → FK [48] f f_j3 u → py_W E (va_A (va_pl L f) s.heap.size) s L_j3 f_j3 H_j3 locs → lv_has ls 11 [(7, .int v_1), (0, .ref u), (1, .int a), (2, .int b), (3, .int q), (4, .long v), (6, .int d)] → W p l e (headSpec w_X12_goOn ({ frames := 6, cells := 0, slots := 0, locals := 147 })).room s m ([.ref u, .int a, .int b, .int q, .long v, .int d] : List Value).toArray below meth c H_j3 locs 0 0 (MQ below (py_Qv E L f s.heap.size (fun L1 f1 => WF E G L1 f1 ∧ KP G [68, 69, 48, 49, 13] false f f1 ∧ FK [48] f f1 u)) ([.ref u, .int a, .int b, .int q, .long v, .int d] : List Value).toArray s 0 0 (va_A (va_pl L f) s.heap.size)) (F0 m 3 ls []) := by
    intro n_3
    induction n_3 using Nat.strongRecOn with
    | _ n_3 ih_3 =>
      intro v_1 L_j3 f_j3 H_j3 locs ls hn_3 bv_1 hWF hKP hGM hFK hw hl
      refine lv_iload G0.1 G0.2.1 dX12_goOn_3 (lv_at hl 0 rfl) ?_
      refine lv_iload_n G0.1 G0.2.1 dX12_goOn_5 rfl (lv_at hl 3 rfl) ?_
      refine lv_icmp_gt (tgt := 33) G0.1 G0.2.1 dX12_goOn_6 (by decide) (fun c_2 => ?_) (fun c_2 => ?_)
      · skip
        have tc_2 := ti_lt c_2
        refine lv_iconst (v := 0) G0.1 G0.2.1 dX12_goOn_33 (by decide) ?_
        refine lv_istore (lv' := [(7, .int 0), (0, .ref u), (1, .int a), (2, .int b), (3, .int q), (4, .long v), (6, .int d)]) G0.1 G0.2.1 dX12_goOn_34 hl (by decide) rfl (fun ls hl => ?_)
        have lo_36 : ∀ n_36 : Nat, ∀ (v_3 : Int32) (L_j36 : List Nat) (f_j36 : py_F) (H_j36 : Heap) (locs : List Loc) (ls : Array Slot), (2147483647 - v_3.toInt).toNat = n_36 → (0 ≤ v_3.toInt ∧ v_3.toInt ≤ 2147483647) → WF E G L_j36 f_j36 → KP G [68, 69, 48, 49, 13] false f f_j36 → GM f_j36 G u → FK [48] f f_j36 u → py_W E (va_A (va_pl L f) s.heap.size) s L_j36 f_j36 H_j36 locs → lv_has ls 11 [(7, .int v_3), (0, .ref u), (1, .int a), (2, .int b), (3, .int q), (4, .long v), (6, .int d)] → W p l e (headSpec w_X12_goOn ({ frames := 6, cells := 0, slots := 0, locals := 147 })).room s m ([.ref u, .int a, .int b, .int q, .long v, .int d] : List Value).toArray below meth c H_j36 locs 0 0 (MQ below (py_Qv E L f s.heap.size (fun L1 f1 => WF E G L1 f1 ∧ KP G [68, 69, 48, 49, 13] false f f1 ∧ FK [48] f f1 u)) ([.ref u, .int a, .int b, .int q, .long v, .int d] : List Value).toArray s 0 0 (va_A (va_pl L f) s.heap.size)) (F0 m 36 ls []) := by
          intro n_36
          induction n_36 using Nat.strongRecOn with
          | _ n_36 ih_36 =>
            intro v_3 L_j36 f_j36 H_j36 locs ls hn_36 bv_3 hWF hKP hGM hFK hw hl
            refine lv_iload G0.1 G0.2.1 dX12_goOn_36 (lv_at hl 0 rfl) ?_
            refine lv_iload_n G0.1 G0.2.1 dX12_goOn_38 rfl (lv_at hl 3 rfl) ?_
            refine lv_icmp_ge (tgt := 110) G0.1 G0.2.1 dX12_goOn_39 (by decide) (fun c_4 => ?_) (fun c_4 => ?_)
            · skip
              have tc_4 := ti_le c_4
              refine lv_iconst (v := 0) G0.1 G0.2.1 dX12_goOn_110 (by decide) ?_
              refine lv_istore (lv' := [(7, .int 0), (0, .ref u), (1, .int a), (2, .int b), (3, .int q), (4, .long v), (6, .int d)]) G0.1 G0.2.1 dX12_goOn_111 hl (by decide) rfl (fun ls hl => ?_)
              have lo_113 : ∀ n_113 : Nat, ∀ (v_5 : Int32) (L_j113 : List Nat) (f_j113 : py_F) (H_j113 : Heap) (locs : List Loc) (ls : Array Slot), (2147483647 - v_5.toInt).toNat = n_113 → (0 ≤ v_5.toInt ∧ v_5.toInt ≤ 2147483647) → WF E G L_j113 f_j113 → KP G [68, 69, 48, 49, 13] false f f_j113 → GM f_j113 G u → FK [48] f f_j113 u → py_W E (va_A (va_pl L f) s.heap.size) s L_j113 f_j113 H_j113 locs → lv_has ls 11 [(7, .int v_5), (0, .ref u), (1, .int a), (2, .int b), (3, .int q), (4, .long v), (6, .int d)] → W p l e (headSpec w_X12_goOn ({ frames := 6, cells := 0, slots := 0, locals := 147 })).room s m ([.ref u, .int a, .int b, .int q, .long v, .int d] : List Value).toArray below meth c H_j113 locs 0 0 (MQ below (py_Qv E L f s.heap.size (fun L1 f1 => WF E G L1 f1 ∧ KP G [68, 69, 48, 49, 13] false f f1 ∧ FK [48] f f1 u)) ([.ref u, .int a, .int b, .int q, .long v, .int d] : List Value).toArray s 0 0 (va_A (va_pl L f) s.heap.size)) (F0 m 113 ls []) := by
                intro n_113
                induction n_113 using Nat.strongRecOn with
                | _ n_113 ih_113 =>
                  intro v_5 L_j113 f_j113 H_j113 locs ls hn_113 bv_5 hWF hKP hGM hFK hw hl
                  refine lv_iload G0.1 G0.2.1 dX12_goOn_113 (lv_at hl 0 rfl) ?_
                  refine lv_iload_n G0.1 G0.2.1 dX12_goOn_115 rfl (lv_at hl 3 rfl) ?_
                  refine lv_icmp_gt (tgt := 216) G0.1 G0.2.1 dX12_goOn_116 (by decide) (fun c_6 => ?_) (fun c_6 => ?_)
                  · skip
                    have tc_6 := ti_lt c_6
                    exact py_vret G0 hr hlk hw ⟨hWF, hKP, hFK⟩ dX12_goOn_216
                  · skip
                    have tc_6 := ti_nlt c_6
                    refine lv_aload_n G0.1 G0.2.1 dX12_goOn_119 rfl (lv_at hl 1 rfl) ?_
                    obtain ⟨v_7, v_8, v_9, v_10, v_11, v_12, v_13, v_14, v_15, v_16, v_17, v_18, y_19, v_20, v_21, v_22, v_23, v_24, y_25, v_26, y_27, v_28, hr_41, b_29, b_30, b_31, b_32, b_33, b_34, b_35, b_36, b_37, b_38, b_39, b_40⟩ := wg_12 hWF Tu
                    refine py_get (C := RX12) (T := TX12) (N := 54) (k := 47) (v := .ref (G.2 u 47)) G0 hw in_X12_goOn_X12 rfl hr_41 (by decide) (by decide +kernel) rfl dX12_goOn_120 ?_
                    refine lv_iload G0.1 G0.2.1 dX12_goOn_123 (lv_at hl 0 rfl) ?_
                    obtain ⟨g_42, ha_43⟩ := wf_j69 hWF (wt12_47 hG Tu)
                    have rg_44 : vp_in v_5 22 := ti_in (by omega) (by omega)
                    refine py_lald G0 hw ha_43 rg_44 dX12_goOn_125 ?_
                    refine lv_topl (fun y_45 ey_45 => ?_)
                    refine lv_lconst (v := 0) G0.1 G0.2.1 dX12_goOn_126 (by decide) ?_
                    refine W.lcmp G0.1 G0.2.1 dX12_goOn_127 ?_
                    refine lv_topi (fun x_46 ex_46 => ?_)
                    refine lv_if_le (tgt := 210) G0.1 G0.2.1 dX12_goOn_128 (by decide) (fun c_47 => ?_) (fun c_47 => ?_)
                    · skip
                      have tc_47 := ti_le c_47
                      obtain ⟨x_48, ex_48⟩ : ∃ y : Int32, y = v_5 + 1 := ⟨_, rfl⟩
                      first | have tx_48 := ti_add ex_48 (by omega -splitDisjunctions) (by omega -splitDisjunctions) | skip
                      refine lv_iinc (v := x_48) (lv' := [(7, .int x_48), (0, .ref u), (1, .int a), (2, .int b), (3, .int q), (4, .long v), (6, .int d)]) G0.1 G0.2.1 dX12_goOn_210 hl (k := 0) rfl (show _ + (1 : Int32) = _ from ex_48.symm) (by decide) rfl (fun ls hl => ?_)
                      refine lv_goto (tgt := 113) G0.1 G0.2.1 dX12_goOn_213 (by decide) ?_
                      exact ih_113 ((2147483647 - x_48.toInt).toNat) (by omega) x_48 L_j113 f_j113 _ _ ls rfl ⟨by omega, by omega⟩ hWF hKP hGM hFK hw (lv_sub hl [0, 1, 2, 3, 4, 5, 6] rfl)
                    · skip
                      have tc_47 := ti_nle c_47
                      refine lv_bipush (v := 20) G0.1 G0.2.1 dX12_goOn_131 (by decide) ?_
                      refine lv_iload_n G0.1 G0.2.1 dX12_goOn_133 rfl (lv_at hl 3 rfl) ?_
                      refine lv_iload G0.1 G0.2.1 dX12_goOn_134 (lv_at hl 0 rfl) ?_
                      refine lv_isub G0.1 G0.2.1 dX12_goOn_136 ?_
                      refine lv_topi (fun x_49 ex_49 => ?_)
                      first | have tx_49 := ti_sub ex_49 (by omega -splitDisjunctions) (by omega -splitDisjunctions) | skip
                      refine lv_iload_n G0.1 G0.2.1 dX12_goOn_137 rfl (lv_at hl 4 rfl) ?_
                      refine lv_iadd G0.1 G0.2.1 dX12_goOn_138 ?_
                      refine lv_topi (fun x_50 ex_50 => ?_)
                      first | have tx_50 := ti_add ex_50 (by omega -splitDisjunctions) (by omega -splitDisjunctions) | skip
                      refine va_mmin G0.1 G0.2.1 (by rw [G0.2.2.1, hl.1]) G0.2.2.2.1 (G0.2.2.2.2 (Cond.methodLink RX12 339 Lib.Math.min.name) (by decide +kernel)) (G0.2.2.2.2 (Cond.static Lib.Math.min.name) (by decide +kernel)) (G0.2.2.2.2 (Cond.initialized "java/lang/Math") (by decide +kernel)) (G0.2.2.2.2 (Cond.code Lib.Math.min.name Lib.Math.min.code 2 (some .int)) (by decide +kernel)) (Nat.le_of_ble_eq_true rfl) (Nat.le_of_ble_eq_true rfl) (Nat.le_of_ble_eq_true rfl) (Nat.le_of_ble_eq_true rfl) dX12_goOn_139 ?_
                      refine lv_topi (fun x_51 ex_51 => ?_)
                      have tx_51 := ti_min ex_51
                      refine lv_istore (lv' := [(8, .int x_51), (7, .int v_5), (0, .ref u), (1, .int a), (2, .int b), (3, .int q), (4, .long v), (6, .int d)]) G0.1 G0.2.1 dX12_goOn_142 hl (by decide) rfl (fun ls hl => ?_)
                      refine lv_iload G0.1 G0.2.1 dX12_goOn_144 (lv_at hl 0 rfl) ?_
                      refine lv_if_ne (tgt := 168) G0.1 G0.2.1 dX12_goOn_146 (by decide) (fun c_52 => ?_) (fun c_52 => ?_)
                      · skip
                        have tc_52 := ti_ne c_52
                        refine lv_aload_n G0.1 G0.2.1 dX12_goOn_168 rfl (lv_at hl 2 rfl) ?_
                        refine py_get (C := RX12) (T := TX12) (N := 54) (k := 46) (v := .ref (G.2 u 46)) G0 hw in_X12_goOn_X12 rfl hr_41 (by decide) (by decide +kernel) rfl dX12_goOn_169 ?_
                        refine lv_aload_n G0.1 G0.2.1 dX12_goOn_172 rfl (lv_at hl 2 rfl) ?_
                        refine lv_iload_n G0.1 G0.2.1 dX12_goOn_173 rfl (lv_at hl 3 rfl) ?_
                        refine lv_aload_n G0.1 G0.2.1 dX12_goOn_174 rfl (lv_at hl 2 rfl) ?_
                        refine lv_aload_n G0.1 G0.2.1 dX12_goOn_175 rfl (lv_at hl 2 rfl) ?_
                        refine py_get (C := RX12) (T := TX12) (N := 54) (k := 31) (v := .int v_20) G0 hw in_X12_goOn_X12 rfl hr_41 (by decide) (by decide +kernel) rfl dX12_goOn_176 ?_
                        refine lv_iload_n G0.1 G0.2.1 dX12_goOn_179 rfl (lv_at hl 5 rfl) ?_
                        refine lv_iload G0.1 G0.2.1 dX12_goOn_180 (lv_at hl 1 rfl) ?_
                        refine lv_iload G0.1 G0.2.1 dX12_goOn_182 (lv_at hl 0 rfl) ?_
                        refine lv_iload_n G0.1 G0.2.1 dX12_goOn_184 rfl (lv_at hl 3 rfl) ?_
                        refine lv_iconst (v := 0) G0.1 G0.2.1 dX12_goOn_185 (by decide) ?_
                        refine lv_iload G0.1 G0.2.1 dX12_goOn_186 (lv_at hl 7 rfl) ?_
                        refine py_calli hw (va_runV (As := [.int v_20, .int q, .int v_5, .int x_51, .int a, .int 0, .int d]) (rest := [.int a, .ref u, .ref (G.2 u 46)]) G0 (c_X12_worthBy l E G L_j113 f_j113 H_j113.size u v_20 q v_5 x_51 a 0 d hG hWF Tu ⟨by omega, by omega⟩ (fun hy => hGM.hold (by have hz := mi_row hr_41 31 rfl; omega) hy)) (cwV 7 G0.2.2.2.2 g_X12_goOn_X12_worthBy_371 rfl rfl rfl (by decide +kernel) ⟨(Nat.le_of_ble_eq_true rfl), (Nat.le_of_ble_eq_true rfl)⟩) (py_preV hw (C := RX12) (T := TX12) (N := 54) rfl hr_41) rfl rfl hl.1 rfl (lv_room (Nat.le_of_ble_eq_true rfl)) dX12_goOn_188 ⟨(Nat.le_of_ble_eq_true rfl), (Nat.le_of_ble_eq_true rfl)⟩) (fun r_57 L_53 f_54 H_55 locs hp_56 hw => ?_)
                        obtain ⟨b_58, hWF, kp_59, fk_60⟩ := hp_56
                        have hGM := hGM.kp hG Tu kp_59 fk_60 (LK.of (by decide)) (by decide)
                        have hFK := hFK.trans fk_60 (by decide)
                        have hKP := hKP.trans kp_59 (by decide) (by decide)
                        have hr_41 := kp_at kp_59 hWF Tu (by decide) (by decide) (by decide) hr_41
                        refine py_calli hw (va_runV (As := [.int a, .int r_57]) (rest := [.ref (G.2 u 46)]) G0 (c_X12_wantBy l E G L_53 f_54 H_55.size u a r_57 hG hWF Tu ⟨by omega, by omega⟩) (cwV 2 G0.2.2.2.2 g_X12_goOn_X12_wantBy_344 rfl rfl rfl (by decide +kernel) ⟨(Nat.le_of_ble_eq_true rfl), (Nat.le_of_ble_eq_true rfl)⟩) (py_preV hw (C := RX12) (T := TX12) (N := 54) rfl hr_41) rfl rfl hl.1 rfl (lv_room (Nat.le_of_ble_eq_true rfl)) dX12_goOn_191 ⟨(Nat.le_of_ble_eq_true rfl), (Nat.le_of_ble_eq_true rfl)⟩) (fun r_65 L_61 f_62 H_63 locs hp_64 hw => ?_)
                        obtain ⟨b_67, en_66, rfl, rfl⟩ := hp_64
                        refine lv_iload G0.1 G0.2.1 dX12_goOn_194 (lv_at hl 0 rfl) ?_
                        refine py_calli hw (va_runS (As := [.int r_65, .int x_51]) (rest := [.ref (G.2 u 46)]) G0 (c_X12_state l E G L_53 f_54 H_63.size r_65 x_51 hG hWF ⟨by omega, by omega⟩ ⟨by omega, by omega⟩) (va_cwS 2 G0.2.2.2.2 g_X12_goOn_X12_state_425 rfl rfl rfl (by decide +kernel) ⟨(Nat.le_of_ble_eq_true rfl), (Nat.le_of_ble_eq_true rfl)⟩) (py_preS hw) rfl rfl hl.1 rfl (lv_room (Nat.le_of_ble_eq_true rfl)) dX12_goOn_196 ⟨(Nat.le_of_ble_eq_true rfl), (Nat.le_of_ble_eq_true rfl)⟩) (fun r_72 L_68 f_69 H_70 locs hp_71 hw => ?_)
                        obtain ⟨b_74, en_73, rfl, rfl⟩ := hp_71
                        refine lv_dup2_11 G0.1 G0.2.1 dX12_goOn_199 rfl rfl ?_
                        obtain ⟨g_75, ha_76⟩ := wf_j68 hWF (wt12_46 hG Tu)
                        have rg_77 : vp_in r_72 168 := ti_in (by omega) (by omega)
                        refine py_lald G0 hw ha_76 rg_77 dX12_goOn_200 ?_
                        refine lv_topl (fun y_78 ey_78 => ?_)
                        refine lv_aload_n G0.1 G0.2.1 dX12_goOn_201 rfl (lv_at hl 2 rfl) ?_
                        refine py_get (C := RX12) (T := TX12) (N := 54) (k := 47) (v := .ref (G.2 u 47)) G0 hw in_X12_goOn_X12 rfl hr_41 (by decide) (by decide +kernel) rfl dX12_goOn_202 ?_
                        refine lv_iload G0.1 G0.2.1 dX12_goOn_205 (lv_at hl 1 rfl) ?_
                        obtain ⟨g_79, ha_80⟩ := wf_j69 hWF (wt12_47 hG Tu)
                        have rg_81 : vp_in v_5 22 := ti_in (by omega) (by omega)
                        refine py_lald G0 hw ha_80 rg_81 dX12_goOn_207 ?_
                        refine lv_topl (fun y_82 ey_82 => ?_)
                        refine lv_ladd G0.1 G0.2.1 dX12_goOn_208 ?_
                        refine lv_topl (fun y_83 ey_83 => ?_)
                        obtain ⟨g_84, ha_85⟩ := wf_j68 hWF (wt12_46 hG Tu)
                        have rg_86 : vp_in r_72 168 := ti_in (by omega) (by omega)
                        refine py_last G0 hw ha_85 rg_86 dX12_goOn_209 (fun f_87 H_88 locs h_89 x_90 hw => ?_)
                        have hGM := hGM.kps hG Tu (KP.refl.upd hWF x_90 (wt12_46 hG Tu) (Or.inl (by decide)) : KP G [68] false f_54 f_87) (LK.of (by decide)) (by decide)
                        have hFK := hFK.same ((x_90 _ (hWF _ (by rw [Tu]; decide)).1 (wf_ne Tu (wt12_46 hG Tu) (by decide))).2)
                        have hKP := hKP.upd hWF x_90 (wt12_46 hG Tu) (Or.inl (by decide))
                        have hWF := wf_upd hWF h_89 x_90 (by rw [(wt12_46 hG Tu)]; exact ⟨_, rfl⟩)
                        have hr_41 := hr_41.ext x_90 (py_ne_arr hr_41 ha_85)
                        obtain ⟨x_91, ex_91⟩ : ∃ y : Int32, y = v_5 + 1 := ⟨_, rfl⟩
                        first | have tx_91 := ti_add ex_91 (by omega -splitDisjunctions) (by omega -splitDisjunctions) | skip
                        refine lv_iinc (v := x_91) (lv' := [(7, .int x_91), (8, .int x_51), (0, .ref u), (1, .int a), (2, .int b), (3, .int q), (4, .long v), (6, .int d)]) G0.1 G0.2.1 dX12_goOn_210 hl (k := 1) rfl (show _ + (1 : Int32) = _ from ex_91.symm) (by decide) rfl (fun ls hl => ?_)
                        refine lv_goto (tgt := 113) G0.1 G0.2.1 dX12_goOn_213 (by decide) ?_
                        exact ih_113 ((2147483647 - x_91.toInt).toNat) (by omega) x_91 L_53 f_87 _ _ ls rfl ⟨by omega, by omega⟩ hWF hKP hGM hFK hw (lv_sub hl [0, 2, 3, 4, 5, 6, 7] rfl)
                      · skip
                        have tc_52 := ti_eq c_52
                        refine lv_aload_n G0.1 G0.2.1 dX12_goOn_149 rfl (lv_at hl 2 rfl) ?_
                        refine lv_dup G0.1 G0.2.1 dX12_goOn_150 rfl ?_
                        refine py_get (C := RX12) (T := TX12) (N := 54) (k := 48) (v := .long y_25) G0 hw in_X12_goOn_X12 rfl hr_41 (by decide) (by decide +kernel) rfl dX12_goOn_151 ?_
                        refine lv_aload_n G0.1 G0.2.1 dX12_goOn_154 rfl (lv_at hl 2 rfl) ?_
                        refine py_get (C := RX12) (T := TX12) (N := 54) (k := 47) (v := .ref (G.2 u 47)) G0 hw in_X12_goOn_X12 rfl hr_41 (by decide) (by decide +kernel) rfl dX12_goOn_155 ?_
                        refine lv_iload G0.1 G0.2.1 dX12_goOn_158 (lv_at hl 1 rfl) ?_
                        obtain ⟨g_92, ha_93⟩ := wf_j69 hWF (wt12_47 hG Tu)
                        have rg_94 : vp_in v_5 22 := ti_in (by omega) (by omega)
                        refine py_lald G0 hw ha_93 rg_94 dX12_goOn_160 ?_
                        refine lv_topl (fun y_95 ey_95 => ?_)
                        refine lv_ladd G0.1 G0.2.1 dX12_goOn_161 ?_
                        refine lv_topl (fun y_96 ey_96 => ?_)
                        refine py_put (C := RX12) (T := TX12) (N := 54) (k := 48) (v := .long y_96) (fs' := [.int v_7, .ref (G.2 u 1), .int v_8, .int v_9, .int v_10, .int v_11, .ref (G.2 u 6), .ref (G.2 u 7), .ref (G.2 u 8), .ref (G.2 u 9), .ref (G.2 u 10), .ref (G.2 u 11), .ref (G.2 u 12), .int v_12, .int v_13, .ref (G.2 u 15), .ref (G.2 u 16), .ref (G.2 u 17), .ref (G.2 u 18), .int v_14, .int v_15, .ref (G.2 u 21), .ref (G.2 u 22), .ref (G.2 u 23), .int v_16, .int v_17, .ref (G.2 u 26), .ref (G.2 u 27), .ref (G.2 u 28), .int v_18, .long y_19, .int v_20, .int v_21, .int v_22, .int v_23, .ref (G.2 u 35), .ref (G.2 u 36), .ref (G.2 u 37), .ref (G.2 u 38), .ref (G.2 u 39), .ref (G.2 u 40), .ref (G.2 u 41), .ref (G.2 u 42), .int v_24, .ref (G.2 u 44), .ref (G.2 u 45), .ref (G.2 u 46), .ref (G.2 u 47), .long y_96, .ref (G.2 u 49), .ref (G.2 u 50), .int v_26, .long y_27, .int v_28]) (ty0 := tyX12) G0 hw tyX12_ok nmX12 in_X12_goOn_X12 rfl hr_41 (by decide) (by decide +kernel) rfl rfl rfl rfl (Nat.le_of_ble_eq_true rfl) rfl dX12_goOn_162 (fun f_97 H_98 locs h_99 x_100 hw => ?_)
                        have hGM := hGM.own hG hWF Tu x_100 (by have z1 := mi_row hr_41 13 rfl; have z2 := mi_row h_99 13 rfl; omega) (by have z1 := mi_row hr_41 31 rfl; have z2 := mi_row h_99 31 rfl; omega)
                        have hFK := hFK.put hr_41 h_99 48 (by decide) rfl
                        have hKP := hKP.upd hWF x_100 Tu (Or.inl (by decide))
                        have hWF := wf_upd hWF h_99 x_100 (by rw [Tu]; exact ⟨v_7, v_8, v_9, v_10, v_11, v_12, v_13, v_14, v_15, v_16, v_17, v_18, y_19, v_20, v_21, v_22, v_23, v_24, y_96, v_26, y_27, v_28, rfl, ⟨by omega, by omega⟩, ⟨by omega, by omega⟩, ⟨by omega, by omega⟩, ⟨by omega, by omega⟩, ⟨by omega, by omega⟩, ⟨by omega, by omega⟩, ⟨by omega, by omega⟩, ⟨by omega, by omega⟩, ⟨by omega, by omega⟩, ⟨by omega, by omega⟩, ⟨by omega, by omega⟩, ⟨by omega, by omega⟩⟩)
                        refine lv_goto (tgt := 210) G0.1 G0.2.1 dX12_goOn_165 (by decide) ?_
                        obtain ⟨x_101, ex_101⟩ : ∃ y : Int32, y = v_5 + 1 := ⟨_, rfl⟩
                        first | have tx_101 := ti_add ex_101 (by omega -splitDisjunctions) (by omega -splitDisjunctions) | skip
                        refine lv_iinc (v := x_101) (lv' := [(7, .int x_101), (8, .int x_51), (0, .ref u), (1, .int a), (2, .int b), (3, .int q), (4, .long v), (6, .int d)]) G0.1 G0.2.1 dX12_goOn_210 hl (k := 1) rfl (show _ + (1 : Int32) = _ from ex_101.symm) (by decide) rfl (fun ls hl => ?_)
                        refine lv_goto (tgt := 113) G0.1 G0.2.1 dX12_goOn_213 (by decide) ?_
                        exact ih_113 ((2147483647 - x_101.toInt).toNat) (by omega) x_101 L_j113 f_97 _ _ ls rfl ⟨by omega, by omega⟩ hWF hKP hGM hFK hw (lv_sub hl [0, 2, 3, 4, 5, 6, 7] rfl)
              exact lo_113 _ 0 L_j36 f_j36 _ _ ls rfl ⟨by omega, by omega⟩ hWF hKP hGM hFK hw (lv_sub hl [0, 1, 2, 3, 4, 5, 6] rfl)
            · skip
              have tc_4 := ti_nle c_4
              refine lv_iload G0.1 G0.2.1 dX12_goOn_42 (lv_at hl 0 rfl) ?_
              refine lv_istore (lv' := [(8, .int v_3), (7, .int v_3), (0, .ref u), (1, .int a), (2, .int b), (3, .int q), (4, .long v), (6, .int d)]) G0.1 G0.2.1 dX12_goOn_44 hl (by decide) rfl (fun ls hl => ?_)
              have lo_46 : ∀ n_46 : Nat, ∀ (v_102 : Int32) (L_j46 : List Nat) (f_j46 : py_F) (H_j46 : Heap) (locs : List Loc) (ls : Array Slot), (v_102.toInt + 1).toNat = n_46 → ((-1) ≤ v_102.toInt ∧ v_102.toInt ≤ 19) → WF E G L_j46 f_j46 → KP G [68, 69, 48, 49, 13] false f f_j46 → GM f_j46 G u → FK [48] f f_j46 u → py_W E (va_A (va_pl L f) s.heap.size) s L_j46 f_j46 H_j46 locs → lv_has ls 11 [(8, .int v_102), (7, .int v_3), (0, .ref u), (1, .int a), (2, .int b), (3, .int q), (4, .long v), (6, .int d)] → W p l e (headSpec w_X12_goOn ({ frames := 6, cells := 0, slots := 0, locals := 147 })).room s m ([.ref u, .int a, .int b, .int q, .long v, .int d] : List Value).toArray below meth c H_j46 locs 0 0 (MQ below (py_Qv E L f s.heap.size (fun L1 f1 => WF E G L1 f1 ∧ KP G [68, 69, 48, 49, 13] false f f1 ∧ FK [48] f f1 u)) ([.ref u, .int a, .int b, .int q, .long v, .int d] : List Value).toArray s 0 0 (va_A (va_pl L f) s.heap.size)) (F0 m 46 ls []) := by
                intro n_46
                induction n_46 using Nat.strongRecOn with
                | _ n_46 ih_46 =>
                  intro v_102 L_j46 f_j46 H_j46 locs ls hn_46 bv_102 hWF hKP hGM hFK hw hl
                  refine lv_iload G0.1 G0.2.1 dX12_goOn_46 (lv_at hl 0 rfl) ?_
                  refine lv_if_lt (tgt := 104) G0.1 G0.2.1 dX12_goOn_48 (by decide) (fun c_103 => ?_) (fun c_103 => ?_)
                  · skip
                    have tc_103 := ti_lt c_103
                    obtain ⟨x_104, ex_104⟩ : ∃ y : Int32, y = v_3 + 1 := ⟨_, rfl⟩
                    first | have tx_104 := ti_add ex_104 (by omega -splitDisjunctions) (by omega -splitDisjunctions) | skip
                    refine lv_iinc (v := x_104) (lv' := [(7, .int x_104), (8, .int v_102), (0, .ref u), (1, .int a), (2, .int b), (3, .int q), (4, .long v), (6, .int d)]) G0.1 G0.2.1 dX12_goOn_104 hl (k := 1) rfl (show _ + (1 : Int32) = _ from ex_104.symm) (by decide) rfl (fun ls hl => ?_)
                    refine lv_goto (tgt := 36) G0.1 G0.2.1 dX12_goOn_107 (by decide) ?_
                    exact ih_36 ((2147483647 - x_104.toInt).toNat) (by omega) x_104 L_j46 f_j46 _ _ ls rfl ⟨by omega, by omega⟩ hWF hKP hGM hFK hw (lv_sub hl [0, 2, 3, 4, 5, 6, 7] rfl)
                  · skip
                    have tc_103 := ti_nlt c_103
                    refine lv_aload_n G0.1 G0.2.1 dX12_goOn_51 rfl (lv_at hl 2 rfl) ?_
                    obtain ⟨v_105, v_106, v_107, v_108, v_109, v_110, v_111, v_112, v_113, v_114, v_115, v_116, y_117, v_118, v_119, v_120, v_121, v_122, y_123, v_124, y_125, v_126, hr_139, b_127, b_128, b_129, b_130, b_131, b_132, b_133, b_134, b_135, b_136, b_137, b_138⟩ := wg_12 hWF Tu
                    refine py_get (C := RX12) (T := TX12) (N := 54) (k := 47) (v := .ref (G.2 u 47)) G0 hw in_X12_goOn_X12 rfl hr_139 (by decide) (by decide +kernel) rfl dX12_goOn_52 ?_
                    refine lv_iload G0.1 G0.2.1 dX12_goOn_55 (lv_at hl 0 rfl) ?_
                    obtain ⟨g_140, ha_141⟩ := wf_j69 hWF (wt12_47 hG Tu)
                    have rg_142 : vp_in v_102 22 := ti_in (by omega) (by omega)
                    refine py_lald G0 hw ha_141 rg_142 dX12_goOn_57 ?_
                    refine lv_topl (fun y_143 ey_143 => ?_)
                    refine lv_aload_n G0.1 G0.2.1 dX12_goOn_58 rfl (lv_at hl 2 rfl) ?_
                    refine lv_iload_n G0.1 G0.2.1 dX12_goOn_59 rfl (lv_at hl 3 rfl) ?_
                    refine lv_iconst (v := 2) G0.1 G0.2.1 dX12_goOn_60 (by decide) ?_
                    refine py_calli hw (va_runV (As := [.int a, .int 2]) (rest := [.long y_143]) G0 (c_X12_levelOf l E G L_j46 f_j46 H_j46.size u a 2 hG hWF Tu ⟨by omega, by omega⟩ ⟨by omega, by omega⟩) (cwV 2 G0.2.2.2.2 g_X12_goOn_X12_levelOf_293 rfl rfl rfl (by decide +kernel) ⟨(Nat.le_of_ble_eq_true rfl), (Nat.le_of_ble_eq_true rfl)⟩) (py_preV hw (C := RX12) (T := TX12) (N := 54) rfl hr_139) rfl rfl hl.1 rfl (lv_room (Nat.le_of_ble_eq_true rfl)) dX12_goOn_61 ⟨(Nat.le_of_ble_eq_true rfl), (Nat.le_of_ble_eq_true rfl)⟩) (fun r_148 L_144 f_145 H_146 locs hp_147 hw => ?_)
                    obtain ⟨en_149, rfl, rfl⟩ := hp_147
                    have en_149 : r_148.toInt = lr f_j46 G u a.toInt (2 : Int) := en_149
                    have br_148 := wf_free r_148
                    refine lv_i2l (v := r_148.toInt64) G0.1 G0.2.1 dX12_goOn_64 rfl ?_
                    refine lv_lmul G0.1 G0.2.1 dX12_goOn_65 ?_
                    refine lv_topl (fun y_150 ey_150 => ?_)
                    refine lv_ldc2 (v := 100) G0.1 G0.2.1 G0.2.2.2.1 (G0.2.2.2.2 (Cond.constantLong RX12 420 (100)) (by decide +kernel)) dX12_goOn_66 ?_
                    refine lv_ldiv G0.1 G0.2.1 dX12_goOn_69 (by decide) ?_
                    refine lv_topl (fun y_151 ey_151 => ?_)
                    refine lv_lstore (lv' := [(9, .long y_151), (8, .int v_102), (7, .int v_3), (0, .ref u), (1, .int a), (2, .int b), (3, .int q), (4, .long v), (6, .int d)]) G0.1 G0.2.1 dX12_goOn_70 hl (by decide) rfl (fun ls hl => ?_)
                    refine lv_aload_n G0.1 G0.2.1 dX12_goOn_72 rfl (lv_at hl 3 rfl) ?_
                    refine py_get (C := RX12) (T := TX12) (N := 54) (k := 47) (v := .ref (G.2 u 47)) G0 hw in_X12_goOn_X12 rfl hr_139 (by decide) (by decide +kernel) rfl dX12_goOn_73 ?_
                    refine lv_iload G0.1 G0.2.1 dX12_goOn_76 (lv_at hl 1 rfl) ?_
                    refine lv_iconst (v := 1) G0.1 G0.2.1 dX12_goOn_78 (by decide) ?_
                    refine lv_iadd G0.1 G0.2.1 dX12_goOn_79 ?_
                    refine lv_topi (fun x_152 ex_152 => ?_)
                    first | have tx_152 := ti_add ex_152 (by omega -splitDisjunctions) (by omega -splitDisjunctions) | skip
                    refine lv_dup2_11 G0.1 G0.2.1 dX12_goOn_80 rfl rfl ?_
                    obtain ⟨g_153, ha_154⟩ := wf_j69 hWF (wt12_47 hG Tu)
                    have rg_155 : vp_in x_152 22 := ti_in (by omega) (by omega)
                    refine py_lald G0 hw ha_154 rg_155 dX12_goOn_81 ?_
                    refine lv_topl (fun y_156 ey_156 => ?_)
                    refine lv_lload G0.1 G0.2.1 dX12_goOn_82 (lv_at hl 0 rfl) ?_
                    refine lv_ladd G0.1 G0.2.1 dX12_goOn_84 ?_
                    refine lv_topl (fun y_157 ey_157 => ?_)
                    obtain ⟨g_158, ha_159⟩ := wf_j69 hWF (wt12_47 hG Tu)
                    have rg_160 : vp_in x_152 22 := ti_in (by omega) (by omega)
                    refine py_last G0 hw ha_159 rg_160 dX12_goOn_85 (fun f_161 H_162 locs h_163 x_164 hw => ?_)
                    have hGM := hGM.kps hG Tu (KP.refl.upd hWF x_164 (wt12_47 hG Tu) (Or.inl (by decide)) : KP G [69] false f_j46 f_161) (LK.of (by decide)) (by decide)
                    have hFK := hFK.same ((x_164 _ (hWF _ (by rw [Tu]; decide)).1 (wf_ne Tu (wt12_47 hG Tu) (by decide))).2)
                    have hKP := hKP.upd hWF x_164 (wt12_47 hG Tu) (Or.inl (by decide))
                    have hWF := wf_upd hWF h_163 x_164 (by rw [(wt12_47 hG Tu)]; exact ⟨_, rfl⟩)
                    have hr_139 := hr_139.ext x_164 (py_ne_arr hr_139 ha_159)
                    refine lv_aload_n G0.1 G0.2.1 dX12_goOn_86 rfl (lv_at hl 3 rfl) ?_
                    refine py_get (C := RX12) (T := TX12) (N := 54) (k := 47) (v := .ref (G.2 u 47)) G0 hw in_X12_goOn_X12 rfl hr_139 (by decide) (by decide +kernel) rfl dX12_goOn_87 ?_
                    refine lv_iload G0.1 G0.2.1 dX12_goOn_90 (lv_at hl 1 rfl) ?_
                    refine lv_dup2_11 G0.1 G0.2.1 dX12_goOn_92 rfl rfl ?_
                    obtain ⟨g_165, ha_166⟩ := wf_j69 hWF (wt12_47 hG Tu)
                    have rg_167 : vp_in v_102 22 := ti_in (by omega) (by omega)
                    refine py_lald G0 hw ha_166 rg_167 dX12_goOn_93 ?_
                    refine lv_topl (fun y_168 ey_168 => ?_)
                    refine lv_lload G0.1 G0.2.1 dX12_goOn_94 (lv_at hl 0 rfl) ?_
                    refine lv_lsub G0.1 G0.2.1 dX12_goOn_96 ?_
                    refine lv_topl (fun y_169 ey_169 => ?_)
                    obtain ⟨g_170, ha_171⟩ := wf_j69 hWF (wt12_47 hG Tu)
                    have rg_172 : vp_in v_102 22 := ti_in (by omega) (by omega)
                    refine py_last G0 hw ha_171 rg_172 dX12_goOn_97 (fun f_173 H_174 locs h_175 x_176 hw => ?_)
                    have hGM := hGM.kps hG Tu (KP.refl.upd hWF x_176 (wt12_47 hG Tu) (Or.inl (by decide)) : KP G [69] false f_161 f_173) (LK.of (by decide)) (by decide)
                    have hFK := hFK.same ((x_176 _ (hWF _ (by rw [Tu]; decide)).1 (wf_ne Tu (wt12_47 hG Tu) (by decide))).2)
                    have hKP := hKP.upd hWF x_176 (wt12_47 hG Tu) (Or.inl (by decide))
                    have hWF := wf_upd hWF h_175 x_176 (by rw [(wt12_47 hG Tu)]; exact ⟨_, rfl⟩)
                    have hr_139 := hr_139.ext x_176 (py_ne_arr hr_139 ha_171)
                    obtain ⟨x_177, ex_177⟩ : ∃ y : Int32, y = v_102 + (-1) := ⟨_, rfl⟩
                    first | have tx_177 := ti_add ex_177 (by omega -splitDisjunctions) (by omega -splitDisjunctions) | skip
                    refine lv_iinc (v := x_177) (lv' := [(8, .int x_177), (9, .long y_151), (7, .int v_3), (0, .ref u), (1, .int a), (2, .int b), (3, .int q), (4, .long v), (6, .int d)]) G0.1 G0.2.1 dX12_goOn_98 hl (k := 1) rfl (show _ + ((-1) : Int32) = _ from ex_177.symm) (by decide) rfl (fun ls hl => ?_)
                    refine lv_goto (tgt := 46) G0.1 G0.2.1 dX12_goOn_101 (by decide) ?_
                    exact ih_46 ((x_177.toInt + 1).toNat) (by omega) x_177 L_j46 f_173 _ _ ls rfl ⟨by omega, by omega⟩ hWF hKP hGM hFK hw (lv_sub hl [0, 2, 3, 4, 5, 6, 7, 8] rfl)
              exact lo_46 _ v_3 L_j36 f_j36 _ _ ls rfl ⟨by omega, by omega⟩ hWF hKP hGM hFK hw (lv_sub hl [0, 1, 2, 3, 4, 5, 6, 7] rfl)
        exact lo_36 _ 0 L_j3 f_j3 _ _ ls rfl ⟨by omega, by omega⟩ hWF hKP hGM hFK hw (lv_sub hl [0, 1, 2, 3, 4, 5, 6] rfl)
      · skip
        have tc_2 := ti_nlt c_2
        refine lv_aload_n G0.1 G0.2.1 dX12_goOn_9 rfl (lv_at hl 1 rfl) ?_
        obtain ⟨v_178, v_179, v_180, v_181, v_182, v_183, v_184, v_185, v_186, v_187, v_188, v_189, y_190, v_191, v_192, v_193, v_194, v_195, y_196, v_197, y_198, v_199, hr_212, b_200, b_201, b_202, b_203, b_204, b_205, b_206, b_207, b_208, b_209, b_210, b_211⟩ := wg_12 hWF Tu
        refine py_get (C := RX12) (T := TX12) (N := 54) (k := 47) (v := .ref (G.2 u 47)) G0 hw in_X12_goOn_X12 rfl hr_212 (by decide) (by decide +kernel) rfl dX12_goOn_10 ?_
        refine lv_iload G0.1 G0.2.1 dX12_goOn_13 (lv_at hl 0 rfl) ?_
        refine lv_iload G0.1 G0.2.1 dX12_goOn_15 (lv_at hl 0 rfl) ?_
        refine lv_if_ne (tgt := 25) G0.1 G0.2.1 dX12_goOn_17 (by decide) (fun c_213 => ?_) (fun c_213 => ?_)
        · skip
          have tc_213 := ti_ne c_213
          refine lv_lconst (v := 0) G0.1 G0.2.1 dX12_goOn_25 (by decide) ?_
          obtain ⟨g_214, ha_215⟩ := wf_j69 hWF (wt12_47 hG Tu)
          have rg_216 : vp_in v_1 22 := ti_in (by omega) (by omega)
          refine py_last G0 hw ha_215 rg_216 dX12_goOn_26 (fun f_217 H_218 locs h_219 x_220 hw => ?_)
          have hGM := hGM.kps hG Tu (KP.refl.upd hWF x_220 (wt12_47 hG Tu) (Or.inl (by decide)) : KP G [69] false f_j3 f_217) (LK.of (by decide)) (by decide)
          have hFK := hFK.same ((x_220 _ (hWF _ (by rw [Tu]; decide)).1 (wf_ne Tu (wt12_47 hG Tu) (by decide))).2)
          have hKP := hKP.upd hWF x_220 (wt12_47 hG Tu) (Or.inl (by decide))
          have hWF := wf_upd hWF h_219 x_220 (by rw [(wt12_47 hG Tu)]; exact ⟨_, rfl⟩)
          have hr_212 := hr_212.ext x_220 (py_ne_arr hr_212 ha_215)
          obtain ⟨x_221, ex_221⟩ : ∃ y : Int32, y = v_1 + 1 := ⟨_, rfl⟩
          first | have tx_221 := ti_add ex_221 (by omega -splitDisjunctions) (by omega -splitDisjunctions) | skip
          refine lv_iinc (v := x_221) (lv' := [(7, .int x_221), (0, .ref u), (1, .int a), (2, .int b), (3, .int q), (4, .long v), (6, .int d)]) G0.1 G0.2.1 dX12_goOn_27 hl (k := 0) rfl (show _ + (1 : Int32) = _ from ex_221.symm) (by decide) rfl (fun ls hl => ?_)
          refine lv_goto (tgt := 3) G0.1 G0.2.1 dX12_goOn_30 (by decide) ?_
          exact ih_3 ((2147483647 - x_221.toInt).toNat) (by omega) x_221 L_j3 f_217 _ _ ls rfl ⟨by omega, by omega⟩ hWF hKP hGM hFK hw (lv_sub hl [0, 1, 2, 3, 4, 5, 6] rfl)
        · skip
          have tc_213 := ti_eq c_213
          refine lv_lload G0.1 G0.2.1 dX12_goOn_20 (lv_at hl 5 rfl) ?_
          refine lv_goto (tgt := 26) G0.1 G0.2.1 dX12_goOn_22 (by decide) ?_
          obtain ⟨g_222, ha_223⟩ := wf_j69 hWF (wt12_47 hG Tu)
          have rg_224 : vp_in v_1 22 := ti_in (by omega) (by omega)
          refine py_last G0 hw ha_223 rg_224 dX12_goOn_26 (fun f_225 H_226 locs h_227 x_228 hw => ?_)
          have hGM := hGM.kps hG Tu (KP.refl.upd hWF x_228 (wt12_47 hG Tu) (Or.inl (by decide)) : KP G [69] false f_j3 f_225) (LK.of (by decide)) (by decide)
          have hFK := hFK.same ((x_228 _ (hWF _ (by rw [Tu]; decide)).1 (wf_ne Tu (wt12_47 hG Tu) (by decide))).2)
          have hKP := hKP.upd hWF x_228 (wt12_47 hG Tu) (Or.inl (by decide))
          have hWF := wf_upd hWF h_227 x_228 (by rw [(wt12_47 hG Tu)]; exact ⟨_, rfl⟩)
          have hr_212 := hr_212.ext x_228 (py_ne_arr hr_212 ha_223)
          obtain ⟨x_229, ex_229⟩ : ∃ y : Int32, y = v_1 + 1 := ⟨_, rfl⟩
          first | have tx_229 := ti_add ex_229 (by omega -splitDisjunctions) (by omega -splitDisjunctions) | skip
          refine lv_iinc (v := x_229) (lv' := [(7, .int x_229), (0, .ref u), (1, .int a), (2, .int b), (3, .int q), (4, .long v), (6, .int d)]) G0.1 G0.2.1 dX12_goOn_27 hl (k := 0) rfl (show _ + (1 : Int32) = _ from ex_229.symm) (by decide) rfl (fun ls hl => ?_)
          refine lv_goto (tgt := 3) G0.1 G0.2.1 dX12_goOn_30 (by decide) ?_
          exact ih_3 ((2147483647 - x_229.toInt).toNat) (by omega) x_229 L_j3 f_225 _ _ ls rfl ⟨by omega, by omega⟩ hWF hKP hGM hFK hw (lv_sub hl [0, 1, 2, 3, 4, 5, 6] rfl)
  exact lo_3 _ 0 L f _ _ ls rfl ⟨by omega, by omega⟩ hWF hKP hGM hFK hw (lv_sub hl [0, 1, 2, 3, 4, 5, 6] rfl)
