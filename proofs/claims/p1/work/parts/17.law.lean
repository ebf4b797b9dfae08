/-! THE CLAIM OUT OF ONE WALK OF THE LAW'S BODY. Your part is whole_start (and what it stands on); all else here is the same for every law, but numbers. -/
def R_law : String := "HeadYearLaw"
def lw_P (b : Addr) (xs : List Int32) (args : Array Value) (s : State) : Prop := args = #[.ref b] ∧ s.IntsAt b xs ∧ xs.length ≤ 6 ∧ (Jvm.Cond.and given_1 narrow_1).before args s = true
def lw_Q (_ : Array Value) (s : State) (o : Outcome) (t : State) : Prop := o = .returned (some (.int 1)) ∧ Framed s o t [] 600002 7302232
def lw_Z (below : List Frame) (a : Array Value) (s : State) : State → Prop := fun t => ∃ o, t.status = .running ∧ Ended t below o ∧ lw_Q a s o t
/-- the law's own end, with 1 on the stack, nothing written that was there before, its room as the claim has it -/
theorem lw_ret {p : Program} {l : Launch} {e : Env} {s : State} {m : MethodId} {below : List Frame} {meth : Method} {c : Code} {b : Nat} (hx : p.tables.exec = Jvm.exec) (hb : c.code = code) (hr : meth.sig.returnType = ret) (hlocks : meth.locks = false) {pc : Nat} {H : Heap} {ls : Array Slot} (hdg : decode code pc = .ok (.ireturn, 1)) : W p l e room_1 s m #[Value.ref b] below meth c H [] 600002 7302232 (lw_Z below #[Value.ref b] s) (F0 m pc ls [.int 1]) := by
  intro T hT X
  obtain ⟨fs, hret, hrun, hended, hW, hframe⟩ := X.leave (v := some (.int 1)) (hlocks := hlocks) (fun h => by rw [hr] at h; cases h)
  have hmeth' : T.vm.method? m = some meth := X.method'
  refine ⟨T.setFrames fs, ?_, .returned (some (.int 1)), hrun, hended, rfl, ⟨_, rfl⟩, hW, hframe⟩
  jvm_step X.here [X.here.top, hx, hb, hdg, hmeth', hr, ret, narrow_b1]
  (try refine ⟨rfl, ?_⟩); (try refine ⟨rfl, ?_⟩)
  first | (intro acts; rw [hret _ acts rfl rfl rfl]) | rw [hret _ _ rfl rfl rfl]
  exact Steps.refl _
/-- what holds at the law's entry: the machine, the code, the tables' words (any of lw_tbl by 'hts w (by decide +kernel)'), the script of L ints xs at the cell b, what the Statement gives of the start (any of its parts by flat_of_before) -/
def lw_At (p : Program) (s : State) (m : MethodId) (meth : Method) (c : Code) (b L : Nat) (xs : Nat → Int32) : Prop :=
  p.tables.exec = Jvm.exec ∧ c.code = code ∧ meth.sig.returnType = ret ∧ c.maxLocals = 7 ∧ s.vm.findClass R_law = some m.cls ∧ (∀ w ∈ lw_tbl, w.before #[Value.ref b] s = true) ∧ va_X b L xs s s.heap ∧ b < s.heap.size ∧ meth.locks = false ∧ (Jvm.Cond.and given_1 narrow_1).before #[Value.ref b] s = true
theorem fr_H_row {E : py_E} {L : List Nat} {f : py_F} {h : Nat} (hF : fr_H E L f h) : ∃ ys : List Value, py_at L f h (.inr (11, ys)) := by
  obtain ⟨tape, byt, vr, itm, dr, lr, dl, lws, nl, fo, va, tr, im, di, bu, se, mo, od, g, xd, xl, xf, xv, xi, xu, xs, hh, htape, hbyt, hvr, hdr, hxd, hlr, hdl, hxl, hfo, hxf, hf9, hf11, hva, hxv, hv8, hv9, hdi, hxi, hi2, hbu, hxu, hu3, hse, hxs⟩ := hF
  exact ⟨_, hh⟩
theorem fr_M_row {E : py_E} {L : List Nat} {f : py_F} {h : Nat} (hM : fr_M E L f h) : ∃ ys : List Value, py_at L f h (.inr (12, ys)) := by
  obtain ⟨tp, cd, cl, g1, g2, g3, xs, v32, v33, v34, hh, hxs, hp1, hp2, hp8, hp9, hp13, hp24, hp25, hp29, hp31, hp43, hp53, ⟨hp32, hp33, hp34⟩, htp, hcd, hcl⟩ := hM
  exact ⟨_, hh⟩
theorem py_sw34 (x : Int32) : x = 0 ∨ x = 1 ∨ x = 2 ∨ x = 3 ∨ x = 4 ∨ x = 5 ∨ x = 6 ∨ x = 7 ∨ x = 8 ∨ x = 9 ∨ x = 10 ∨ x = 11 ∨ x = 12 ∨ x = 13 ∨ x = 14 ∨ x = 15 ∨ x = 16 ∨ x = 17 ∨ x = 18 ∨ x = 19 ∨ x = 20 ∨ x = 21 ∨ x = 22 ∨ x = 23 ∨ x = 24 ∨ x = 25 ∨ x = 26 ∨ x = 27 ∨ x = 28 ∨ x = 29 ∨ x = 30 ∨ x = 31 ∨ x = 32 ∨ x = 33 ∨ (x.toInt < 0 ∨ 33 < x.toInt) := by
  by_cases h : x.toInt < 0 ∨ 33 < x.toInt
  · exact Or.inr (Or.inr (Or.inr (Or.inr (Or.inr (Or.inr (Or.inr (Or.inr (Or.inr (Or.inr (Or.inr (Or.inr (Or.inr (Or.inr (Or.inr (Or.inr (Or.inr (Or.inr (Or.inr (Or.inr (Or.inr (Or.inr (Or.inr (Or.inr (Or.inr (Or.inr (Or.inr (Or.inr (Or.inr (Or.inr (Or.inr (Or.inr (Or.inr (Or.inr (h))))))))))))))))))))))))))))))))))
  · have h2 : x.toInt = 0 ∨ x.toInt = 1 ∨ x.toInt = 2 ∨ x.toInt = 3 ∨ x.toInt = 4 ∨ x.toInt = 5 ∨ x.toInt = 6 ∨ x.toInt = 7 ∨ x.toInt = 8 ∨ x.toInt = 9 ∨ x.toInt = 10 ∨ x.toInt = 11 ∨ x.toInt = 12 ∨ x.toInt = 13 ∨ x.toInt = 14 ∨ x.toInt = 15 ∨ x.toInt = 16 ∨ x.toInt = 17 ∨ x.toInt = 18 ∨ x.toInt = 19 ∨ x.toInt = 20 ∨ x.toInt = 21 ∨ x.toInt = 22 ∨ x.toInt = 23 ∨ x.toInt = 24 ∨ x.toInt = 25 ∨ x.toInt = 26 ∨ x.toInt = 27 ∨ x.toInt = 28 ∨ x.toInt = 29 ∨ x.toInt = 30 ∨ x.toInt = 31 ∨ x.toInt = 32 ∨ x.toInt = 33 := by omega
    rcases h2 with h2 | h2 | h2 | h2 | h2 | h2 | h2 | h2 | h2 | h2 | h2 | h2 | h2 | h2 | h2 | h2 | h2 | h2 | h2 | h2 | h2 | h2 | h2 | h2 | h2 | h2 | h2 | h2 | h2 | h2 | h2 | h2 | h2 | h2
    · exact Or.inl (Int32.toInt_inj.mp h2)
    · exact Or.inr (Or.inl (Int32.toInt_inj.mp h2))
    · exact Or.inr (Or.inr (Or.inl (Int32.toInt_inj.mp h2)))
    · exact Or.inr (Or.inr (Or.inr (Or.inl (Int32.toInt_inj.mp h2))))
    · exact Or.inr (Or.inr (Or.inr (Or.inr (Or.inl (Int32.toInt_inj.mp h2)))))
    · exact Or.inr (Or.inr (Or.inr (Or.inr (Or.inr (Or.inl (Int32.toInt_inj.mp h2))))))
    · exact Or.inr (Or.inr (Or.inr (Or.inr (Or.inr (Or.inr (Or.inl (Int32.toInt_inj.mp h2)))))))
    · exact Or.inr (Or.inr (Or.inr (Or.inr (Or.inr (Or.inr (Or.inr (Or.inl (Int32.toInt_inj.mp h2))))))))
    · exact Or.inr (Or.inr (Or.inr (Or.inr (Or.inr (Or.inr (Or.inr (Or.inr (Or.inl (Int32.toInt_inj.mp h2)))))))))
    · exact Or.inr (Or.inr (Or.inr (Or.inr (Or.inr (Or.inr (Or.inr (Or.inr (Or.inr (Or.inl (Int32.toInt_inj.mp h2))))))))))
    · exact Or.inr (Or.inr (Or.inr (Or.inr (Or.inr (Or.inr (Or.inr (Or.inr (Or.inr (Or.inr (Or.inl (Int32.toInt_inj.mp h2)))))))))))
    · exact Or.inr (Or.inr (Or.inr (Or.inr (Or.inr (Or.inr (Or.inr (Or.inr (Or.inr (Or.inr (Or.inr (Or.inl (Int32.toInt_inj.mp h2))))))))))))
    · exact Or.inr (Or.inr (Or.inr (Or.inr (Or.inr (Or.inr (Or.inr (Or.inr (Or.inr (Or.inr (Or.inr (Or.inr (Or.inl (Int32.toInt_inj.mp h2)))))))))))))
    · exact Or.inr (Or.inr (Or.inr (Or.inr (Or.inr (Or.inr (Or.inr (Or.inr (Or.inr (Or.inr (Or.inr (Or.inr (Or.inr (Or.inl (Int32.toInt_inj.mp h2))))))))))))))
    · exact Or.inr (Or.inr (Or.inr (Or.inr (Or.inr (Or.inr (Or.inr (Or.inr (Or.inr (Or.inr (Or.inr (Or.inr (Or.inr (Or.inr (Or.inl (Int32.toInt_inj.mp h2)))))))))))))))
    · exact Or.inr (Or.inr (Or.inr (Or.inr (Or.inr (Or.inr (Or.inr (Or.inr (Or.inr (Or.inr (Or.inr (Or.inr (Or.inr (Or.inr (Or.inr (Or.inl (Int32.toInt_inj.mp h2))))))))))))))))
    · exact Or.inr (Or.inr (Or.inr (Or.inr (Or.inr (Or.inr (Or.inr (Or.inr (Or.inr (Or.inr (Or.inr (Or.inr (Or.inr (Or.inr (Or.inr (Or.inr (Or.inl (Int32.toInt_inj.mp h2)))))))))))))))))
    · exact Or.inr (Or.inr (Or.inr (Or.inr (Or.inr (Or.inr (Or.inr (Or.inr (Or.inr (Or.inr (Or.inr (Or.inr (Or.inr (Or.inr (Or.inr (Or.inr (Or.inr (Or.inl (Int32.toInt_inj.mp h2))))))))))))))))))
    · exact Or.inr (Or.inr (Or.inr (Or.inr (Or.inr (Or.inr (Or.inr (Or.inr (Or.inr (Or.inr (Or.inr (Or.inr (Or.inr (Or.inr (Or.inr (Or.inr (Or.inr (Or.inr (Or.inl (Int32.toInt_inj.mp h2)))))))))))))))))))
    · exact Or.inr (Or.inr (Or.inr (Or.inr (Or.inr (Or.inr (Or.inr (Or.inr (Or.inr (Or.inr (Or.inr (Or.inr (Or.inr (Or.inr (Or.inr (Or.inr (Or.inr (Or.inr (Or.inr (Or.inl (Int32.toInt_inj.mp h2))))))))))))))))))))
    · exact Or.inr (Or.inr (Or.inr (Or.inr (Or.inr (Or.inr (Or.inr (Or.inr (Or.inr (Or.inr (Or.inr (Or.inr (Or.inr (Or.inr (Or.inr (Or.inr (Or.inr (Or.inr (Or.inr (Or.inr (Or.inl (Int32.toInt_inj.mp h2)))))))))))))))))))))
    · exact Or.inr (Or.inr (Or.inr (Or.inr (Or.inr (Or.inr (Or.inr (Or.inr (Or.inr (Or.inr (Or.inr (Or.inr (Or.inr (Or.inr (Or.inr (Or.inr (Or.inr (Or.inr (Or.inr (Or.inr (Or.inr (Or.inl (Int32.toInt_inj.mp h2))))))))))))))))))))))
    · exact Or.inr (Or.inr (Or.inr (Or.inr (Or.inr (Or.inr (Or.inr (Or.inr (Or.inr (Or.inr (Or.inr (Or.inr (Or.inr (Or.inr (Or.inr (Or.inr (Or.inr (Or.inr (Or.inr (Or.inr (Or.inr (Or.inr (Or.inl (Int32.toInt_inj.mp h2)))))))))))))))))))))))
    · exact Or.inr (Or.inr (Or.inr (Or.inr (Or.inr (Or.inr (Or.inr (Or.inr (Or.inr (Or.inr (Or.inr (Or.inr (Or.inr (Or.inr (Or.inr (Or.inr (Or.inr (Or.inr (Or.inr (Or.inr (Or.inr (Or.inr (Or.inr (Or.inl (Int32.toInt_inj.mp h2))))))))))))))))))))))))
    · exact Or.inr (Or.inr (Or.inr (Or.inr (Or.inr (Or.inr (Or.inr (Or.inr (Or.inr (Or.inr (Or.inr (Or.inr (Or.inr (Or.inr (Or.inr (Or.inr (Or.inr (Or.inr (Or.inr (Or.inr (Or.inr (Or.inr (Or.inr (Or.inr (Or.inl (Int32.toInt_inj.mp h2)))))))))))))))))))))))))
    · exact Or.inr (Or.inr (Or.inr (Or.inr (Or.inr (Or.inr (Or.inr (Or.inr (Or.inr (Or.inr (Or.inr (Or.inr (Or.inr (Or.inr (Or.inr (Or.inr (Or.inr (Or.inr (Or.inr (Or.inr (Or.inr (Or.inr (Or.inr (Or.inr (Or.inr (Or.inl (Int32.toInt_inj.mp h2))))))))))))))))))))))))))
    · exact Or.inr (Or.inr (Or.inr (Or.inr (Or.inr (Or.inr (Or.inr (Or.inr (Or.inr (Or.inr (Or.inr (Or.inr (Or.inr (Or.inr (Or.inr (Or.inr (Or.inr (Or.inr (Or.inr (Or.inr (Or.inr (Or.inr (Or.inr (Or.inr (Or.inr (Or.inr (Or.inl (Int32.toInt_inj.mp h2)))))))))))))))))))))))))))
    · exact Or.inr (Or.inr (Or.inr (Or.inr (Or.inr (Or.inr (Or.inr (Or.inr (Or.inr (Or.inr (Or.inr (Or.inr (Or.inr (Or.inr (Or.inr (Or.inr (Or.inr (Or.inr (Or.inr (Or.inr (Or.inr (Or.inr (Or.inr (Or.inr (Or.inr (Or.inr (Or.inr (Or.inl (Int32.toInt_inj.mp h2))))))))))))))))))))))))))))
    · exact Or.inr (Or.inr (Or.inr (Or.inr (Or.inr (Or.inr (Or.inr (Or.inr (Or.inr (Or.inr (Or.inr (Or.inr (Or.inr (Or.inr (Or.inr (Or.inr (Or.inr (Or.inr (Or.inr (Or.inr (Or.inr (Or.inr (Or.inr (Or.inr (Or.inr (Or.inr (Or.inr (Or.inr (Or.inl (Int32.toInt_inj.mp h2)))))))))))))))))))))))))))))
    · exact Or.inr (Or.inr (Or.inr (Or.inr (Or.inr (Or.inr (Or.inr (Or.inr (Or.inr (Or.inr (Or.inr (Or.inr (Or.inr (Or.inr (Or.inr (Or.inr (Or.inr (Or.inr (Or.inr (Or.inr (Or.inr (Or.inr (Or.inr (Or.inr (Or.inr (Or.inr (Or.inr (Or.inr (Or.inr (Or.inl (Int32.toInt_inj.mp h2))))))))))))))))))))))))))))))
    · exact Or.inr (Or.inr (Or.inr (Or.inr (Or.inr (Or.inr (Or.inr (Or.inr (Or.inr (Or.inr (Or.inr (Or.inr (Or.inr (Or.inr (Or.inr (Or.inr (Or.inr (Or.inr (Or.inr (Or.inr (Or.inr (Or.inr (Or.inr (Or.inr (Or.inr (Or.inr (Or.inr (Or.inr (Or.inr (Or.inr (Or.inl (Int32.toInt_inj.mp h2)))))))))))))))))))))))))))))))
    · exact Or.inr (Or.inr (Or.inr (Or.inr (Or.inr (Or.inr (Or.inr (Or.inr (Or.inr (Or.inr (Or.inr (Or.inr (Or.inr (Or.inr (Or.inr (Or.inr (Or.inr (Or.inr (Or.inr (Or.inr (Or.inr (Or.inr (Or.inr (Or.inr (Or.inr (Or.inr (Or.inr (Or.inr (Or.inr (Or.inr (Or.inr (Or.inl (Int32.toInt_inj.mp h2))))))))))))))))))))))))))))))))
    · exact Or.inr (Or.inr (Or.inr (Or.inr (Or.inr (Or.inr (Or.inr (Or.inr (Or.inr (Or.inr (Or.inr (Or.inr (Or.inr (Or.inr (Or.inr (Or.inr (Or.inr (Or.inr (Or.inr (Or.inr (Or.inr (Or.inr (Or.inr (Or.inr (Or.inr (Or.inr (Or.inr (Or.inr (Or.inr (Or.inr (Or.inr (Or.inr (Or.inl (Int32.toInt_inj.mp h2)))))))))))))))))))))))))))))))))
    · exact Or.inr (Or.inr (Or.inr (Or.inr (Or.inr (Or.inr (Or.inr (Or.inr (Or.inr (Or.inr (Or.inr (Or.inr (Or.inr (Or.inr (Or.inr (Or.inr (Or.inr (Or.inr (Or.inr (Or.inr (Or.inr (Or.inr (Or.inr (Or.inr (Or.inr (Or.inr (Or.inr (Or.inr (Or.inr (Or.inr (Or.inr (Or.inr (Or.inr (Or.inl (Int32.toInt_inj.mp h2))))))))))))))))))))))))))))))))))
theorem dL_law_0 : decode cL_law 0 = .ok (.new 8, 3) := by decide +kernel
theorem dL_law_3 : decode cL_law 3 = .ok (.dup, 1) := by decide +kernel
theorem dL_law_4 : decode cL_law 4 = .ok (.invokespecial 15, 3) := by decide +kernel
theorem dL_law_7 : decode cL_law 7 = .ok (.astore_n 1, 1) := by decide +kernel
theorem dL_law_8 : decode cL_law 8 = .ok (.new 16, 3) := by decide +kernel
theorem dL_law_11 : decode cL_law 11 = .ok (.dup, 1) := by decide +kernel
theorem dL_law_12 : decode cL_law 12 = .ok (.invokespecial 18, 3) := by decide +kernel
theorem dL_law_15 : decode cL_law 15 = .ok (.astore_n 2, 1) := by decide +kernel
theorem dL_law_16 : decode cL_law 16 = .ok (.iconst 1, 1) := by decide +kernel
theorem dL_law_17 : decode cL_law 17 = .ok (.newarray .long, 2) := by decide +kernel
theorem dL_law_19 : decode cL_law 19 = .ok (.astore_n 3, 1) := by decide +kernel
theorem dL_law_20 : decode cL_law 20 = .ok (.iconst 0, 1) := by decide +kernel
theorem dL_law_21 : decode cL_law 21 = .ok (.istore 4, 2) := by decide +kernel
theorem dL_law_23 : decode cL_law 23 = .ok (.iload 4, 2) := by decide +kernel
theorem dL_law_25 : decode cL_law 25 = .ok (.aload_n 0, 1) := by decide +kernel
theorem dL_law_26 : decode cL_law 26 = .ok (.arraylength, 1) := by decide +kernel
theorem dL_law_27 : decode cL_law 27 = .ok (.bipush 6, 2) := by decide +kernel
theorem dL_law_29 : decode cL_law 29 = .ok (.isub, 1) := by decide +kernel
theorem dL_law_30 : decode cL_law 30 = .ok (.if_icmp .gt 1326, 3) := by decide +kernel
theorem dL_law_33 : decode cL_law 33 = .ok (.aload_n 0, 1) := by decide +kernel
theorem dL_law_34 : decode cL_law 34 = .ok (.iload 4, 2) := by decide +kernel
theorem dL_law_36 : decode cL_law 36 = .ok (.iaload, 1) := by decide +kernel
theorem dL_law_37 : decode cL_law 37 = .ok (.bipush 63, 2) := by decide +kernel
theorem dL_law_39 : decode cL_law 39 = .ok (.iand, 1) := by decide +kernel
theorem dL_law_40 : decode cL_law 40 = .ok (.tableswitch 1310 0 33 #[152, 225, 250, 275, 300, 368, 405, 442, 467, 504, 561, 586, 599, 636, 649, 702, 715, 740, 765, 814, 875, 912, 961, 998, 1011, 1036, 1061, 1110, 1135, 1160, 1198, 1259, 1272, 1285], 152) := by decide +kernel
theorem dL_law_192 : decode cL_law 192 = .ok (.aload_n 1, 1) := by decide +kernel
theorem dL_law_193 : decode cL_law 193 = .ok (.aload_n 0, 1) := by decide +kernel
theorem dL_law_194 : decode cL_law 194 = .ok (.iload 4, 2) := by decide +kernel
theorem dL_law_196 : decode cL_law 196 = .ok (.iconst 1, 1) := by decide +kernel
theorem dL_law_197 : decode cL_law 197 = .ok (.iadd, 1) := by decide +kernel
theorem dL_law_198 : decode cL_law 198 = .ok (.iaload, 1) := by decide +kernel
theorem dL_law_199 : decode cL_law 199 = .ok (.aload_n 0, 1) := by decide +kernel
theorem dL_law_200 : decode cL_law 200 = .ok (.iload 4, 2) := by decide +kernel
theorem dL_law_202 : decode cL_law 202 = .ok (.iconst 2, 1) := by decide +kernel
theorem dL_law_203 : decode cL_law 203 = .ok (.iadd, 1) := by decide +kernel
theorem dL_law_204 : decode cL_law 204 = .ok (.iaload, 1) := by decide +kernel
theorem dL_law_205 : decode cL_law 205 = .ok (.aload_n 0, 1) := by decide +kernel
theorem dL_law_206 : decode cL_law 206 = .ok (.iload 4, 2) := by decide +kernel
theorem dL_law_208 : decode cL_law 208 = .ok (.iconst 3, 1) := by decide +kernel
theorem dL_law_209 : decode cL_law 209 = .ok (.iadd, 1) := by decide +kernel
theorem dL_law_210 : decode cL_law 210 = .ok (.iaload, 1) := by decide +kernel
theorem dL_law_211 : decode cL_law 211 = .ok (.aload_n 0, 1) := by decide +kernel
theorem dL_law_212 : decode cL_law 212 = .ok (.iload 4, 2) := by decide +kernel
theorem dL_law_214 : decode cL_law 214 = .ok (.iconst 4, 1) := by decide +kernel
theorem dL_law_215 : decode cL_law 215 = .ok (.iadd, 1) := by decide +kernel
theorem dL_law_216 : decode cL_law 216 = .ok (.iaload, 1) := by decide +kernel
theorem dL_law_217 : decode cL_law 217 = .ok (.aload_n 0, 1) := by decide +kernel
theorem dL_law_218 : decode cL_law 218 = .ok (.iload 4, 2) := by decide +kernel
theorem dL_law_220 : decode cL_law 220 = .ok (.iconst 5, 1) := by decide +kernel
theorem dL_law_221 : decode cL_law 221 = .ok (.iadd, 1) := by decide +kernel
theorem dL_law_222 : decode cL_law 222 = .ok (.iaload, 1) := by decide +kernel
theorem dL_law_223 : decode cL_law 223 = .ok (.invokevirtual 19, 3) := by decide +kernel
theorem dL_law_226 : decode cL_law 226 = .ok (.aload_n 2, 1) := by decide +kernel
theorem dL_law_227 : decode cL_law 227 = .ok (.aload_n 0, 1) := by decide +kernel
theorem dL_law_228 : decode cL_law 228 = .ok (.iload 4, 2) := by decide +kernel
theorem dL_law_230 : decode cL_law 230 = .ok (.iconst 1, 1) := by decide +kernel
theorem dL_law_231 : decode cL_law 231 = .ok (.iadd, 1) := by decide +kernel
theorem dL_law_232 : decode cL_law 232 = .ok (.iaload, 1) := by decide +kernel
theorem dL_law_233 : decode cL_law 233 = .ok (.aload_n 0, 1) := by decide +kernel
theorem dL_law_234 : decode cL_law 234 = .ok (.iload 4, 2) := by decide +kernel
theorem dL_law_236 : decode cL_law 236 = .ok (.iconst 2, 1) := by decide +kernel
theorem dL_law_237 : decode cL_law 237 = .ok (.iadd, 1) := by decide +kernel
theorem dL_law_238 : decode cL_law 238 = .ok (.iaload, 1) := by decide +kernel
theorem dL_law_239 : decode cL_law 239 = .ok (.aload_n 0, 1) := by decide +kernel
theorem dL_law_240 : decode cL_law 240 = .ok (.iload 4, 2) := by decide +kernel
theorem dL_law_242 : decode cL_law 242 = .ok (.iconst 3, 1) := by decide +kernel
theorem dL_law_243 : decode cL_law 243 = .ok (.iadd, 1) := by decide +kernel
theorem dL_law_244 : decode cL_law 244 = .ok (.iaload, 1) := by decide +kernel
theorem dL_law_245 : decode cL_law 245 = .ok (.aload_n 0, 1) := by decide +kernel
theorem dL_law_246 : decode cL_law 246 = .ok (.iload 4, 2) := by decide +kernel
theorem dL_law_248 : decode cL_law 248 = .ok (.iconst 4, 1) := by decide +kernel
theorem dL_law_249 : decode cL_law 249 = .ok (.iadd, 1) := by decide +kernel
theorem dL_law_250 : decode cL_law 250 = .ok (.iaload, 1) := by decide +kernel
theorem dL_law_251 : decode cL_law 251 = .ok (.aload_n 0, 1) := by decide +kernel
theorem dL_law_252 : decode cL_law 252 = .ok (.iload 4, 2) := by decide +kernel
theorem dL_law_254 : decode cL_law 254 = .ok (.iconst 5, 1) := by decide +kernel
theorem dL_law_255 : decode cL_law 255 = .ok (.iadd, 1) := by decide +kernel
theorem dL_law_256 : decode cL_law 256 = .ok (.iaload, 1) := by decide +kernel
theorem dL_law_257 : decode cL_law 257 = .ok (.invokevirtual 23, 3) := by decide +kernel
theorem dL_law_260 : decode cL_law 260 = .ok (.if_icmp .eq 1090, 3) := by decide +kernel
theorem dL_law_265 : decode cL_law 265 = .ok (.aload_n 1, 1) := by decide +kernel
theorem dL_law_266 : decode cL_law 266 = .ok (.aload_n 0, 1) := by decide +kernel
theorem dL_law_267 : decode cL_law 267 = .ok (.iload 4, 2) := by decide +kernel
theorem dL_law_269 : decode cL_law 269 = .ok (.iconst 1, 1) := by decide +kernel
theorem dL_law_270 : decode cL_law 270 = .ok (.iadd, 1) := by decide +kernel
theorem dL_law_271 : decode cL_law 271 = .ok (.iaload, 1) := by decide +kernel
theorem dL_law_272 : decode cL_law 272 = .ok (.invokevirtual 24, 3) := by decide +kernel
theorem dL_law_275 : decode cL_law 275 = .ok (.aload_n 2, 1) := by decide +kernel
theorem dL_law_276 : decode cL_law 276 = .ok (.aload_n 0, 1) := by decide +kernel
theorem dL_law_277 : decode cL_law 277 = .ok (.iload 4, 2) := by decide +kernel
theorem dL_law_279 : decode cL_law 279 = .ok (.iconst 1, 1) := by decide +kernel
theorem dL_law_280 : decode cL_law 280 = .ok (.iadd, 1) := by decide +kernel
theorem dL_law_281 : decode cL_law 281 = .ok (.iaload, 1) := by decide +kernel
theorem dL_law_282 : decode cL_law 282 = .ok (.invokevirtual 28, 3) := by decide +kernel
theorem dL_law_285 : decode cL_law 285 = .ok (.if_icmp .eq 1065, 3) := by decide +kernel
theorem dL_law_290 : decode cL_law 290 = .ok (.aload_n 1, 1) := by decide +kernel
theorem dL_law_291 : decode cL_law 291 = .ok (.aload_n 0, 1) := by decide +kernel
theorem dL_law_292 : decode cL_law 292 = .ok (.iload 4, 2) := by decide +kernel
theorem dL_law_294 : decode cL_law 294 = .ok (.iconst 1, 1) := by decide +kernel
theorem dL_law_295 : decode cL_law 295 = .ok (.iadd, 1) := by decide +kernel
theorem dL_law_296 : decode cL_law 296 = .ok (.iaload, 1) := by decide +kernel
theorem dL_law_297 : decode cL_law 297 = .ok (.invokevirtual 29, 3) := by decide +kernel
theorem dL_law_300 : decode cL_law 300 = .ok (.aload_n 2, 1) := by decide +kernel
theorem dL_law_301 : decode cL_law 301 = .ok (.aload_n 0, 1) := by decide +kernel
theorem dL_law_302 : decode cL_law 302 = .ok (.iload 4, 2) := by decide +kernel
theorem dL_law_304 : decode cL_law 304 = .ok (.iconst 1, 1) := by decide +kernel
theorem dL_law_305 : decode cL_law 305 = .ok (.iadd, 1) := by decide +kernel
theorem dL_law_306 : decode cL_law 306 = .ok (.iaload, 1) := by decide +kernel
theorem dL_law_307 : decode cL_law 307 = .ok (.invokevirtual 33, 3) := by decide +kernel
theorem dL_law_310 : decode cL_law 310 = .ok (.if_icmp .eq 1040, 3) := by decide +kernel
theorem dL_law_315 : decode cL_law 315 = .ok (.aload_n 1, 1) := by decide +kernel
theorem dL_law_316 : decode cL_law 316 = .ok (.aload_n 0, 1) := by decide +kernel
theorem dL_law_317 : decode cL_law 317 = .ok (.iload 4, 2) := by decide +kernel
theorem dL_law_319 : decode cL_law 319 = .ok (.iconst 1, 1) := by decide +kernel
theorem dL_law_320 : decode cL_law 320 = .ok (.iadd, 1) := by decide +kernel
theorem dL_law_321 : decode cL_law 321 = .ok (.iaload, 1) := by decide +kernel
theorem dL_law_322 : decode cL_law 322 = .ok (.invokevirtual 34, 3) := by decide +kernel
theorem dL_law_325 : decode cL_law 325 = .ok (.aload_n 2, 1) := by decide +kernel
theorem dL_law_326 : decode cL_law 326 = .ok (.aload_n 0, 1) := by decide +kernel
theorem dL_law_327 : decode cL_law 327 = .ok (.iload 4, 2) := by decide +kernel
theorem dL_law_329 : decode cL_law 329 = .ok (.iconst 1, 1) := by decide +kernel
theorem dL_law_330 : decode cL_law 330 = .ok (.iadd, 1) := by decide +kernel
theorem dL_law_331 : decode cL_law 331 = .ok (.iaload, 1) := by decide +kernel
theorem dL_law_332 : decode cL_law 332 = .ok (.invokevirtual 37, 3) := by decide +kernel
theorem dL_law_335 : decode cL_law 335 = .ok (.if_icmp .eq 1015, 3) := by decide +kernel
theorem dL_law_340 : decode cL_law 340 = .ok (.aload_n 1, 1) := by decide +kernel
theorem dL_law_341 : decode cL_law 341 = .ok (.aload_n 0, 1) := by decide +kernel
theorem dL_law_342 : decode cL_law 342 = .ok (.iload 4, 2) := by decide +kernel
theorem dL_law_344 : decode cL_law 344 = .ok (.iconst 1, 1) := by decide +kernel
theorem dL_law_345 : decode cL_law 345 = .ok (.iadd, 1) := by decide +kernel
theorem dL_law_346 : decode cL_law 346 = .ok (.iaload, 1) := by decide +kernel
theorem dL_law_347 : decode cL_law 347 = .ok (.aload_n 0, 1) := by decide +kernel
theorem dL_law_348 : decode cL_law 348 = .ok (.iload 4, 2) := by decide +kernel
theorem dL_law_350 : decode cL_law 350 = .ok (.iconst 2, 1) := by decide +kernel
theorem dL_law_351 : decode cL_law 351 = .ok (.iadd, 1) := by decide +kernel
theorem dL_law_352 : decode cL_law 352 = .ok (.iaload, 1) := by decide +kernel
theorem dL_law_353 : decode cL_law 353 = .ok (.aload_n 3, 1) := by decide +kernel
theorem dL_law_354 : decode cL_law 354 = .ok (.invokestatic 38, 3) := by decide +kernel
theorem dL_law_357 : decode cL_law 357 = .ok (.istore 5, 2) := by decide +kernel
theorem dL_law_359 : decode cL_law 359 = .ok (.aload_n 2, 1) := by decide +kernel
theorem dL_law_360 : decode cL_law 360 = .ok (.aload_n 0, 1) := by decide +kernel
theorem dL_law_361 : decode cL_law 361 = .ok (.iload 4, 2) := by decide +kernel
theorem dL_law_363 : decode cL_law 363 = .ok (.iconst 1, 1) := by decide +kernel
theorem dL_law_364 : decode cL_law 364 = .ok (.iadd, 1) := by decide +kernel
theorem dL_law_365 : decode cL_law 365 = .ok (.iaload, 1) := by decide +kernel
theorem dL_law_366 : decode cL_law 366 = .ok (.aload_n 0, 1) := by decide +kernel
theorem dL_law_367 : decode cL_law 367 = .ok (.iload 4, 2) := by decide +kernel
theorem dL_law_369 : decode cL_law 369 = .ok (.iconst 2, 1) := by decide +kernel
theorem dL_law_370 : decode cL_law 370 = .ok (.iadd, 1) := by decide +kernel
theorem dL_law_371 : decode cL_law 371 = .ok (.iaload, 1) := by decide +kernel
theorem dL_law_372 : decode cL_law 372 = .ok (.invokevirtual 43, 3) := by decide +kernel
theorem dL_law_375 : decode cL_law 375 = .ok (.istore 6, 2) := by decide +kernel
theorem dL_law_377 : decode cL_law 377 = .ok (.aload_n 2, 1) := by decide +kernel
theorem dL_law_378 : decode cL_law 378 = .ok (.invokevirtual 44, 3) := by decide +kernel
theorem dL_law_381 : decode cL_law 381 = .ok (.iload 5, 2) := by decide +kernel
theorem dL_law_383 : decode cL_law 383 = .ok (.if_icmp .eq 5, 3) := by decide +kernel
theorem dL_law_388 : decode cL_law 388 = .ok (.iload 5, 2) := by decide +kernel
theorem dL_law_390 : decode cL_law 390 = .ok (.ifCond .ne 15, 3) := by decide +kernel
theorem dL_law_405 : decode cL_law 405 = .ok (.goto 945, 3) := by decide +kernel
theorem dL_law_408 : decode cL_law 408 = .ok (.aload_n 1, 1) := by decide +kernel
theorem dL_law_409 : decode cL_law 409 = .ok (.aload_n 0, 1) := by decide +kernel
theorem dL_law_410 : decode cL_law 410 = .ok (.iload 4, 2) := by decide +kernel
theorem dL_law_412 : decode cL_law 412 = .ok (.iconst 1, 1) := by decide +kernel
theorem dL_law_413 : decode cL_law 413 = .ok (.iadd, 1) := by decide +kernel
theorem dL_law_414 : decode cL_law 414 = .ok (.iaload, 1) := by decide +kernel
theorem dL_law_415 : decode cL_law 415 = .ok (.aload_n 0, 1) := by decide +kernel
theorem dL_law_416 : decode cL_law 416 = .ok (.iload 4, 2) := by decide +kernel
theorem dL_law_418 : decode cL_law 418 = .ok (.iconst 2, 1) := by decide +kernel
theorem dL_law_419 : decode cL_law 419 = .ok (.iadd, 1) := by decide +kernel
theorem dL_law_420 : decode cL_law 420 = .ok (.iaload, 1) := by decide +kernel
theorem dL_law_421 : decode cL_law 421 = .ok (.invokevirtual 48, 3) := by decide +kernel
theorem dL_law_424 : decode cL_law 424 = .ok (.aload_n 2, 1) := by decide +kernel
theorem dL_law_425 : decode cL_law 425 = .ok (.aload_n 0, 1) := by decide +kernel
theorem dL_law_426 : decode cL_law 426 = .ok (.iload 4, 2) := by decide +kernel
theorem dL_law_428 : decode cL_law 428 = .ok (.iconst 1, 1) := by decide +kernel
theorem dL_law_429 : decode cL_law 429 = .ok (.iadd, 1) := by decide +kernel
theorem dL_law_430 : decode cL_law 430 = .ok (.iaload, 1) := by decide +kernel
theorem dL_law_431 : decode cL_law 431 = .ok (.aload_n 0, 1) := by decide +kernel
theorem dL_law_432 : decode cL_law 432 = .ok (.iload 4, 2) := by decide +kernel
theorem dL_law_434 : decode cL_law 434 = .ok (.iconst 2, 1) := by decide +kernel
theorem dL_law_435 : decode cL_law 435 = .ok (.iadd, 1) := by decide +kernel
theorem dL_law_436 : decode cL_law 436 = .ok (.iaload, 1) := by decide +kernel
theorem dL_law_437 : decode cL_law 437 = .ok (.invokevirtual 51, 3) := by decide +kernel
theorem dL_law_440 : decode cL_law 440 = .ok (.if_icmp .eq 910, 3) := by decide +kernel
theorem dL_law_445 : decode cL_law 445 = .ok (.aload_n 1, 1) := by decide +kernel
theorem dL_law_446 : decode cL_law 446 = .ok (.aload_n 0, 1) := by decide +kernel
theorem dL_law_447 : decode cL_law 447 = .ok (.iload 4, 2) := by decide +kernel
theorem dL_law_449 : decode cL_law 449 = .ok (.iconst 1, 1) := by decide +kernel
theorem dL_law_450 : decode cL_law 450 = .ok (.iadd, 1) := by decide +kernel
theorem dL_law_451 : decode cL_law 451 = .ok (.iaload, 1) := by decide +kernel
theorem dL_law_452 : decode cL_law 452 = .ok (.aload_n 0, 1) := by decide +kernel
theorem dL_law_453 : decode cL_law 453 = .ok (.iload 4, 2) := by decide +kernel
theorem dL_law_455 : decode cL_law 455 = .ok (.iconst 2, 1) := by decide +kernel
theorem dL_law_456 : decode cL_law 456 = .ok (.iadd, 1) := by decide +kernel
theorem dL_law_457 : decode cL_law 457 = .ok (.iaload, 1) := by decide +kernel
theorem dL_law_458 : decode cL_law 458 = .ok (.invokevirtual 52, 3) := by decide +kernel
theorem dL_law_461 : decode cL_law 461 = .ok (.aload_n 2, 1) := by decide +kernel
theorem dL_law_462 : decode cL_law 462 = .ok (.aload_n 0, 1) := by decide +kernel
theorem dL_law_463 : decode cL_law 463 = .ok (.iload 4, 2) := by decide +kernel
theorem dL_law_465 : decode cL_law 465 = .ok (.iconst 1, 1) := by decide +kernel
theorem dL_law_466 : decode cL_law 466 = .ok (.iadd, 1) := by decide +kernel
theorem dL_law_467 : decode cL_law 467 = .ok (.iaload, 1) := by decide +kernel
theorem dL_law_468 : decode cL_law 468 = .ok (.aload_n 0, 1) := by decide +kernel
theorem dL_law_469 : decode cL_law 469 = .ok (.iload 4, 2) := by decide +kernel
theorem dL_law_471 : decode cL_law 471 = .ok (.iconst 2, 1) := by decide +kernel
theorem dL_law_472 : decode cL_law 472 = .ok (.iadd, 1) := by decide +kernel
theorem dL_law_473 : decode cL_law 473 = .ok (.iaload, 1) := by decide +kernel
theorem dL_law_474 : decode cL_law 474 = .ok (.invokevirtual 55, 3) := by decide +kernel
theorem dL_law_477 : decode cL_law 477 = .ok (.if_icmp .eq 873, 3) := by decide +kernel
theorem dL_law_482 : decode cL_law 482 = .ok (.aload_n 1, 1) := by decide +kernel
theorem dL_law_483 : decode cL_law 483 = .ok (.aload_n 0, 1) := by decide +kernel
theorem dL_law_484 : decode cL_law 484 = .ok (.iload 4, 2) := by decide +kernel
theorem dL_law_486 : decode cL_law 486 = .ok (.iconst 1, 1) := by decide +kernel
theorem dL_law_487 : decode cL_law 487 = .ok (.iadd, 1) := by decide +kernel
theorem dL_law_488 : decode cL_law 488 = .ok (.iaload, 1) := by decide +kernel
theorem dL_law_489 : decode cL_law 489 = .ok (.invokevirtual 56, 3) := by decide +kernel
theorem dL_law_492 : decode cL_law 492 = .ok (.aload_n 2, 1) := by decide +kernel
theorem dL_law_493 : decode cL_law 493 = .ok (.aload_n 0, 1) := by decide +kernel
theorem dL_law_494 : decode cL_law 494 = .ok (.iload 4, 2) := by decide +kernel
theorem dL_law_496 : decode cL_law 496 = .ok (.iconst 1, 1) := by decide +kernel
theorem dL_law_497 : decode cL_law 497 = .ok (.iadd, 1) := by decide +kernel
theorem dL_law_498 : decode cL_law 498 = .ok (.iaload, 1) := by decide +kernel
theorem dL_law_499 : decode cL_law 499 = .ok (.invokevirtual 59, 3) := by decide +kernel
theorem dL_law_502 : decode cL_law 502 = .ok (.if_icmp .eq 848, 3) := by decide +kernel
theorem dL_law_507 : decode cL_law 507 = .ok (.aload_n 1, 1) := by decide +kernel
theorem dL_law_508 : decode cL_law 508 = .ok (.aload_n 0, 1) := by decide +kernel
theorem dL_law_509 : decode cL_law 509 = .ok (.iload 4, 2) := by decide +kernel
theorem dL_law_511 : decode cL_law 511 = .ok (.iconst 1, 1) := by decide +kernel
theorem dL_law_512 : decode cL_law 512 = .ok (.iadd, 1) := by decide +kernel
theorem dL_law_513 : decode cL_law 513 = .ok (.iaload, 1) := by decide +kernel
theorem dL_law_514 : decode cL_law 514 = .ok (.aload_n 0, 1) := by decide +kernel
theorem dL_law_515 : decode cL_law 515 = .ok (.iload 4, 2) := by decide +kernel
theorem dL_law_517 : decode cL_law 517 = .ok (.iconst 2, 1) := by decide +kernel
theorem dL_law_518 : decode cL_law 518 = .ok (.iadd, 1) := by decide +kernel
theorem dL_law_519 : decode cL_law 519 = .ok (.iaload, 1) := by decide +kernel
theorem dL_law_520 : decode cL_law 520 = .ok (.invokevirtual 60, 3) := by decide +kernel
theorem dL_law_523 : decode cL_law 523 = .ok (.aload_n 2, 1) := by decide +kernel
theorem dL_law_524 : decode cL_law 524 = .ok (.aload_n 0, 1) := by decide +kernel
theorem dL_law_525 : decode cL_law 525 = .ok (.iload 4, 2) := by decide +kernel
theorem dL_law_527 : decode cL_law 527 = .ok (.iconst 1, 1) := by decide +kernel
theorem dL_law_528 : decode cL_law 528 = .ok (.iadd, 1) := by decide +kernel
theorem dL_law_529 : decode cL_law 529 = .ok (.iaload, 1) := by decide +kernel
theorem dL_law_530 : decode cL_law 530 = .ok (.aload_n 0, 1) := by decide +kernel
theorem dL_law_531 : decode cL_law 531 = .ok (.iload 4, 2) := by decide +kernel
theorem dL_law_533 : decode cL_law 533 = .ok (.iconst 2, 1) := by decide +kernel
theorem dL_law_534 : decode cL_law 534 = .ok (.iadd, 1) := by decide +kernel
theorem dL_law_535 : decode cL_law 535 = .ok (.iaload, 1) := by decide +kernel
theorem dL_law_536 : decode cL_law 536 = .ok (.invokevirtual 64, 3) := by decide +kernel
theorem dL_law_539 : decode cL_law 539 = .ok (.if_icmp .eq 811, 3) := by decide +kernel
theorem dL_law_544 : decode cL_law 544 = .ok (.aload_n 1, 1) := by decide +kernel
theorem dL_law_545 : decode cL_law 545 = .ok (.aload_n 0, 1) := by decide +kernel
theorem dL_law_546 : decode cL_law 546 = .ok (.iload 4, 2) := by decide +kernel
theorem dL_law_548 : decode cL_law 548 = .ok (.iconst 1, 1) := by decide +kernel
theorem dL_law_549 : decode cL_law 549 = .ok (.iadd, 1) := by decide +kernel
theorem dL_law_550 : decode cL_law 550 = .ok (.iaload, 1) := by decide +kernel
theorem dL_law_551 : decode cL_law 551 = .ok (.i2l, 1) := by decide +kernel
theorem dL_law_552 : decode cL_law 552 = .ok (.bipush 32, 2) := by decide +kernel
theorem dL_law_554 : decode cL_law 554 = .ok (.lshl, 1) := by decide +kernel
theorem dL_law_555 : decode cL_law 555 = .ok (.aload_n 0, 1) := by decide +kernel
theorem dL_law_556 : decode cL_law 556 = .ok (.iload 4, 2) := by decide +kernel
theorem dL_law_558 : decode cL_law 558 = .ok (.iconst 2, 1) := by decide +kernel
theorem dL_law_559 : decode cL_law 559 = .ok (.iadd, 1) := by decide +kernel
theorem dL_law_560 : decode cL_law 560 = .ok (.iaload, 1) := by decide +kernel
theorem dL_law_561 : decode cL_law 561 = .ok (.i2l, 1) := by decide +kernel
theorem dL_law_562 : decode cL_law 562 = .ok (.ldc2_w 65, 3) := by decide +kernel
theorem dL_law_565 : decode cL_law 565 = .ok (.land, 1) := by decide +kernel
theorem dL_law_566 : decode cL_law 566 = .ok (.lor, 1) := by decide +kernel
theorem dL_law_567 : decode cL_law 567 = .ok (.invokevirtual 67, 3) := by decide +kernel
theorem dL_law_570 : decode cL_law 570 = .ok (.aload_n 2, 1) := by decide +kernel
theorem dL_law_571 : decode cL_law 571 = .ok (.aload_n 0, 1) := by decide +kernel
theorem dL_law_572 : decode cL_law 572 = .ok (.iload 4, 2) := by decide +kernel
theorem dL_law_574 : decode cL_law 574 = .ok (.iconst 1, 1) := by decide +kernel
theorem dL_law_575 : decode cL_law 575 = .ok (.iadd, 1) := by decide +kernel
theorem dL_law_576 : decode cL_law 576 = .ok (.iaload, 1) := by decide +kernel
theorem dL_law_577 : decode cL_law 577 = .ok (.i2l, 1) := by decide +kernel
theorem dL_law_578 : decode cL_law 578 = .ok (.bipush 32, 2) := by decide +kernel
theorem dL_law_580 : decode cL_law 580 = .ok (.lshl, 1) := by decide +kernel
theorem dL_law_581 : decode cL_law 581 = .ok (.aload_n 0, 1) := by decide +kernel
theorem dL_law_582 : decode cL_law 582 = .ok (.iload 4, 2) := by decide +kernel
theorem dL_law_584 : decode cL_law 584 = .ok (.iconst 2, 1) := by decide +kernel
theorem dL_law_585 : decode cL_law 585 = .ok (.iadd, 1) := by decide +kernel
theorem dL_law_586 : decode cL_law 586 = .ok (.iaload, 1) := by decide +kernel
theorem dL_law_587 : decode cL_law 587 = .ok (.i2l, 1) := by decide +kernel
theorem dL_law_588 : decode cL_law 588 = .ok (.ldc2_w 65, 3) := by decide +kernel
theorem dL_law_591 : decode cL_law 591 = .ok (.land, 1) := by decide +kernel
theorem dL_law_592 : decode cL_law 592 = .ok (.lor, 1) := by decide +kernel
theorem dL_law_593 : decode cL_law 593 = .ok (.invokevirtual 71, 3) := by decide +kernel
theorem dL_law_596 : decode cL_law 596 = .ok (.if_icmp .eq 754, 3) := by decide +kernel
theorem dL_law_601 : decode cL_law 601 = .ok (.aload_n 1, 1) := by decide +kernel
theorem dL_law_602 : decode cL_law 602 = .ok (.aload_n 0, 1) := by decide +kernel
theorem dL_law_603 : decode cL_law 603 = .ok (.iload 4, 2) := by decide +kernel
theorem dL_law_605 : decode cL_law 605 = .ok (.iconst 1, 1) := by decide +kernel
theorem dL_law_606 : decode cL_law 606 = .ok (.iadd, 1) := by decide +kernel
theorem dL_law_607 : decode cL_law 607 = .ok (.iaload, 1) := by decide +kernel
theorem dL_law_608 : decode cL_law 608 = .ok (.invokevirtual 72, 3) := by decide +kernel
theorem dL_law_611 : decode cL_law 611 = .ok (.aload_n 2, 1) := by decide +kernel
theorem dL_law_612 : decode cL_law 612 = .ok (.aload_n 0, 1) := by decide +kernel
theorem dL_law_613 : decode cL_law 613 = .ok (.iload 4, 2) := by decide +kernel
theorem dL_law_615 : decode cL_law 615 = .ok (.iconst 1, 1) := by decide +kernel
theorem dL_law_616 : decode cL_law 616 = .ok (.iadd, 1) := by decide +kernel
theorem dL_law_617 : decode cL_law 617 = .ok (.iaload, 1) := by decide +kernel
theorem dL_law_618 : decode cL_law 618 = .ok (.invokevirtual 75, 3) := by decide +kernel
theorem dL_law_621 : decode cL_law 621 = .ok (.if_icmp .eq 729, 3) := by decide +kernel
theorem dL_law_626 : decode cL_law 626 = .ok (.aload_n 1, 1) := by decide +kernel
theorem dL_law_627 : decode cL_law 627 = .ok (.invokevirtual 76, 3) := by decide +kernel
theorem dL_law_630 : decode cL_law 630 = .ok (.aload_n 2, 1) := by decide +kernel
theorem dL_law_631 : decode cL_law 631 = .ok (.invokevirtual 79, 3) := by decide +kernel
theorem dL_law_634 : decode cL_law 634 = .ok (.if_icmp .eq 716, 3) := by decide +kernel
theorem dL_law_639 : decode cL_law 639 = .ok (.aload_n 1, 1) := by decide +kernel
theorem dL_law_640 : decode cL_law 640 = .ok (.aload_n 0, 1) := by decide +kernel
theorem dL_law_641 : decode cL_law 641 = .ok (.iload 4, 2) := by decide +kernel
theorem dL_law_643 : decode cL_law 643 = .ok (.iconst 1, 1) := by decide +kernel
theorem dL_law_644 : decode cL_law 644 = .ok (.iadd, 1) := by decide +kernel
theorem dL_law_645 : decode cL_law 645 = .ok (.iaload, 1) := by decide +kernel
theorem dL_law_646 : decode cL_law 646 = .ok (.aload_n 0, 1) := by decide +kernel
theorem dL_law_647 : decode cL_law 647 = .ok (.iload 4, 2) := by decide +kernel
theorem dL_law_649 : decode cL_law 649 = .ok (.iconst 2, 1) := by decide +kernel
theorem dL_law_650 : decode cL_law 650 = .ok (.iadd, 1) := by decide +kernel
theorem dL_law_651 : decode cL_law 651 = .ok (.iaload, 1) := by decide +kernel
theorem dL_law_652 : decode cL_law 652 = .ok (.invokevirtual 80, 3) := by decide +kernel
theorem dL_law_655 : decode cL_law 655 = .ok (.aload_n 2, 1) := by decide +kernel
theorem dL_law_656 : decode cL_law 656 = .ok (.aload_n 0, 1) := by decide +kernel
theorem dL_law_657 : decode cL_law 657 = .ok (.iload 4, 2) := by decide +kernel
theorem dL_law_659 : decode cL_law 659 = .ok (.iconst 1, 1) := by decide +kernel
theorem dL_law_660 : decode cL_law 660 = .ok (.iadd, 1) := by decide +kernel
theorem dL_law_661 : decode cL_law 661 = .ok (.iaload, 1) := by decide +kernel
theorem dL_law_662 : decode cL_law 662 = .ok (.aload_n 0, 1) := by decide +kernel
theorem dL_law_663 : decode cL_law 663 = .ok (.iload 4, 2) := by decide +kernel
theorem dL_law_665 : decode cL_law 665 = .ok (.iconst 2, 1) := by decide +kernel
theorem dL_law_666 : decode cL_law 666 = .ok (.iadd, 1) := by decide +kernel
theorem dL_law_667 : decode cL_law 667 = .ok (.iaload, 1) := by decide +kernel
theorem dL_law_668 : decode cL_law 668 = .ok (.invokevirtual 83, 3) := by decide +kernel
theorem dL_law_671 : decode cL_law 671 = .ok (.if_icmp .eq 679, 3) := by decide +kernel
theorem dL_law_676 : decode cL_law 676 = .ok (.aload_n 1, 1) := by decide +kernel
theorem dL_law_677 : decode cL_law 677 = .ok (.invokevirtual 84, 3) := by decide +kernel
theorem dL_law_680 : decode cL_law 680 = .ok (.aload_n 2, 1) := by decide +kernel
theorem dL_law_681 : decode cL_law 681 = .ok (.invokevirtual 87, 3) := by decide +kernel
theorem dL_law_684 : decode cL_law 684 = .ok (.if_icmp .eq 666, 3) := by decide +kernel
theorem dL_law_689 : decode cL_law 689 = .ok (.aload_n 1, 1) := by decide +kernel
theorem dL_law_690 : decode cL_law 690 = .ok (.aload_n 0, 1) := by decide +kernel
theorem dL_law_691 : decode cL_law 691 = .ok (.iload 4, 2) := by decide +kernel
theorem dL_law_693 : decode cL_law 693 = .ok (.iconst 1, 1) := by decide +kernel
theorem dL_law_694 : decode cL_law 694 = .ok (.iadd, 1) := by decide +kernel
theorem dL_law_695 : decode cL_law 695 = .ok (.iaload, 1) := by decide +kernel
theorem dL_law_696 : decode cL_law 696 = .ok (.aload_n 0, 1) := by decide +kernel
theorem dL_law_697 : decode cL_law 697 = .ok (.iload 4, 2) := by decide +kernel
theorem dL_law_699 : decode cL_law 699 = .ok (.iconst 2, 1) := by decide +kernel
theorem dL_law_700 : decode cL_law 700 = .ok (.iadd, 1) := by decide +kernel
theorem dL_law_701 : decode cL_law 701 = .ok (.iaload, 1) := by decide +kernel
theorem dL_law_702 : decode cL_law 702 = .ok (.ifCond .eq 7, 3) := by decide +kernel
theorem dL_law_705 : decode cL_law 705 = .ok (.iconst 1, 1) := by decide +kernel
theorem dL_law_706 : decode cL_law 706 = .ok (.goto 4, 3) := by decide +kernel
theorem dL_law_709 : decode cL_law 709 = .ok (.iconst 0, 1) := by decide +kernel
theorem dL_law_710 : decode cL_law 710 = .ok (.invokevirtual 88, 3) := by decide +kernel
theorem dL_law_713 : decode cL_law 713 = .ok (.aload_n 2, 1) := by decide +kernel
theorem dL_law_714 : decode cL_law 714 = .ok (.aload_n 0, 1) := by decide +kernel
theorem dL_law_715 : decode cL_law 715 = .ok (.iload 4, 2) := by decide +kernel
theorem dL_law_717 : decode cL_law 717 = .ok (.iconst 1, 1) := by decide +kernel
theorem dL_law_718 : decode cL_law 718 = .ok (.iadd, 1) := by decide +kernel
theorem dL_law_719 : decode cL_law 719 = .ok (.iaload, 1) := by decide +kernel
theorem dL_law_720 : decode cL_law 720 = .ok (.aload_n 0, 1) := by decide +kernel
theorem dL_law_721 : decode cL_law 721 = .ok (.iload 4, 2) := by decide +kernel
theorem dL_law_723 : decode cL_law 723 = .ok (.iconst 2, 1) := by decide +kernel
theorem dL_law_724 : decode cL_law 724 = .ok (.iadd, 1) := by decide +kernel
theorem dL_law_725 : decode cL_law 725 = .ok (.iaload, 1) := by decide +kernel
theorem dL_law_726 : decode cL_law 726 = .ok (.ifCond .eq 7, 3) := by decide +kernel
theorem dL_law_729 : decode cL_law 729 = .ok (.iconst 1, 1) := by decide +kernel
theorem dL_law_730 : decode cL_law 730 = .ok (.goto 4, 3) := by decide +kernel
theorem dL_law_733 : decode cL_law 733 = .ok (.iconst 0, 1) := by decide +kernel
theorem dL_law_734 : decode cL_law 734 = .ok (.invokevirtual 92, 3) := by decide +kernel
theorem dL_law_737 : decode cL_law 737 = .ok (.if_icmp .eq 613, 3) := by decide +kernel
theorem dL_law_742 : decode cL_law 742 = .ok (.aload_n 1, 1) := by decide +kernel
theorem dL_law_743 : decode cL_law 743 = .ok (.invokevirtual 93, 3) := by decide +kernel
theorem dL_law_746 : decode cL_law 746 = .ok (.aload_n 2, 1) := by decide +kernel
theorem dL_law_747 : decode cL_law 747 = .ok (.invokevirtual 96, 3) := by decide +kernel
theorem dL_law_750 : decode cL_law 750 = .ok (.if_icmp .eq 600, 3) := by decide +kernel
theorem dL_law_755 : decode cL_law 755 = .ok (.aload_n 1, 1) := by decide +kernel
theorem dL_law_756 : decode cL_law 756 = .ok (.aload_n 0, 1) := by decide +kernel
theorem dL_law_757 : decode cL_law 757 = .ok (.iload 4, 2) := by decide +kernel
theorem dL_law_759 : decode cL_law 759 = .ok (.iconst 1, 1) := by decide +kernel
theorem dL_law_760 : decode cL_law 760 = .ok (.iadd, 1) := by decide +kernel
theorem dL_law_761 : decode cL_law 761 = .ok (.iaload, 1) := by decide +kernel
theorem dL_law_762 : decode cL_law 762 = .ok (.invokevirtual 97, 3) := by decide +kernel
theorem dL_law_765 : decode cL_law 765 = .ok (.aload_n 2, 1) := by decide +kernel
theorem dL_law_766 : decode cL_law 766 = .ok (.aload_n 0, 1) := by decide +kernel
theorem dL_law_767 : decode cL_law 767 = .ok (.iload 4, 2) := by decide +kernel
theorem dL_law_769 : decode cL_law 769 = .ok (.iconst 1, 1) := by decide +kernel
theorem dL_law_770 : decode cL_law 770 = .ok (.iadd, 1) := by decide +kernel
theorem dL_law_771 : decode cL_law 771 = .ok (.iaload, 1) := by decide +kernel
theorem dL_law_772 : decode cL_law 772 = .ok (.invokevirtual 100, 3) := by decide +kernel
theorem dL_law_775 : decode cL_law 775 = .ok (.if_icmp .eq 575, 3) := by decide +kernel
theorem dL_law_780 : decode cL_law 780 = .ok (.aload_n 1, 1) := by decide +kernel
theorem dL_law_781 : decode cL_law 781 = .ok (.aload_n 0, 1) := by decide +kernel
theorem dL_law_782 : decode cL_law 782 = .ok (.iload 4, 2) := by decide +kernel
theorem dL_law_784 : decode cL_law 784 = .ok (.iconst 1, 1) := by decide +kernel
theorem dL_law_785 : decode cL_law 785 = .ok (.iadd, 1) := by decide +kernel
theorem dL_law_786 : decode cL_law 786 = .ok (.iaload, 1) := by decide +kernel
theorem dL_law_787 : decode cL_law 787 = .ok (.invokevirtual 101, 3) := by decide +kernel
theorem dL_law_790 : decode cL_law 790 = .ok (.aload_n 2, 1) := by decide +kernel
theorem dL_law_791 : decode cL_law 791 = .ok (.aload_n 0, 1) := by decide +kernel
theorem dL_law_792 : decode cL_law 792 = .ok (.iload 4, 2) := by decide +kernel
theorem dL_law_794 : decode cL_law 794 = .ok (.iconst 1, 1) := by decide +kernel
theorem dL_law_795 : decode cL_law 795 = .ok (.iadd, 1) := by decide +kernel
theorem dL_law_796 : decode cL_law 796 = .ok (.iaload, 1) := by decide +kernel
theorem dL_law_797 : decode cL_law 797 = .ok (.invokevirtual 104, 3) := by decide +kernel
theorem dL_law_800 : decode cL_law 800 = .ok (.if_icmp .eq 550, 3) := by decide +kernel
theorem dL_law_805 : decode cL_law 805 = .ok (.aload_n 1, 1) := by decide +kernel
theorem dL_law_806 : decode cL_law 806 = .ok (.aload_n 0, 1) := by decide +kernel
theorem dL_law_807 : decode cL_law 807 = .ok (.iload 4, 2) := by decide +kernel
theorem dL_law_809 : decode cL_law 809 = .ok (.iconst 1, 1) := by decide +kernel
theorem dL_law_810 : decode cL_law 810 = .ok (.iadd, 1) := by decide +kernel
theorem dL_law_811 : decode cL_law 811 = .ok (.iaload, 1) := by decide +kernel
theorem dL_law_812 : decode cL_law 812 = .ok (.aload_n 0, 1) := by decide +kernel
theorem dL_law_813 : decode cL_law 813 = .ok (.iload 4, 2) := by decide +kernel
theorem dL_law_815 : decode cL_law 815 = .ok (.iconst 2, 1) := by decide +kernel
theorem dL_law_816 : decode cL_law 816 = .ok (.iadd, 1) := by decide +kernel
theorem dL_law_817 : decode cL_law 817 = .ok (.iaload, 1) := by decide +kernel
theorem dL_law_818 : decode cL_law 818 = .ok (.aload_n 0, 1) := by decide +kernel
theorem dL_law_819 : decode cL_law 819 = .ok (.iload 4, 2) := by decide +kernel
theorem dL_law_821 : decode cL_law 821 = .ok (.iconst 3, 1) := by decide +kernel
theorem dL_law_822 : decode cL_law 822 = .ok (.iadd, 1) := by decide +kernel
theorem dL_law_823 : decode cL_law 823 = .ok (.iaload, 1) := by decide +kernel
theorem dL_law_824 : decode cL_law 824 = .ok (.invokevirtual 105, 3) := by decide +kernel
theorem dL_law_827 : decode cL_law 827 = .ok (.aload_n 2, 1) := by decide +kernel
theorem dL_law_828 : decode cL_law 828 = .ok (.aload_n 0, 1) := by decide +kernel
theorem dL_law_829 : decode cL_law 829 = .ok (.iload 4, 2) := by decide +kernel
theorem dL_law_831 : decode cL_law 831 = .ok (.iconst 1, 1) := by decide +kernel
theorem dL_law_832 : decode cL_law 832 = .ok (.iadd, 1) := by decide +kernel
theorem dL_law_833 : decode cL_law 833 = .ok (.iaload, 1) := by decide +kernel
theorem dL_law_834 : decode cL_law 834 = .ok (.aload_n 0, 1) := by decide +kernel
theorem dL_law_835 : decode cL_law 835 = .ok (.iload 4, 2) := by decide +kernel
theorem dL_law_837 : decode cL_law 837 = .ok (.iconst 2, 1) := by decide +kernel
theorem dL_law_838 : decode cL_law 838 = .ok (.iadd, 1) := by decide +kernel
theorem dL_law_839 : decode cL_law 839 = .ok (.iaload, 1) := by decide +kernel
theorem dL_law_840 : decode cL_law 840 = .ok (.aload_n 0, 1) := by decide +kernel
theorem dL_law_841 : decode cL_law 841 = .ok (.iload 4, 2) := by decide +kernel
theorem dL_law_843 : decode cL_law 843 = .ok (.iconst 3, 1) := by decide +kernel
theorem dL_law_844 : decode cL_law 844 = .ok (.iadd, 1) := by decide +kernel
theorem dL_law_845 : decode cL_law 845 = .ok (.iaload, 1) := by decide +kernel
theorem dL_law_846 : decode cL_law 846 = .ok (.invokevirtual 109, 3) := by decide +kernel
theorem dL_law_849 : decode cL_law 849 = .ok (.if_icmp .eq 501, 3) := by decide +kernel
theorem dL_law_854 : decode cL_law 854 = .ok (.aload_n 1, 1) := by decide +kernel
theorem dL_law_855 : decode cL_law 855 = .ok (.aload_n 0, 1) := by decide +kernel
theorem dL_law_856 : decode cL_law 856 = .ok (.iload 4, 2) := by decide +kernel
theorem dL_law_858 : decode cL_law 858 = .ok (.iconst 1, 1) := by decide +kernel
theorem dL_law_859 : decode cL_law 859 = .ok (.iadd, 1) := by decide +kernel
theorem dL_law_860 : decode cL_law 860 = .ok (.iaload, 1) := by decide +kernel
theorem dL_law_861 : decode cL_law 861 = .ok (.aload_n 0, 1) := by decide +kernel
theorem dL_law_862 : decode cL_law 862 = .ok (.iload 4, 2) := by decide +kernel
theorem dL_law_864 : decode cL_law 864 = .ok (.iconst 2, 1) := by decide +kernel
theorem dL_law_865 : decode cL_law 865 = .ok (.iadd, 1) := by decide +kernel
theorem dL_law_866 : decode cL_law 866 = .ok (.iaload, 1) := by decide +kernel
theorem dL_law_867 : decode cL_law 867 = .ok (.aload_n 0, 1) := by decide +kernel
theorem dL_law_868 : decode cL_law 868 = .ok (.iload 4, 2) := by decide +kernel
theorem dL_law_870 : decode cL_law 870 = .ok (.iconst 3, 1) := by decide +kernel
theorem dL_law_871 : decode cL_law 871 = .ok (.iadd, 1) := by decide +kernel
theorem dL_law_872 : decode cL_law 872 = .ok (.iaload, 1) := by decide +kernel
theorem dL_law_873 : decode cL_law 873 = .ok (.aload_n 0, 1) := by decide +kernel
theorem dL_law_874 : decode cL_law 874 = .ok (.iload 4, 2) := by decide +kernel
theorem dL_law_876 : decode cL_law 876 = .ok (.iconst 4, 1) := by decide +kernel
theorem dL_law_877 : decode cL_law 877 = .ok (.iadd, 1) := by decide +kernel
theorem dL_law_878 : decode cL_law 878 = .ok (.iaload, 1) := by decide +kernel
theorem dL_law_879 : decode cL_law 879 = .ok (.invokevirtual 110, 3) := by decide +kernel
theorem dL_law_882 : decode cL_law 882 = .ok (.aload_n 2, 1) := by decide +kernel
theorem dL_law_883 : decode cL_law 883 = .ok (.aload_n 0, 1) := by decide +kernel
theorem dL_law_884 : decode cL_law 884 = .ok (.iload 4, 2) := by decide +kernel
theorem dL_law_886 : decode cL_law 886 = .ok (.iconst 1, 1) := by decide +kernel
theorem dL_law_887 : decode cL_law 887 = .ok (.iadd, 1) := by decide +kernel
theorem dL_law_888 : decode cL_law 888 = .ok (.iaload, 1) := by decide +kernel
theorem dL_law_889 : decode cL_law 889 = .ok (.aload_n 0, 1) := by decide +kernel
theorem dL_law_890 : decode cL_law 890 = .ok (.iload 4, 2) := by decide +kernel
theorem dL_law_892 : decode cL_law 892 = .ok (.iconst 2, 1) := by decide +kernel
theorem dL_law_893 : decode cL_law 893 = .ok (.iadd, 1) := by decide +kernel
theorem dL_law_894 : decode cL_law 894 = .ok (.iaload, 1) := by decide +kernel
theorem dL_law_895 : decode cL_law 895 = .ok (.aload_n 0, 1) := by decide +kernel
theorem dL_law_896 : decode cL_law 896 = .ok (.iload 4, 2) := by decide +kernel
theorem dL_law_898 : decode cL_law 898 = .ok (.iconst 3, 1) := by decide +kernel
theorem dL_law_899 : decode cL_law 899 = .ok (.iadd, 1) := by decide +kernel
theorem dL_law_900 : decode cL_law 900 = .ok (.iaload, 1) := by decide +kernel
theorem dL_law_901 : decode cL_law 901 = .ok (.aload_n 0, 1) := by decide +kernel
theorem dL_law_902 : decode cL_law 902 = .ok (.iload 4, 2) := by decide +kernel
theorem dL_law_904 : decode cL_law 904 = .ok (.iconst 4, 1) := by decide +kernel
theorem dL_law_905 : decode cL_law 905 = .ok (.iadd, 1) := by decide +kernel
theorem dL_law_906 : decode cL_law 906 = .ok (.iaload, 1) := by decide +kernel
theorem dL_law_907 : decode cL_law 907 = .ok (.invokevirtual 114, 3) := by decide +kernel
theorem dL_law_910 : decode cL_law 910 = .ok (.if_icmp .eq 440, 3) := by decide +kernel
theorem dL_law_915 : decode cL_law 915 = .ok (.aload_n 1, 1) := by decide +kernel
theorem dL_law_916 : decode cL_law 916 = .ok (.aload_n 0, 1) := by decide +kernel
theorem dL_law_917 : decode cL_law 917 = .ok (.iload 4, 2) := by decide +kernel
theorem dL_law_919 : decode cL_law 919 = .ok (.iconst 1, 1) := by decide +kernel
theorem dL_law_920 : decode cL_law 920 = .ok (.iadd, 1) := by decide +kernel
theorem dL_law_921 : decode cL_law 921 = .ok (.iaload, 1) := by decide +kernel
theorem dL_law_922 : decode cL_law 922 = .ok (.aload_n 0, 1) := by decide +kernel
theorem dL_law_923 : decode cL_law 923 = .ok (.iload 4, 2) := by decide +kernel
theorem dL_law_925 : decode cL_law 925 = .ok (.iconst 2, 1) := by decide +kernel
theorem dL_law_926 : decode cL_law 926 = .ok (.iadd, 1) := by decide +kernel
theorem dL_law_927 : decode cL_law 927 = .ok (.iaload, 1) := by decide +kernel
theorem dL_law_928 : decode cL_law 928 = .ok (.invokevirtual 115, 3) := by decide +kernel
theorem dL_law_931 : decode cL_law 931 = .ok (.aload_n 2, 1) := by decide +kernel
theorem dL_law_932 : decode cL_law 932 = .ok (.aload_n 0, 1) := by decide +kernel
theorem dL_law_933 : decode cL_law 933 = .ok (.iload 4, 2) := by decide +kernel
theorem dL_law_935 : decode cL_law 935 = .ok (.iconst 1, 1) := by decide +kernel
theorem dL_law_936 : decode cL_law 936 = .ok (.iadd, 1) := by decide +kernel
theorem dL_law_937 : decode cL_law 937 = .ok (.iaload, 1) := by decide +kernel
theorem dL_law_938 : decode cL_law 938 = .ok (.aload_n 0, 1) := by decide +kernel
theorem dL_law_939 : decode cL_law 939 = .ok (.iload 4, 2) := by decide +kernel
theorem dL_law_941 : decode cL_law 941 = .ok (.iconst 2, 1) := by decide +kernel
theorem dL_law_942 : decode cL_law 942 = .ok (.iadd, 1) := by decide +kernel
theorem dL_law_943 : decode cL_law 943 = .ok (.iaload, 1) := by decide +kernel
theorem dL_law_944 : decode cL_law 944 = .ok (.invokevirtual 118, 3) := by decide +kernel
theorem dL_law_947 : decode cL_law 947 = .ok (.if_icmp .eq 403, 3) := by decide +kernel
theorem dL_law_952 : decode cL_law 952 = .ok (.aload_n 1, 1) := by decide +kernel
theorem dL_law_953 : decode cL_law 953 = .ok (.aload_n 0, 1) := by decide +kernel
theorem dL_law_954 : decode cL_law 954 = .ok (.iload 4, 2) := by decide +kernel
theorem dL_law_956 : decode cL_law 956 = .ok (.iconst 1, 1) := by decide +kernel
theorem dL_law_957 : decode cL_law 957 = .ok (.iadd, 1) := by decide +kernel
theorem dL_law_958 : decode cL_law 958 = .ok (.iaload, 1) := by decide +kernel
theorem dL_law_959 : decode cL_law 959 = .ok (.aload_n 0, 1) := by decide +kernel
theorem dL_law_960 : decode cL_law 960 = .ok (.iload 4, 2) := by decide +kernel
theorem dL_law_962 : decode cL_law 962 = .ok (.iconst 2, 1) := by decide +kernel
theorem dL_law_963 : decode cL_law 963 = .ok (.iadd, 1) := by decide +kernel
theorem dL_law_964 : decode cL_law 964 = .ok (.iaload, 1) := by decide +kernel
theorem dL_law_965 : decode cL_law 965 = .ok (.aload_n 0, 1) := by decide +kernel
theorem dL_law_966 : decode cL_law 966 = .ok (.iload 4, 2) := by decide +kernel
theorem dL_law_968 : decode cL_law 968 = .ok (.iconst 3, 1) := by decide +kernel
theorem dL_law_969 : decode cL_law 969 = .ok (.iadd, 1) := by decide +kernel
theorem dL_law_970 : decode cL_law 970 = .ok (.iaload, 1) := by decide +kernel
theorem dL_law_971 : decode cL_law 971 = .ok (.invokevirtual 119, 3) := by decide +kernel
theorem dL_law_974 : decode cL_law 974 = .ok (.aload_n 2, 1) := by decide +kernel
theorem dL_law_975 : decode cL_law 975 = .ok (.aload_n 0, 1) := by decide +kernel
theorem dL_law_976 : decode cL_law 976 = .ok (.iload 4, 2) := by decide +kernel
theorem dL_law_978 : decode cL_law 978 = .ok (.iconst 1, 1) := by decide +kernel
theorem dL_law_979 : decode cL_law 979 = .ok (.iadd, 1) := by decide +kernel
theorem dL_law_980 : decode cL_law 980 = .ok (.iaload, 1) := by decide +kernel
theorem dL_law_981 : decode cL_law 981 = .ok (.aload_n 0, 1) := by decide +kernel
theorem dL_law_982 : decode cL_law 982 = .ok (.iload 4, 2) := by decide +kernel
theorem dL_law_984 : decode cL_law 984 = .ok (.iconst 2, 1) := by decide +kernel
theorem dL_law_985 : decode cL_law 985 = .ok (.iadd, 1) := by decide +kernel
theorem dL_law_986 : decode cL_law 986 = .ok (.iaload, 1) := by decide +kernel
theorem dL_law_987 : decode cL_law 987 = .ok (.aload_n 0, 1) := by decide +kernel
theorem dL_law_988 : decode cL_law 988 = .ok (.iload 4, 2) := by decide +kernel
theorem dL_law_990 : decode cL_law 990 = .ok (.iconst 3, 1) := by decide +kernel
theorem dL_law_991 : decode cL_law 991 = .ok (.iadd, 1) := by decide +kernel
theorem dL_law_992 : decode cL_law 992 = .ok (.iaload, 1) := by decide +kernel
theorem dL_law_993 : decode cL_law 993 = .ok (.invokevirtual 122, 3) := by decide +kernel
theorem dL_law_996 : decode cL_law 996 = .ok (.if_icmp .eq 354, 3) := by decide +kernel
theorem dL_law_1001 : decode cL_law 1001 = .ok (.aload_n 1, 1) := by decide +kernel
theorem dL_law_1002 : decode cL_law 1002 = .ok (.aload_n 0, 1) := by decide +kernel
theorem dL_law_1003 : decode cL_law 1003 = .ok (.iload 4, 2) := by decide +kernel
theorem dL_law_1005 : decode cL_law 1005 = .ok (.iconst 1, 1) := by decide +kernel
theorem dL_law_1006 : decode cL_law 1006 = .ok (.iadd, 1) := by decide +kernel
theorem dL_law_1007 : decode cL_law 1007 = .ok (.iaload, 1) := by decide +kernel
theorem dL_law_1008 : decode cL_law 1008 = .ok (.aload_n 0, 1) := by decide +kernel
theorem dL_law_1009 : decode cL_law 1009 = .ok (.iload 4, 2) := by decide +kernel
theorem dL_law_1011 : decode cL_law 1011 = .ok (.iconst 2, 1) := by decide +kernel
theorem dL_law_1012 : decode cL_law 1012 = .ok (.iadd, 1) := by decide +kernel
theorem dL_law_1013 : decode cL_law 1013 = .ok (.iaload, 1) := by decide +kernel
theorem dL_law_1014 : decode cL_law 1014 = .ok (.invokevirtual 123, 3) := by decide +kernel
theorem dL_law_1017 : decode cL_law 1017 = .ok (.aload_n 2, 1) := by decide +kernel
theorem dL_law_1018 : decode cL_law 1018 = .ok (.aload_n 0, 1) := by decide +kernel
theorem dL_law_1019 : decode cL_law 1019 = .ok (.iload 4, 2) := by decide +kernel
theorem dL_law_1021 : decode cL_law 1021 = .ok (.iconst 1, 1) := by decide +kernel
theorem dL_law_1022 : decode cL_law 1022 = .ok (.iadd, 1) := by decide +kernel
theorem dL_law_1023 : decode cL_law 1023 = .ok (.iaload, 1) := by decide +kernel
theorem dL_law_1024 : decode cL_law 1024 = .ok (.aload_n 0, 1) := by decide +kernel
theorem dL_law_1025 : decode cL_law 1025 = .ok (.iload 4, 2) := by decide +kernel
theorem dL_law_1027 : decode cL_law 1027 = .ok (.iconst 2, 1) := by decide +kernel
theorem dL_law_1028 : decode cL_law 1028 = .ok (.iadd, 1) := by decide +kernel
theorem dL_law_1029 : decode cL_law 1029 = .ok (.iaload, 1) := by decide +kernel
theorem dL_law_1030 : decode cL_law 1030 = .ok (.invokevirtual 126, 3) := by decide +kernel
theorem dL_law_1033 : decode cL_law 1033 = .ok (.if_icmp .eq 317, 3) := by decide +kernel
theorem dL_law_1038 : decode cL_law 1038 = .ok (.aload_n 1, 1) := by decide +kernel
theorem dL_law_1039 : decode cL_law 1039 = .ok (.invokevirtual 127, 3) := by decide +kernel
theorem dL_law_1042 : decode cL_law 1042 = .ok (.aload_n 2, 1) := by decide +kernel
theorem dL_law_1043 : decode cL_law 1043 = .ok (.invokevirtual 130, 3) := by decide +kernel
theorem dL_law_1046 : decode cL_law 1046 = .ok (.if_icmp .eq 304, 3) := by decide +kernel
theorem dL_law_1051 : decode cL_law 1051 = .ok (.aload_n 1, 1) := by decide +kernel
theorem dL_law_1052 : decode cL_law 1052 = .ok (.aload_n 0, 1) := by decide +kernel
theorem dL_law_1053 : decode cL_law 1053 = .ok (.iload 4, 2) := by decide +kernel
theorem dL_law_1055 : decode cL_law 1055 = .ok (.iconst 1, 1) := by decide +kernel
theorem dL_law_1056 : decode cL_law 1056 = .ok (.iadd, 1) := by decide +kernel
theorem dL_law_1057 : decode cL_law 1057 = .ok (.iaload, 1) := by decide +kernel
theorem dL_law_1058 : decode cL_law 1058 = .ok (.invokevirtual 131, 3) := by decide +kernel
theorem dL_law_1061 : decode cL_law 1061 = .ok (.aload_n 2, 1) := by decide +kernel
theorem dL_law_1062 : decode cL_law 1062 = .ok (.aload_n 0, 1) := by decide +kernel
theorem dL_law_1063 : decode cL_law 1063 = .ok (.iload 4, 2) := by decide +kernel
theorem dL_law_1065 : decode cL_law 1065 = .ok (.iconst 1, 1) := by decide +kernel
theorem dL_law_1066 : decode cL_law 1066 = .ok (.iadd, 1) := by decide +kernel
theorem dL_law_1067 : decode cL_law 1067 = .ok (.iaload, 1) := by decide +kernel
theorem dL_law_1068 : decode cL_law 1068 = .ok (.invokevirtual 134, 3) := by decide +kernel
theorem dL_law_1071 : decode cL_law 1071 = .ok (.if_icmp .eq 279, 3) := by decide +kernel
theorem dL_law_1076 : decode cL_law 1076 = .ok (.aload_n 1, 1) := by decide +kernel
theorem dL_law_1077 : decode cL_law 1077 = .ok (.aload_n 0, 1) := by decide +kernel
theorem dL_law_1078 : decode cL_law 1078 = .ok (.iload 4, 2) := by decide +kernel
theorem dL_law_1080 : decode cL_law 1080 = .ok (.iconst 1, 1) := by decide +kernel
theorem dL_law_1081 : decode cL_law 1081 = .ok (.iadd, 1) := by decide +kernel
theorem dL_law_1082 : decode cL_law 1082 = .ok (.iaload, 1) := by decide +kernel
theorem dL_law_1083 : decode cL_law 1083 = .ok (.invokevirtual 135, 3) := by decide +kernel
theorem dL_law_1086 : decode cL_law 1086 = .ok (.aload_n 2, 1) := by decide +kernel
theorem dL_law_1087 : decode cL_law 1087 = .ok (.aload_n 0, 1) := by decide +kernel
theorem dL_law_1088 : decode cL_law 1088 = .ok (.iload 4, 2) := by decide +kernel
theorem dL_law_1090 : decode cL_law 1090 = .ok (.iconst 1, 1) := by decide +kernel
theorem dL_law_1091 : decode cL_law 1091 = .ok (.iadd, 1) := by decide +kernel
theorem dL_law_1092 : decode cL_law 1092 = .ok (.iaload, 1) := by decide +kernel
theorem dL_law_1093 : decode cL_law 1093 = .ok (.invokevirtual 138, 3) := by decide +kernel
theorem dL_law_1096 : decode cL_law 1096 = .ok (.if_icmp .eq 254, 3) := by decide +kernel
theorem dL_law_1101 : decode cL_law 1101 = .ok (.aload_n 1, 1) := by decide +kernel
theorem dL_law_1102 : decode cL_law 1102 = .ok (.aload_n 0, 1) := by decide +kernel
theorem dL_law_1103 : decode cL_law 1103 = .ok (.iload 4, 2) := by decide +kernel
theorem dL_law_1105 : decode cL_law 1105 = .ok (.iconst 1, 1) := by decide +kernel
theorem dL_law_1106 : decode cL_law 1106 = .ok (.iadd, 1) := by decide +kernel
theorem dL_law_1107 : decode cL_law 1107 = .ok (.iaload, 1) := by decide +kernel
theorem dL_law_1108 : decode cL_law 1108 = .ok (.aload_n 0, 1) := by decide +kernel
theorem dL_law_1109 : decode cL_law 1109 = .ok (.iload 4, 2) := by decide +kernel
theorem dL_law_1111 : decode cL_law 1111 = .ok (.iconst 2, 1) := by decide +kernel
theorem dL_law_1112 : decode cL_law 1112 = .ok (.iadd, 1) := by decide +kernel
theorem dL_law_1113 : decode cL_law 1113 = .ok (.iaload, 1) := by decide +kernel
theorem dL_law_1114 : decode cL_law 1114 = .ok (.aload_n 0, 1) := by decide +kernel
theorem dL_law_1115 : decode cL_law 1115 = .ok (.iload 4, 2) := by decide +kernel
theorem dL_law_1117 : decode cL_law 1117 = .ok (.iconst 3, 1) := by decide +kernel
theorem dL_law_1118 : decode cL_law 1118 = .ok (.iadd, 1) := by decide +kernel
theorem dL_law_1119 : decode cL_law 1119 = .ok (.iaload, 1) := by decide +kernel
theorem dL_law_1120 : decode cL_law 1120 = .ok (.invokevirtual 139, 3) := by decide +kernel
theorem dL_law_1123 : decode cL_law 1123 = .ok (.aload_n 2, 1) := by decide +kernel
theorem dL_law_1124 : decode cL_law 1124 = .ok (.aload_n 0, 1) := by decide +kernel
theorem dL_law_1125 : decode cL_law 1125 = .ok (.iload 4, 2) := by decide +kernel
theorem dL_law_1127 : decode cL_law 1127 = .ok (.iconst 1, 1) := by decide +kernel
theorem dL_law_1128 : decode cL_law 1128 = .ok (.iadd, 1) := by decide +kernel
theorem dL_law_1129 : decode cL_law 1129 = .ok (.iaload, 1) := by decide +kernel
theorem dL_law_1130 : decode cL_law 1130 = .ok (.aload_n 0, 1) := by decide +kernel
theorem dL_law_1131 : decode cL_law 1131 = .ok (.iload 4, 2) := by decide +kernel
theorem dL_law_1133 : decode cL_law 1133 = .ok (.iconst 2, 1) := by decide +kernel
theorem dL_law_1134 : decode cL_law 1134 = .ok (.iadd, 1) := by decide +kernel
theorem dL_law_1135 : decode cL_law 1135 = .ok (.iaload, 1) := by decide +kernel
theorem dL_law_1136 : decode cL_law 1136 = .ok (.aload_n 0, 1) := by decide +kernel
theorem dL_law_1137 : decode cL_law 1137 = .ok (.iload 4, 2) := by decide +kernel
theorem dL_law_1139 : decode cL_law 1139 = .ok (.iconst 3, 1) := by decide +kernel
theorem dL_law_1140 : decode cL_law 1140 = .ok (.iadd, 1) := by decide +kernel
theorem dL_law_1141 : decode cL_law 1141 = .ok (.iaload, 1) := by decide +kernel
theorem dL_law_1142 : decode cL_law 1142 = .ok (.invokevirtual 142, 3) := by decide +kernel
theorem dL_law_1145 : decode cL_law 1145 = .ok (.if_icmp .eq 205, 3) := by decide +kernel
theorem dL_law_1150 : decode cL_law 1150 = .ok (.aload_n 1, 1) := by decide +kernel
theorem dL_law_1151 : decode cL_law 1151 = .ok (.aload_n 0, 1) := by decide +kernel
theorem dL_law_1152 : decode cL_law 1152 = .ok (.iload 4, 2) := by decide +kernel
theorem dL_law_1154 : decode cL_law 1154 = .ok (.iconst 1, 1) := by decide +kernel
theorem dL_law_1155 : decode cL_law 1155 = .ok (.iadd, 1) := by decide +kernel
theorem dL_law_1156 : decode cL_law 1156 = .ok (.iaload, 1) := by decide +kernel
theorem dL_law_1157 : decode cL_law 1157 = .ok (.invokevirtual 143, 3) := by decide +kernel
theorem dL_law_1160 : decode cL_law 1160 = .ok (.aload_n 2, 1) := by decide +kernel
theorem dL_law_1161 : decode cL_law 1161 = .ok (.aload_n 0, 1) := by decide +kernel
theorem dL_law_1162 : decode cL_law 1162 = .ok (.iload 4, 2) := by decide +kernel
theorem dL_law_1164 : decode cL_law 1164 = .ok (.iconst 1, 1) := by decide +kernel
theorem dL_law_1165 : decode cL_law 1165 = .ok (.iadd, 1) := by decide +kernel
theorem dL_law_1166 : decode cL_law 1166 = .ok (.iaload, 1) := by decide +kernel
theorem dL_law_1167 : decode cL_law 1167 = .ok (.invokevirtual 146, 3) := by decide +kernel
theorem dL_law_1170 : decode cL_law 1170 = .ok (.if_icmp .eq 180, 3) := by decide +kernel
theorem dL_law_1175 : decode cL_law 1175 = .ok (.aload_n 1, 1) := by decide +kernel
theorem dL_law_1176 : decode cL_law 1176 = .ok (.aload_n 0, 1) := by decide +kernel
theorem dL_law_1177 : decode cL_law 1177 = .ok (.iload 4, 2) := by decide +kernel
theorem dL_law_1179 : decode cL_law 1179 = .ok (.iconst 1, 1) := by decide +kernel
theorem dL_law_1180 : decode cL_law 1180 = .ok (.iadd, 1) := by decide +kernel
theorem dL_law_1181 : decode cL_law 1181 = .ok (.iaload, 1) := by decide +kernel
theorem dL_law_1182 : decode cL_law 1182 = .ok (.invokevirtual 147, 3) := by decide +kernel
theorem dL_law_1185 : decode cL_law 1185 = .ok (.aload_n 2, 1) := by decide +kernel
theorem dL_law_1186 : decode cL_law 1186 = .ok (.aload_n 0, 1) := by decide +kernel
theorem dL_law_1187 : decode cL_law 1187 = .ok (.iload 4, 2) := by decide +kernel
theorem dL_law_1189 : decode cL_law 1189 = .ok (.iconst 1, 1) := by decide +kernel
theorem dL_law_1190 : decode cL_law 1190 = .ok (.iadd, 1) := by decide +kernel
theorem dL_law_1191 : decode cL_law 1191 = .ok (.iaload, 1) := by decide +kernel
theorem dL_law_1192 : decode cL_law 1192 = .ok (.invokevirtual 150, 3) := by decide +kernel
theorem dL_law_1195 : decode cL_law 1195 = .ok (.if_icmp .eq 155, 3) := by decide +kernel
theorem dL_law_1200 : decode cL_law 1200 = .ok (.aload_n 1, 1) := by decide +kernel
theorem dL_law_1201 : decode cL_law 1201 = .ok (.aload_n 0, 1) := by decide +kernel
theorem dL_law_1202 : decode cL_law 1202 = .ok (.iload 4, 2) := by decide +kernel
theorem dL_law_1204 : decode cL_law 1204 = .ok (.iconst 1, 1) := by decide +kernel
theorem dL_law_1205 : decode cL_law 1205 = .ok (.iadd, 1) := by decide +kernel
theorem dL_law_1206 : decode cL_law 1206 = .ok (.iaload, 1) := by decide +kernel
theorem dL_law_1207 : decode cL_law 1207 = .ok (.aload_n 0, 1) := by decide +kernel
theorem dL_law_1208 : decode cL_law 1208 = .ok (.iload 4, 2) := by decide +kernel
theorem dL_law_1210 : decode cL_law 1210 = .ok (.iconst 2, 1) := by decide +kernel
theorem dL_law_1211 : decode cL_law 1211 = .ok (.iadd, 1) := by decide +kernel
theorem dL_law_1212 : decode cL_law 1212 = .ok (.iaload, 1) := by decide +kernel
theorem dL_law_1213 : decode cL_law 1213 = .ok (.invokevirtual 151, 3) := by decide +kernel
theorem dL_law_1216 : decode cL_law 1216 = .ok (.aload_n 2, 1) := by decide +kernel
theorem dL_law_1217 : decode cL_law 1217 = .ok (.aload_n 0, 1) := by decide +kernel
theorem dL_law_1218 : decode cL_law 1218 = .ok (.iload 4, 2) := by decide +kernel
theorem dL_law_1220 : decode cL_law 1220 = .ok (.iconst 1, 1) := by decide +kernel
theorem dL_law_1221 : decode cL_law 1221 = .ok (.iadd, 1) := by decide +kernel
theorem dL_law_1222 : decode cL_law 1222 = .ok (.iaload, 1) := by decide +kernel
theorem dL_law_1223 : decode cL_law 1223 = .ok (.aload_n 0, 1) := by decide +kernel
theorem dL_law_1224 : decode cL_law 1224 = .ok (.iload 4, 2) := by decide +kernel
theorem dL_law_1226 : decode cL_law 1226 = .ok (.iconst 2, 1) := by decide +kernel
theorem dL_law_1227 : decode cL_law 1227 = .ok (.iadd, 1) := by decide +kernel
theorem dL_law_1228 : decode cL_law 1228 = .ok (.iaload, 1) := by decide +kernel
theorem dL_law_1229 : decode cL_law 1229 = .ok (.invokevirtual 155, 3) := by decide +kernel
theorem dL_law_1232 : decode cL_law 1232 = .ok (.lcmp, 1) := by decide +kernel
theorem dL_law_1233 : decode cL_law 1233 = .ok (.ifCond .eq 117, 3) := by decide +kernel
theorem dL_law_1238 : decode cL_law 1238 = .ok (.aload_n 1, 1) := by decide +kernel
theorem dL_law_1239 : decode cL_law 1239 = .ok (.aload_n 0, 1) := by decide +kernel
theorem dL_law_1240 : decode cL_law 1240 = .ok (.iload 4, 2) := by decide +kernel
theorem dL_law_1242 : decode cL_law 1242 = .ok (.iconst 1, 1) := by decide +kernel
theorem dL_law_1243 : decode cL_law 1243 = .ok (.iadd, 1) := by decide +kernel
theorem dL_law_1244 : decode cL_law 1244 = .ok (.iaload, 1) := by decide +kernel
theorem dL_law_1245 : decode cL_law 1245 = .ok (.aload_n 0, 1) := by decide +kernel
theorem dL_law_1246 : decode cL_law 1246 = .ok (.iload 4, 2) := by decide +kernel
theorem dL_law_1248 : decode cL_law 1248 = .ok (.iconst 2, 1) := by decide +kernel
theorem dL_law_1249 : decode cL_law 1249 = .ok (.iadd, 1) := by decide +kernel
theorem dL_law_1250 : decode cL_law 1250 = .ok (.iaload, 1) := by decide +kernel
theorem dL_law_1251 : decode cL_law 1251 = .ok (.aload_n 0, 1) := by decide +kernel
theorem dL_law_1252 : decode cL_law 1252 = .ok (.iload 4, 2) := by decide +kernel
theorem dL_law_1254 : decode cL_law 1254 = .ok (.iconst 3, 1) := by decide +kernel
theorem dL_law_1255 : decode cL_law 1255 = .ok (.iadd, 1) := by decide +kernel
theorem dL_law_1256 : decode cL_law 1256 = .ok (.iaload, 1) := by decide +kernel
theorem dL_law_1257 : decode cL_law 1257 = .ok (.aload_n 0, 1) := by decide +kernel
theorem dL_law_1258 : decode cL_law 1258 = .ok (.iload 4, 2) := by decide +kernel
theorem dL_law_1260 : decode cL_law 1260 = .ok (.iconst 4, 1) := by decide +kernel
theorem dL_law_1261 : decode cL_law 1261 = .ok (.iadd, 1) := by decide +kernel
theorem dL_law_1262 : decode cL_law 1262 = .ok (.iaload, 1) := by decide +kernel
theorem dL_law_1263 : decode cL_law 1263 = .ok (.invokevirtual 156, 3) := by decide +kernel
theorem dL_law_1266 : decode cL_law 1266 = .ok (.aload_n 2, 1) := by decide +kernel
theorem dL_law_1267 : decode cL_law 1267 = .ok (.aload_n 0, 1) := by decide +kernel
theorem dL_law_1268 : decode cL_law 1268 = .ok (.iload 4, 2) := by decide +kernel
theorem dL_law_1270 : decode cL_law 1270 = .ok (.iconst 1, 1) := by decide +kernel
theorem dL_law_1271 : decode cL_law 1271 = .ok (.iadd, 1) := by decide +kernel
theorem dL_law_1272 : decode cL_law 1272 = .ok (.iaload, 1) := by decide +kernel
theorem dL_law_1273 : decode cL_law 1273 = .ok (.aload_n 0, 1) := by decide +kernel
theorem dL_law_1274 : decode cL_law 1274 = .ok (.iload 4, 2) := by decide +kernel
theorem dL_law_1276 : decode cL_law 1276 = .ok (.iconst 2, 1) := by decide +kernel
theorem dL_law_1277 : decode cL_law 1277 = .ok (.iadd, 1) := by decide +kernel
theorem dL_law_1278 : decode cL_law 1278 = .ok (.iaload, 1) := by decide +kernel
theorem dL_law_1279 : decode cL_law 1279 = .ok (.aload_n 0, 1) := by decide +kernel
theorem dL_law_1280 : decode cL_law 1280 = .ok (.iload 4, 2) := by decide +kernel
theorem dL_law_1282 : decode cL_law 1282 = .ok (.iconst 3, 1) := by decide +kernel
theorem dL_law_1283 : decode cL_law 1283 = .ok (.iadd, 1) := by decide +kernel
theorem dL_law_1284 : decode cL_law 1284 = .ok (.iaload, 1) := by decide +kernel
theorem dL_law_1285 : decode cL_law 1285 = .ok (.aload_n 0, 1) := by decide +kernel
theorem dL_law_1286 : decode cL_law 1286 = .ok (.iload 4, 2) := by decide +kernel
theorem dL_law_1288 : decode cL_law 1288 = .ok (.iconst 4, 1) := by decide +kernel
theorem dL_law_1289 : decode cL_law 1289 = .ok (.iadd, 1) := by decide +kernel
theorem dL_law_1290 : decode cL_law 1290 = .ok (.iaload, 1) := by decide +kernel
theorem dL_law_1291 : decode cL_law 1291 = .ok (.invokevirtual 159, 3) := by decide +kernel
theorem dL_law_1294 : decode cL_law 1294 = .ok (.if_icmp .eq 56, 3) := by decide +kernel
theorem dL_law_1299 : decode cL_law 1299 = .ok (.aload_n 1, 1) := by decide +kernel
theorem dL_law_1300 : decode cL_law 1300 = .ok (.invokevirtual 160, 3) := by decide +kernel
theorem dL_law_1303 : decode cL_law 1303 = .ok (.aload_n 2, 1) := by decide +kernel
theorem dL_law_1304 : decode cL_law 1304 = .ok (.invokevirtual 163, 3) := by decide +kernel
theorem dL_law_1307 : decode cL_law 1307 = .ok (.if_icmp .eq 43, 3) := by decide +kernel
theorem dL_law_1312 : decode cL_law 1312 = .ok (.aload_n 1, 1) := by decide +kernel
theorem dL_law_1313 : decode cL_law 1313 = .ok (.invokevirtual 164, 3) := by decide +kernel
theorem dL_law_1316 : decode cL_law 1316 = .ok (.aload_n 2, 1) := by decide +kernel
theorem dL_law_1317 : decode cL_law 1317 = .ok (.invokevirtual 167, 3) := by decide +kernel
theorem dL_law_1320 : decode cL_law 1320 = .ok (.if_icmp .eq 30, 3) := by decide +kernel
theorem dL_law_1325 : decode cL_law 1325 = .ok (.aload_n 1, 1) := by decide +kernel
theorem dL_law_1326 : decode cL_law 1326 = .ok (.aload_n 0, 1) := by decide +kernel
theorem dL_law_1327 : decode cL_law 1327 = .ok (.iload 4, 2) := by decide +kernel
theorem dL_law_1329 : decode cL_law 1329 = .ok (.iconst 1, 1) := by decide +kernel
theorem dL_law_1330 : decode cL_law 1330 = .ok (.iadd, 1) := by decide +kernel
theorem dL_law_1331 : decode cL_law 1331 = .ok (.iaload, 1) := by decide +kernel
theorem dL_law_1332 : decode cL_law 1332 = .ok (.invokevirtual 168, 3) := by decide +kernel
theorem dL_law_1335 : decode cL_law 1335 = .ok (.aload_n 2, 1) := by decide +kernel
theorem dL_law_1336 : decode cL_law 1336 = .ok (.aload_n 0, 1) := by decide +kernel
theorem dL_law_1337 : decode cL_law 1337 = .ok (.iload 4, 2) := by decide +kernel
theorem dL_law_1339 : decode cL_law 1339 = .ok (.iconst 1, 1) := by decide +kernel
theorem dL_law_1340 : decode cL_law 1340 = .ok (.iadd, 1) := by decide +kernel
theorem dL_law_1341 : decode cL_law 1341 = .ok (.iaload, 1) := by decide +kernel
theorem dL_law_1342 : decode cL_law 1342 = .ok (.invokevirtual 171, 3) := by decide +kernel
theorem dL_law_1345 : decode cL_law 1345 = .ok (.if_icmp .eq 5, 3) := by decide +kernel
theorem dL_law_1350 : decode cL_law 1350 = .ok (.iinc 4 6, 3) := by decide +kernel
theorem dL_law_1353 : decode cL_law 1353 = .ok (.goto (-1330), 3) := by decide +kernel
theorem dL_law_1356 : decode cL_law 1356 = .ok (.iconst 1, 1) := by decide +kernel
theorem dL_law_1357 : decode cL_law 1357 = .ok (.ireturn, 1) := by decide +kernel
set_option maxHeartbeats 4000000 in
set_option maxRecDepth 100000 in
theorem law_end {p : Program} {e : Env} {s : State} {m : MethodId} {below : List Frame} {meth : Method} {c : Code} {l : Launch} {b L : Nat} {xs : Nat → Int32} (C0 : lw_At p s m meth c b L xs) (i : Int32) (hgt : Int32.ofNat L - 6 < i) (H : Heap) (locs : List Loc) (hS : va_S (fun q : Nat => s.heap.size ≤ q) s.heap H locs) (k n : Nat) (hk : k ≤ 600002) (hn : n ≤ 7302232) (ls : Array Slot) (hl : lv_has ls 7 [(0, .ref b), (4, .int i)]) : W p l e room_1 s m #[Value.ref b] below meth c H locs k n (lw_Z below #[Value.ref b] s) (F0 m 23 ls []) := by
  obtain ⟨hx, hb, hr, hml, hown, hts, hX, hbl, hlocks, hgv⟩ := id C0
  have hbA : ¬ (fun q : Nat => s.heap.size ≤ q) b := Nat.not_le.mpr hbl
  refine lv_iload hx hb dL_law_23 (lv_at hl 1 rfl) ?_
  refine lv_aload_n hx hb dL_law_25 rfl (lv_at hl 0 rfl) ?_
  refine va_slen hx hb hX hbl hbA hS dL_law_26 ?_
  refine lv_bipush (v := 6) hx hb dL_law_27 (by decide) ?_
  refine lv_isub hx hb dL_law_29 ?_
  refine lv_icmp_gt (tgt := 1356) hx hb dL_law_30 (by decide) (fun c_1 => ?_) (fun c_1 => absurd hgt c_1)
  refine lv_iconst (v := 1) hx hb dL_law_1356 (by decide) ?_
  refine va_forget (fun q hq => hS.2.2 q hq) ?_
  refine W.widen (k := 600002) (n := 7302232) hk hn ?_
  exact lw_ret hx hb hr hlocks dL_law_1357
set_option maxHeartbeats 8000000 in
set_option maxRecDepth 100000 in
theorem law_body {p : Program} {e : Env} {s : State} {m : MethodId} {below : List Frame} {meth : Method} {c : Code} (l : Launch) (hst : l.stackTraces = false) {b : Nat} {xs : Nat → Int32} (C0 : lw_At p s m meth c b 6 xs) (G : CallFix p m c cL_law 7 s #[Value.ref b] w_L_law RL) (hTh : py_Th (fun q : Nat => s.heap.size ≤ q) s s.heap) (E : py_E) (L : List Nat) (f : py_F) (H : Heap) (locs : List Loc) (hw : py_W E (fun q : Nat => s.heap.size ≤ q) s L f H locs) (qx qm qo : Nat) (hF : fr_H E L f qx) (hM : fr_M E L f qm) (ls : Array Slot) (hl : lv_has ls 7 [(4, .int 0), (3, .ref qo), (2, .ref qm), (1, .ref qx), (0, .ref b)]) : W p l e room_1 s m #[Value.ref b] below meth c H locs 131 11321 (lw_Z below #[Value.ref b] s) (F0 m 23 ls []) := by
  obtain ⟨hx, hb, hr, hml, hown, hts, hX, hbl, hlocks, hgv⟩ := id C0
  have hbA : ¬ (fun q : Nat => s.heap.size ≤ q) b := Nat.not_le.mpr hbl
  obtain ⟨ysX, hrowX⟩ := fr_H_row hF
  obtain ⟨ysM0, hrowM0⟩ := fr_M_row hM
  refine lv_iload G.1 G.2.1 dL_law_23 (lv_at hl 0 rfl) ?_
  refine lv_aload_n G.1 G.2.1 dL_law_25 rfl (lv_at hl 4 rfl) ?_
  refine va_slen G.1 G.2.1 hX hbl hbA hw.2.2.2.1 dL_law_26 ?_
  refine lv_bipush (v := 6) G.1 G.2.1 dL_law_27 (by decide) ?_
  refine lv_isub G.1 G.2.1 dL_law_29 ?_
  rw [show (Int32.ofNat 6) - 6 = (0 : Int32) by decide]
  refine lv_icmp_gt (tgt := 1356) G.1 G.2.1 dL_law_30 (by decide) (fun c_1 => ?_) (fun c_1 => ?_)
  · skip
    exact absurd c_1 (by decide)
  · skip
    refine lv_aload_n G.1 G.2.1 dL_law_33 rfl (lv_at hl 4 rfl) ?_
    refine lv_iload G.1 G.2.1 dL_law_34 (lv_at hl 0 rfl) ?_
    refine va_sld G.1 G.2.1 hX hbl hbA hw.2.2.2.1 (py_inr (by decide)) dL_law_36 ?_
    refine lv_bipush (v := 63) G.1 G.2.1 dL_law_37 (by decide) ?_
    refine lv_iand G.1 G.2.1 dL_law_39 ?_
    refine lv_topi (fun x_2 ex_2 => ?_)
    rcases py_sw34 x_2 with e_sw | e_sw | e_sw | e_sw | e_sw | e_sw | e_sw | e_sw | e_sw | e_sw | e_sw | e_sw | e_sw | e_sw | e_sw | e_sw | e_sw | e_sw | e_sw | e_sw | e_sw | e_sw | e_sw | e_sw | e_sw | e_sw | e_sw | e_sw | e_sw | e_sw | e_sw | e_sw | e_sw | e_sw | e_sw
    · skip
      subst e_sw
      refine lv_tableIn (tgt := 192) G.1 G.2.1 dL_law_40 (by decide) (by decide) rfl (by decide) ?_
      refine lv_aload_n G.1 G.2.1 dL_law_192 rfl (lv_at hl 3 rfl) ?_
      refine lv_aload_n G.1 G.2.1 dL_law_193 rfl (lv_at hl 4 rfl) ?_
      refine lv_iload G.1 G.2.1 dL_law_194 (lv_at hl 0 rfl) ?_
      refine lv_iconst (v := 1) G.1 G.2.1 dL_law_196 (by decide) ?_
      refine lv_iadd G.1 G.2.1 dL_law_197 ?_
      rw [show 0 + 1 = (1 : Int32) by decide]
      refine va_sld G.1 G.2.1 hX hbl hbA hw.2.2.2.1 (py_inr (by decide)) dL_law_198 ?_
      refine lv_aload_n G.1 G.2.1 dL_law_199 rfl (lv_at hl 4 rfl) ?_
      refine lv_iload G.1 G.2.1 dL_law_200 (lv_at hl 0 rfl) ?_
      refine lv_iconst (v := 2) G.1 G.2.1 dL_law_202 (by decide) ?_
      refine lv_iadd G.1 G.2.1 dL_law_203 ?_
      rw [show 0 + 2 = (2 : Int32) by decide]
      refine va_sld G.1 G.2.1 hX hbl hbA hw.2.2.2.1 (py_inr (by decide)) dL_law_204 ?_
      refine lv_aload_n G.1 G.2.1 dL_law_205 rfl (lv_at hl 4 rfl) ?_
      refine lv_iload G.1 G.2.1 dL_law_206 (lv_at hl 0 rfl) ?_
      refine lv_iconst (v := 3) G.1 G.2.1 dL_law_208 (by decide) ?_
      refine lv_iadd G.1 G.2.1 dL_law_209 ?_
      rw [show 0 + 3 = (3 : Int32) by decide]
      refine va_sld G.1 G.2.1 hX hbl hbA hw.2.2.2.1 (py_inr (by decide)) dL_law_210 ?_
      refine lv_aload_n G.1 G.2.1 dL_law_211 rfl (lv_at hl 4 rfl) ?_
      refine lv_iload G.1 G.2.1 dL_law_212 (lv_at hl 0 rfl) ?_
      refine lv_iconst (v := 4) G.1 G.2.1 dL_law_214 (by decide) ?_
      refine lv_iadd G.1 G.2.1 dL_law_215 ?_
      rw [show 0 + 4 = (4 : Int32) by decide]
      refine va_sld G.1 G.2.1 hX hbl hbA hw.2.2.2.1 (py_inr (by decide)) dL_law_216 ?_
      refine lv_aload_n G.1 G.2.1 dL_law_217 rfl (lv_at hl 4 rfl) ?_
      refine lv_iload G.1 G.2.1 dL_law_218 (lv_at hl 0 rfl) ?_
      refine lv_iconst (v := 5) G.1 G.2.1 dL_law_220 (by decide) ?_
      refine lv_iadd G.1 G.2.1 dL_law_221 ?_
      rw [show 0 + 5 = (5 : Int32) by decide]
      refine va_sld G.1 G.2.1 hX hbl hbA hw.2.2.2.1 (py_inr (by decide)) dL_law_222 ?_
      refine py_calli hw (va_runV (As := [.int (xs (Int32.toNatClampNeg 1)), .int (xs (Int32.toNatClampNeg 2)), .int (xs (Int32.toNatClampNeg 3)), .int (xs (Int32.toNatClampNeg 4)), .int (xs (Int32.toNatClampNeg 5))]) (rest := []) G (c_X11_feed l E L f H.size qx (xs (Int32.toNatClampNeg 1)) (xs (Int32.toNatClampNeg 2)) (xs (Int32.toNatClampNeg 3)) (xs (Int32.toNatClampNeg 4)) (xs (Int32.toNatClampNeg 5)) hF) (cwV 5 G.2.2.2.2 g_L_law_X11_feed_19 rfl rfl rfl (by decide +kernel) ⟨(Nat.le_of_ble_eq_true rfl), (Nat.le_of_ble_eq_true rfl)⟩) (py_preV hw (C := RX11) (T := TX11) (N := 16) rfl hrowX) rfl rfl hl.1 rfl (lv_room (Nat.le_of_ble_eq_true rfl)) dL_law_223 ⟨(Nat.le_of_ble_eq_true rfl), (Nat.le_of_ble_eq_true rfl)⟩) (fun r_7 L_3 f_4 H_5 locs hp_6 hw => ?_)
      obtain ⟨rfl, hmm⟩ := hp_6
      have hM := hmm _ hM
      obtain ⟨ysM, hrowM⟩ := fr_M_row hM
      refine lv_aload_n G.1 G.2.1 dL_law_226 rfl (lv_at hl 2 rfl) ?_
      refine lv_aload_n G.1 G.2.1 dL_law_227 rfl (lv_at hl 4 rfl) ?_
      refine lv_iload G.1 G.2.1 dL_law_228 (lv_at hl 0 rfl) ?_
      refine lv_iconst (v := 1) G.1 G.2.1 dL_law_230 (by decide) ?_
      refine lv_iadd G.1 G.2.1 dL_law_231 ?_
      rw [show 0 + 1 = (1 : Int32) by decide]
      refine va_sld G.1 G.2.1 hX hbl hbA hw.2.2.2.1 (py_inr (by decide)) dL_law_232 ?_
      refine lv_aload_n G.1 G.2.1 dL_law_233 rfl (lv_at hl 4 rfl) ?_
      refine lv_iload G.1 G.2.1 dL_law_234 (lv_at hl 0 rfl) ?_
      refine lv_iconst (v := 2) G.1 G.2.1 dL_law_236 (by decide) ?_
      refine lv_iadd G.1 G.2.1 dL_law_237 ?_
      rw [show 0 + 2 = (2 : Int32) by decide]
      refine va_sld G.1 G.2.1 hX hbl hbA hw.2.2.2.1 (py_inr (by decide)) dL_law_238 ?_
      refine lv_aload_n G.1 G.2.1 dL_law_239 rfl (lv_at hl 4 rfl) ?_
      refine lv_iload G.1 G.2.1 dL_law_240 (lv_at hl 0 rfl) ?_
      refine lv_iconst (v := 3) G.1 G.2.1 dL_law_242 (by decide) ?_
      refine lv_iadd G.1 G.2.1 dL_law_243 ?_
      rw [show 0 + 3 = (3 : Int32) by decide]
      refine va_sld G.1 G.2.1 hX hbl hbA hw.2.2.2.1 (py_inr (by decide)) dL_law_244 ?_
      refine lv_aload_n G.1 G.2.1 dL_law_245 rfl (lv_at hl 4 rfl) ?_
      refine lv_iload G.1 G.2.1 dL_law_246 (lv_at hl 0 rfl) ?_
      refine lv_iconst (v := 4) G.1 G.2.1 dL_law_248 (by decide) ?_
      refine lv_iadd G.1 G.2.1 dL_law_249 ?_
      rw [show 0 + 4 = (4 : Int32) by decide]
      refine va_sld G.1 G.2.1 hX hbl hbA hw.2.2.2.1 (py_inr (by decide)) dL_law_250 ?_
      refine lv_aload_n G.1 G.2.1 dL_law_251 rfl (lv_at hl 4 rfl) ?_
      refine lv_iload G.1 G.2.1 dL_law_252 (lv_at hl 0 rfl) ?_
      refine lv_iconst (v := 5) G.1 G.2.1 dL_law_254 (by decide) ?_
      refine lv_iadd G.1 G.2.1 dL_law_255 ?_
      rw [show 0 + 5 = (5 : Int32) by decide]
      refine va_sld G.1 G.2.1 hX hbl hbA hw.2.2.2.1 (py_inr (by decide)) dL_law_256 ?_
      refine py_calli hw (va_runV (As := [.int (xs (Int32.toNatClampNeg 1)), .int (xs (Int32.toNatClampNeg 2)), .int (xs (Int32.toNatClampNeg 3)), .int (xs (Int32.toNatClampNeg 4)), .int (xs (Int32.toNatClampNeg 5))]) (rest := [.int (nI (fd_n (xs (Int32.toNatClampNeg 1)) + fd_n (xs (Int32.toNatClampNeg 2)) + fd_n (xs (Int32.toNatClampNeg 3)) + fd_n (xs (Int32.toNatClampNeg 4)) + fd_n (xs (Int32.toNatClampNeg 5))))]) G (c_X12_feed l E L_3 f_4 H_5.size qm (xs (Int32.toNatClampNeg 1)) (xs (Int32.toNatClampNeg 2)) (xs (Int32.toNatClampNeg 3)) (xs (Int32.toNatClampNeg 4)) (xs (Int32.toNatClampNeg 5)) hM) (cwV 5 G.2.2.2.2 g_L_law_X12_feed_23 rfl rfl rfl (by decide +kernel) ⟨(Nat.le_of_ble_eq_true rfl), (Nat.le_of_ble_eq_true rfl)⟩) (py_preV hw (C := RX12) (T := TX12) (N := 54) rfl hrowM) rfl rfl hl.1 rfl (lv_room (Nat.le_of_ble_eq_true rfl)) dL_law_257 ⟨(Nat.le_of_ble_eq_true rfl), (Nat.le_of_ble_eq_true rfl)⟩) (fun r_12 L_8 f_9 H_10 locs hp_11 hw => ?_)
      obtain rfl := hp_11
      refine lv_icmp_eq (tgt := 1350) G.1 G.2.1 dL_law_260 (by decide) (fun c_13 => ?_) (fun c_13 => absurd rfl c_13)
      refine lv_iinc (v := 6) (lv' := [(4, .int 6), (3, .ref qo), (2, .ref qm), (1, .ref qx), (0, .ref b)]) G.1 G.2.1 dL_law_1350 hl (k := 0) rfl (by decide) (by decide) rfl (fun ls hl => ?_)
      refine lv_goto (tgt := 23) G.1 G.2.1 dL_law_1353 (by decide) ?_
      exact law_end (L := 6) C0 6 (by decide) _ _ hw.2.2.2.1 _ _ (Nat.le_of_ble_eq_true rfl) (Nat.le_of_ble_eq_true rfl) ls (lv_sub hl [4, 0] rfl)
    · skip
      subst e_sw
      refine lv_tableIn (tgt := 265) G.1 G.2.1 dL_law_40 (by decide) (by decide) rfl (by decide) ?_
      refine lv_aload_n G.1 G.2.1 dL_law_265 rfl (lv_at hl 3 rfl) ?_
      refine lv_aload_n G.1 G.2.1 dL_law_266 rfl (lv_at hl 4 rfl) ?_
      refine lv_iload G.1 G.2.1 dL_law_267 (lv_at hl 0 rfl) ?_
      refine lv_iconst (v := 1) G.1 G.2.1 dL_law_269 (by decide) ?_
      refine lv_iadd G.1 G.2.1 dL_law_270 ?_
      rw [show 0 + 1 = (1 : Int32) by decide]
      refine va_sld G.1 G.2.1 hX hbl hbA hw.2.2.2.1 (py_inr (by decide)) dL_law_271 ?_
      refine py_calli hw (va_runV (As := [.int (xs (Int32.toNatClampNeg 1))]) (rest := []) G (c_X11_end l E L f H.size qx (xs (Int32.toNatClampNeg 1)) hF) (cwV 1 G.2.2.2.2 g_L_law_X11_end_24 rfl rfl rfl (by decide +kernel) ⟨(Nat.le_of_ble_eq_true rfl), (Nat.le_of_ble_eq_true rfl)⟩) (py_preV hw (C := RX11) (T := TX11) (N := 16) rfl hrowX) rfl rfl hl.1 rfl (lv_room (Nat.le_of_ble_eq_true rfl)) dL_law_272 ⟨(Nat.le_of_ble_eq_true rfl), (Nat.le_of_ble_eq_true rfl)⟩) (fun r_18 L_14 f_15 H_16 locs hp_17 hw => ?_)
      obtain ⟨rfl, hmm⟩ := hp_17
      have hM := hmm _ hM
      obtain ⟨ysM, hrowM⟩ := fr_M_row hM
      refine lv_aload_n G.1 G.2.1 dL_law_275 rfl (lv_at hl 2 rfl) ?_
      refine lv_aload_n G.1 G.2.1 dL_law_276 rfl (lv_at hl 4 rfl) ?_
      refine lv_iload G.1 G.2.1 dL_law_277 (lv_at hl 0 rfl) ?_
      refine lv_iconst (v := 1) G.1 G.2.1 dL_law_279 (by decide) ?_
      refine lv_iadd G.1 G.2.1 dL_law_280 ?_
      rw [show 0 + 1 = (1 : Int32) by decide]
      refine va_sld G.1 G.2.1 hX hbl hbA hw.2.2.2.1 (py_inr (by decide)) dL_law_281 ?_
      refine py_calli hw (va_runV (As := [.int (xs (Int32.toNatClampNeg 1))]) (rest := [.int (if (xs (Int32.toNatClampNeg 1)) < 0 ∨ 0 < (xs (Int32.toNatClampNeg 1)) then 0 else 1)]) G (c_X12_end l E L_14 f_15 H_16.size qm (xs (Int32.toNatClampNeg 1)) hM) (cwV 1 G.2.2.2.2 g_L_law_X12_end_28 rfl rfl rfl (by decide +kernel) ⟨(Nat.le_of_ble_eq_true rfl), (Nat.le_of_ble_eq_true rfl)⟩) (py_preV hw (C := RX12) (T := TX12) (N := 54) rfl hrowM) rfl rfl hl.1 rfl (lv_room (Nat.le_of_ble_eq_true rfl)) dL_law_282 ⟨(Nat.le_of_ble_eq_true rfl), (Nat.le_of_ble_eq_true rfl)⟩) (fun r_23 L_19 f_20 H_21 locs hp_22 hw => ?_)
      obtain rfl := hp_22
      refine lv_icmp_eq (tgt := 1350) G.1 G.2.1 dL_law_285 (by decide) (fun c_24 => ?_) (fun c_24 => absurd rfl c_24)
      refine lv_iinc (v := 6) (lv' := [(4, .int 6), (3, .ref qo), (2, .ref qm), (1, .ref qx), (0, .ref b)]) G.1 G.2.1 dL_law_1350 hl (k := 0) rfl (by decide) (by decide) rfl (fun ls hl => ?_)
      refine lv_goto (tgt := 23) G.1 G.2.1 dL_law_1353 (by decide) ?_
      exact law_end (L := 6) C0 6 (by decide) _ _ hw.2.2.2.1 _ _ (Nat.le_of_ble_eq_true rfl) (Nat.le_of_ble_eq_true rfl) ls (lv_sub hl [4, 0] rfl)
    · skip
      subst e_sw
      refine lv_tableIn (tgt := 290) G.1 G.2.1 dL_law_40 (by decide) (by decide) rfl (by decide) ?_
      refine lv_aload_n G.1 G.2.1 dL_law_290 rfl (lv_at hl 3 rfl) ?_
      refine lv_aload_n G.1 G.2.1 dL_law_291 rfl (lv_at hl 4 rfl) ?_
      refine lv_iload G.1 G.2.1 dL_law_292 (lv_at hl 0 rfl) ?_
      refine lv_iconst (v := 1) G.1 G.2.1 dL_law_294 (by decide) ?_
      refine lv_iadd G.1 G.2.1 dL_law_295 ?_
      rw [show 0 + 1 = (1 : Int32) by decide]
      refine va_sld G.1 G.2.1 hX hbl hbA hw.2.2.2.1 (py_inr (by decide)) dL_law_296 ?_
      refine py_calli hw (va_runV (As := [.int (xs (Int32.toNatClampNeg 1))]) (rest := []) G (c_X11_fault l E L f H.size qx (xs (Int32.toNatClampNeg 1)) hF) (cwV 1 G.2.2.2.2 g_L_law_X11_fault_29 rfl rfl rfl (by decide +kernel) ⟨(Nat.le_of_ble_eq_true rfl), (Nat.le_of_ble_eq_true rfl)⟩) (py_preV hw (C := RX11) (T := TX11) (N := 16) rfl hrowX) rfl rfl hl.1 rfl (lv_room (Nat.le_of_ble_eq_true rfl)) dL_law_297 ⟨(Nat.le_of_ble_eq_true rfl), (Nat.le_of_ble_eq_true rfl)⟩) (fun r_29 L_25 f_26 H_27 locs hp_28 hw => ?_)
      obtain ⟨rfl, hmm⟩ := hp_28
      have hM := hmm _ hM
      obtain ⟨ysM, hrowM⟩ := fr_M_row hM
      refine lv_aload_n G.1 G.2.1 dL_law_300 rfl (lv_at hl 2 rfl) ?_
      refine lv_aload_n G.1 G.2.1 dL_law_301 rfl (lv_at hl 4 rfl) ?_
      refine lv_iload G.1 G.2.1 dL_law_302 (lv_at hl 0 rfl) ?_
      refine lv_iconst (v := 1) G.1 G.2.1 dL_law_304 (by decide) ?_
      refine lv_iadd G.1 G.2.1 dL_law_305 ?_
      rw [show 0 + 1 = (1 : Int32) by decide]
      refine va_sld G.1 G.2.1 hX hbl hbA hw.2.2.2.1 (py_inr (by decide)) dL_law_306 ?_
      refine py_calli hw (va_runV (As := [.int (xs (Int32.toNatClampNeg 1))]) (rest := [.int (sp_fault (xs (Int32.toNatClampNeg 1)))]) G (c_X12_fault l E L_25 f_26 H_27.size qm (xs (Int32.toNatClampNeg 1)) hM) (cwV 1 G.2.2.2.2 g_L_law_X12_fault_33 rfl rfl rfl (by decide +kernel) ⟨(Nat.le_of_ble_eq_true rfl), (Nat.le_of_ble_eq_true rfl)⟩) (py_preV hw (C := RX12) (T := TX12) (N := 54) rfl hrowM) rfl rfl hl.1 rfl (lv_room (Nat.le_of_ble_eq_true rfl)) dL_law_307 ⟨(Nat.le_of_ble_eq_true rfl), (Nat.le_of_ble_eq_true rfl)⟩) (fun r_34 L_30 f_31 H_32 locs hp_33 hw => ?_)
      obtain rfl := hp_33
      refine lv_icmp_eq (tgt := 1350) G.1 G.2.1 dL_law_310 (by decide) (fun c_35 => ?_) (fun c_35 => absurd rfl c_35)
      refine lv_iinc (v := 6) (lv' := [(4, .int 6), (3, .ref qo), (2, .ref qm), (1, .ref qx), (0, .ref b)]) G.1 G.2.1 dL_law_1350 hl (k := 0) rfl (by decide) (by decide) rfl (fun ls hl => ?_)
      refine lv_goto (tgt := 23) G.1 G.2.1 dL_law_1353 (by decide) ?_
      exact law_end (L := 6) C0 6 (by decide) _ _ hw.2.2.2.1 _ _ (Nat.le_of_ble_eq_true rfl) (Nat.le_of_ble_eq_true rfl) ls (lv_sub hl [4, 0] rfl)
    · skip
      subst e_sw
      refine lv_tableIn (tgt := 315) G.1 G.2.1 dL_law_40 (by decide) (by decide) rfl (by decide) ?_
      refine lv_aload_n G.1 G.2.1 dL_law_315 rfl (lv_at hl 3 rfl) ?_
      refine lv_aload_n G.1 G.2.1 dL_law_316 rfl (lv_at hl 4 rfl) ?_
      refine lv_iload G.1 G.2.1 dL_law_317 (lv_at hl 0 rfl) ?_
      refine lv_iconst (v := 1) G.1 G.2.1 dL_law_319 (by decide) ?_
      refine lv_iadd G.1 G.2.1 dL_law_320 ?_
      rw [show 0 + 1 = (1 : Int32) by decide]
      refine va_sld G.1 G.2.1 hX hbl hbA hw.2.2.2.1 (py_inr (by decide)) dL_law_321 ?_
      refine py_calli hw (va_runV (As := [.int (xs (Int32.toNatClampNeg 1))]) (rest := []) G (c_X11_text l E L f H.size qx (xs (Int32.toNatClampNeg 1)) hF) (cwV 1 G.2.2.2.2 g_L_law_X11_text_34 rfl rfl rfl (by decide +kernel) ⟨(Nat.le_of_ble_eq_true rfl), (Nat.le_of_ble_eq_true rfl)⟩) (py_preV hw (C := RX11) (T := TX11) (N := 16) rfl hrowX) rfl rfl hl.1 rfl (lv_room (Nat.le_of_ble_eq_true rfl)) dL_law_322 ⟨(Nat.le_of_ble_eq_true rfl), (Nat.le_of_ble_eq_true rfl)⟩) (fun r_40 L_36 f_37 H_38 locs hp_39 hw => ?_)
      obtain ⟨rfl, hmm⟩ := hp_39
      have hM := hmm _ hM
      obtain ⟨ysM, hrowM⟩ := fr_M_row hM
      refine lv_aload_n G.1 G.2.1 dL_law_325 rfl (lv_at hl 2 rfl) ?_
      refine lv_aload_n G.1 G.2.1 dL_law_326 rfl (lv_at hl 4 rfl) ?_
      refine lv_iload G.1 G.2.1 dL_law_327 (lv_at hl 0 rfl) ?_
      refine lv_iconst (v := 1) G.1 G.2.1 dL_law_329 (by decide) ?_
      refine lv_iadd G.1 G.2.1 dL_law_330 ?_
      rw [show 0 + 1 = (1 : Int32) by decide]
      refine va_sld G.1 G.2.1 hX hbl hbA hw.2.2.2.1 (py_inr (by decide)) dL_law_331 ?_
      refine py_calli hw (va_runV (As := [.int (xs (Int32.toNatClampNeg 1))]) (rest := [.int (-1)]) G (c_X12_text l E L_36 f_37 H_38.size qm (xs (Int32.toNatClampNeg 1)) hM) (cwV 1 G.2.2.2.2 g_L_law_X12_text_37 rfl rfl rfl (by decide +kernel) ⟨(Nat.le_of_ble_eq_true rfl), (Nat.le_of_ble_eq_true rfl)⟩) (py_preV hw (C := RX12) (T := TX12) (N := 54) rfl hrowM) rfl rfl hl.1 rfl (lv_room (Nat.le_of_ble_eq_true rfl)) dL_law_332 ⟨(Nat.le_of_ble_eq_true rfl), (Nat.le_of_ble_eq_true rfl)⟩) (fun r_45 L_41 f_42 H_43 locs hp_44 hw => ?_)
      obtain rfl := hp_44
      refine lv_icmp_eq (tgt := 1350) G.1 G.2.1 dL_law_335 (by decide) (fun c_46 => ?_) (fun c_46 => ?_)
      · skip
        refine lv_iinc (v := 6) (lv' := [(4, .int 6), (3, .ref qo), (2, .ref qm), (1, .ref qx), (0, .ref b)]) G.1 G.2.1 dL_law_1350 hl (k := 0) rfl (by decide) (by decide) rfl (fun ls hl => ?_)
        refine lv_goto (tgt := 23) G.1 G.2.1 dL_law_1353 (by decide) ?_
        exact law_end (L := 6) C0 6 (by decide) _ _ hw.2.2.2.1 _ _ (Nat.le_of_ble_eq_true rfl) (Nat.le_of_ble_eq_true rfl) ls (lv_sub hl [4, 0] rfl)
      · skip
        exact absurd c_46 (by decide)
    · skip
      subst e_sw
      refine lv_tableIn (tgt := 340) G.1 G.2.1 dL_law_40 (by decide) (by decide) rfl (by decide) ?_
      refine lv_aload_n G.1 G.2.1 dL_law_340 rfl (lv_at hl 3 rfl) ?_
      refine lv_aload_n G.1 G.2.1 dL_law_341 rfl (lv_at hl 4 rfl) ?_
      refine lv_iload G.1 G.2.1 dL_law_342 (lv_at hl 0 rfl) ?_
      refine lv_iconst (v := 1) G.1 G.2.1 dL_law_344 (by decide) ?_
      refine lv_iadd G.1 G.2.1 dL_law_345 ?_
      rw [show 0 + 1 = (1 : Int32) by decide]
      refine va_sld G.1 G.2.1 hX hbl hbA hw.2.2.2.1 (py_inr (by decide)) dL_law_346 ?_
      refine lv_aload_n G.1 G.2.1 dL_law_347 rfl (lv_at hl 4 rfl) ?_
      refine lv_iload G.1 G.2.1 dL_law_348 (lv_at hl 0 rfl) ?_
      refine lv_iconst (v := 2) G.1 G.2.1 dL_law_350 (by decide) ?_
      refine lv_iadd G.1 G.2.1 dL_law_351 ?_
      rw [show 0 + 2 = (2 : Int32) by decide]
      refine va_sld G.1 G.2.1 hX hbl hbA hw.2.2.2.1 (py_inr (by decide)) dL_law_352 ?_
      refine lv_aload_n G.1 G.2.1 dL_law_353 rfl (lv_at hl 1 rfl) ?_
      refine py_calli hw (vx_runSW (As := [.ref qx, .int (xs (Int32.toNatClampNeg 1)), .int (xs (Int32.toNatClampNeg 2)), .ref qo]) (rest := []) G (c_L_level l hst E L f H.size qx (xs (Int32.toNatClampNeg 1)) (xs (Int32.toNatClampNeg 2)) qo hF) (vx_cwSW 4 G.2.2.2.2 g_L_law_L_level rfl rfl rfl (by decide +kernel) ⟨(Nat.le_of_ble_eq_true rfl), (Nat.le_of_ble_eq_true rfl)⟩) (py_preST hw hTh) rfl rfl hl.1 rfl (lv_room (Nat.le_of_ble_eq_true rfl)) dL_law_354 ⟨(Nat.le_of_ble_eq_true rfl), (Nat.le_of_ble_eq_true rfl)⟩) (fun r_lv L_47 f_48 H_49 locs hp_50 hw => ?_)
      obtain ⟨rfl, rfl, rfl⟩ := hp_50
      obtain ⟨ysM, hrowM⟩ := fr_M_row hM
      refine lv_istore (lv' := [(5, .int 1), (4, .int 0), (3, .ref qo), (2, .ref qm), (1, .ref qx), (0, .ref b)]) G.1 G.2.1 dL_law_357 hl (by decide) rfl (fun ls hl => ?_)
      refine lv_aload_n G.1 G.2.1 dL_law_359 rfl (lv_at hl 3 rfl) ?_
      refine lv_aload_n G.1 G.2.1 dL_law_360 rfl (lv_at hl 5 rfl) ?_
      refine lv_iload G.1 G.2.1 dL_law_361 (lv_at hl 1 rfl) ?_
      refine lv_iconst (v := 1) G.1 G.2.1 dL_law_363 (by decide) ?_
      refine lv_iadd G.1 G.2.1 dL_law_364 ?_
      rw [show 0 + 1 = (1 : Int32) by decide]
      refine va_sld G.1 G.2.1 hX hbl hbA hw.2.2.2.1 (py_inr (by decide)) dL_law_365 ?_
      refine lv_aload_n G.1 G.2.1 dL_law_366 rfl (lv_at hl 5 rfl) ?_
      refine lv_iload G.1 G.2.1 dL_law_367 (lv_at hl 1 rfl) ?_
      refine lv_iconst (v := 2) G.1 G.2.1 dL_law_369 (by decide) ?_
      refine lv_iadd G.1 G.2.1 dL_law_370 ?_
      rw [show 0 + 2 = (2 : Int32) by decide]
      refine va_sld G.1 G.2.1 hX hbl hbA hw.2.2.2.1 (py_inr (by decide)) dL_law_371 ?_
      refine py_calli hw (va_runV (As := [.int (xs (Int32.toNatClampNeg 1)), .int (xs (Int32.toNatClampNeg 2))]) (rest := []) G (c_X12_level l E L f H_49.size qm (xs (Int32.toNatClampNeg 1)) (xs (Int32.toNatClampNeg 2)) hM) (cwV 2 G.2.2.2.2 g_L_law_X12_level_43 rfl rfl rfl (by decide +kernel) ⟨(Nat.le_of_ble_eq_true rfl), (Nat.le_of_ble_eq_true rfl)⟩) (py_preV hw (C := RX12) (T := TX12) (N := 54) rfl hrowM) rfl rfl hl.1 rfl (lv_room (Nat.le_of_ble_eq_true rfl)) dL_law_372 ⟨(Nat.le_of_ble_eq_true rfl), (Nat.le_of_ble_eq_true rfl)⟩) (fun r_55 L_51 f_52 H_53 locs hp_54 hw => ?_)
      obtain ⟨rfl, ysT, hrowT, hpT⟩ := hp_54
      refine lv_istore (lv' := [(6, .int 0), (5, .int 1), (4, .int 0), (3, .ref qo), (2, .ref qm), (1, .ref qx), (0, .ref b)]) G.1 G.2.1 dL_law_375 hl (by decide) rfl (fun ls hl => ?_)
      refine lv_aload_n G.1 G.2.1 dL_law_377 rfl (lv_at hl 4 rfl) ?_
      refine py_calli hw (va_runV (As := []) (rest := []) G (c_X12_thrown l E L_51 f_52 H_53.size qm ysT hrowT hpT) (cwV 0 G.2.2.2.2 g_L_law_X12_thrown_44 rfl rfl rfl (by decide +kernel) ⟨(Nat.le_of_ble_eq_true rfl), (Nat.le_of_ble_eq_true rfl)⟩) (py_preV hw (C := RX12) (T := TX12) (N := 54) rfl hrowT) rfl rfl hl.1 rfl (lv_room (Nat.le_of_ble_eq_true rfl)) dL_law_378 ⟨(Nat.le_of_ble_eq_true rfl), (Nat.le_of_ble_eq_true rfl)⟩) (fun r_60 L_56 f_57 H_58 locs hp_59 hw => ?_)
      obtain rfl := hp_59
      refine lv_iload G.1 G.2.1 dL_law_381 (lv_at hl 1 rfl) ?_
      refine lv_icmp_eq (tgt := 388) G.1 G.2.1 dL_law_383 (by decide) (fun c_61 => ?_) (fun c_61 => ?_)
      · skip
        refine lv_iload G.1 G.2.1 dL_law_388 (lv_at hl 1 rfl) ?_
        refine lv_if_ne (tgt := 405) G.1 G.2.1 dL_law_390 (by decide) (fun c_62 => ?_) (fun c_62 => ?_)
        · skip
          refine lv_goto (tgt := 1350) G.1 G.2.1 dL_law_405 (by decide) ?_
          refine lv_iinc (v := 6) (lv' := [(4, .int 6), (6, .int 0), (5, .int 1), (3, .ref qo), (2, .ref qm), (1, .ref qx), (0, .ref b)]) G.1 G.2.1 dL_law_1350 hl (k := 2) rfl (by decide) (by decide) rfl (fun ls hl => ?_)
          refine lv_goto (tgt := 23) G.1 G.2.1 dL_law_1353 (by decide) ?_
          exact law_end (L := 6) C0 6 (by decide) _ _ hw.2.2.2.1 _ _ (Nat.le_of_ble_eq_true rfl) (Nat.le_of_ble_eq_true rfl) ls (lv_sub hl [6, 0] rfl)
        · skip
          exact absurd c_62 (by decide)
      · skip
        exact absurd c_61 (by decide)
    · skip
      subst e_sw
      refine lv_tableIn (tgt := 408) G.1 G.2.1 dL_law_40 (by decide) (by decide) rfl (by decide) ?_
      refine lv_aload_n G.1 G.2.1 dL_law_408 rfl (lv_at hl 3 rfl) ?_
      refine lv_aload_n G.1 G.2.1 dL_law_409 rfl (lv_at hl 4 rfl) ?_
      refine lv_iload G.1 G.2.1 dL_law_410 (lv_at hl 0 rfl) ?_
      refine lv_iconst (v := 1) G.1 G.2.1 dL_law_412 (by decide) ?_
      refine lv_iadd G.1 G.2.1 dL_law_413 ?_
      rw [show 0 + 1 = (1 : Int32) by decide]
      refine va_sld G.1 G.2.1 hX hbl hbA hw.2.2.2.1 (py_inr (by decide)) dL_law_414 ?_
      refine lv_aload_n G.1 G.2.1 dL_law_415 rfl (lv_at hl 4 rfl) ?_
      refine lv_iload G.1 G.2.1 dL_law_416 (lv_at hl 0 rfl) ?_
      refine lv_iconst (v := 2) G.1 G.2.1 dL_law_418 (by decide) ?_
      refine lv_iadd G.1 G.2.1 dL_law_419 ?_
      rw [show 0 + 2 = (2 : Int32) by decide]
      refine va_sld G.1 G.2.1 hX hbl hbA hw.2.2.2.1 (py_inr (by decide)) dL_law_420 ?_
      refine py_calli hw (va_runV (As := [.int (xs (Int32.toNatClampNeg 1)), .int (xs (Int32.toNatClampNeg 2))]) (rest := []) G (c_X11_family l E L f H.size qx (xs (Int32.toNatClampNeg 1)) (xs (Int32.toNatClampNeg 2)) hF) (cwV 2 G.2.2.2.2 g_L_law_X11_family_48 rfl rfl rfl (by decide +kernel) ⟨(Nat.le_of_ble_eq_true rfl), (Nat.le_of_ble_eq_true rfl)⟩) (py_preV hw (C := RX11) (T := TX11) (N := 16) rfl hrowX) rfl rfl hl.1 rfl (lv_room (Nat.le_of_ble_eq_true rfl)) dL_law_421 ⟨(Nat.le_of_ble_eq_true rfl), (Nat.le_of_ble_eq_true rfl)⟩) (fun r_67 L_63 f_64 H_65 locs hp_66 hw => ?_)
      obtain ⟨rfl, hmm⟩ := hp_66
      have hM := hmm _ hM
      obtain ⟨ysM, hrowM⟩ := fr_M_row hM
      refine lv_aload_n G.1 G.2.1 dL_law_424 rfl (lv_at hl 2 rfl) ?_
      refine lv_aload_n G.1 G.2.1 dL_law_425 rfl (lv_at hl 4 rfl) ?_
      refine lv_iload G.1 G.2.1 dL_law_426 (lv_at hl 0 rfl) ?_
      refine lv_iconst (v := 1) G.1 G.2.1 dL_law_428 (by decide) ?_
      refine lv_iadd G.1 G.2.1 dL_law_429 ?_
      rw [show 0 + 1 = (1 : Int32) by decide]
      refine va_sld G.1 G.2.1 hX hbl hbA hw.2.2.2.1 (py_inr (by decide)) dL_law_430 ?_
      refine lv_aload_n G.1 G.2.1 dL_law_431 rfl (lv_at hl 4 rfl) ?_
      refine lv_iload G.1 G.2.1 dL_law_432 (lv_at hl 0 rfl) ?_
      refine lv_iconst (v := 2) G.1 G.2.1 dL_law_434 (by decide) ?_
      refine lv_iadd G.1 G.2.1 dL_law_435 ?_
      rw [show 0 + 2 = (2 : Int32) by decide]
      refine va_sld G.1 G.2.1 hX hbl hbA hw.2.2.2.1 (py_inr (by decide)) dL_law_436 ?_
      refine py_calli hw (va_runV (As := [.int (xs (Int32.toNatClampNeg 1)), .int (xs (Int32.toNatClampNeg 2))]) (rest := [.int (-1000000)]) G (c_X12_family l E L_63 f_64 H_65.size qm (xs (Int32.toNatClampNeg 1)) (xs (Int32.toNatClampNeg 2)) hM) (cwV 2 G.2.2.2.2 g_L_law_X12_family_51 rfl rfl rfl (by decide +kernel) ⟨(Nat.le_of_ble_eq_true rfl), (Nat.le_of_ble_eq_true rfl)⟩) (py_preV hw (C := RX12) (T := TX12) (N := 54) rfl hrowM) rfl rfl hl.1 rfl (lv_room (Nat.le_of_ble_eq_true rfl)) dL_law_437 ⟨(Nat.le_of_ble_eq_true rfl), (Nat.le_of_ble_eq_true rfl)⟩) (fun r_72 L_68 f_69 H_70 locs hp_71 hw => ?_)
      obtain rfl := hp_71
      refine lv_icmp_eq (tgt := 1350) G.1 G.2.1 dL_law_440 (by decide) (fun c_73 => ?_) (fun c_73 => ?_)
      · skip
        refine lv_iinc (v := 6) (lv' := [(4, .int 6), (3, .ref qo), (2, .ref qm), (1, .ref qx), (0, .ref b)]) G.1 G.2.1 dL_law_1350 hl (k := 0) rfl (by decide) (by decide) rfl (fun ls hl => ?_)
        refine lv_goto (tgt := 23) G.1 G.2.1 dL_law_1353 (by decide) ?_
        exact law_end (L := 6) C0 6 (by decide) _ _ hw.2.2.2.1 _ _ (Nat.le_of_ble_eq_true rfl) (Nat.le_of_ble_eq_true rfl) ls (lv_sub hl [4, 0] rfl)
      · skip
        exact absurd c_73 (by decide)
    · skip
      subst e_sw
      refine lv_tableIn (tgt := 445) G.1 G.2.1 dL_law_40 (by decide) (by decide) rfl (by decide) ?_
      refine lv_aload_n G.1 G.2.1 dL_law_445 rfl (lv_at hl 3 rfl) ?_
      refine lv_aload_n G.1 G.2.1 dL_law_446 rfl (lv_at hl 4 rfl) ?_
      refine lv_iload G.1 G.2.1 dL_law_447 (lv_at hl 0 rfl) ?_
      refine lv_iconst (v := 1) G.1 G.2.1 dL_law_449 (by decide) ?_
      refine lv_iadd G.1 G.2.1 dL_law_450 ?_
      rw [show 0 + 1 = (1 : Int32) by decide]
      refine va_sld G.1 G.2.1 hX hbl hbA hw.2.2.2.1 (py_inr (by decide)) dL_law_451 ?_
      refine lv_aload_n G.1 G.2.1 dL_law_452 rfl (lv_at hl 4 rfl) ?_
      refine lv_iload G.1 G.2.1 dL_law_453 (lv_at hl 0 rfl) ?_
      refine lv_iconst (v := 2) G.1 G.2.1 dL_law_455 (by decide) ?_
      refine lv_iadd G.1 G.2.1 dL_law_456 ?_
      rw [show 0 + 2 = (2 : Int32) by decide]
      refine va_sld G.1 G.2.1 hX hbl hbA hw.2.2.2.1 (py_inr (by decide)) dL_law_457 ?_
      refine py_calli hw (va_runV (As := [.int (xs (Int32.toNatClampNeg 1)), .int (xs (Int32.toNatClampNeg 2))]) (rest := []) G (c_X11_hut l E L f H.size qx (xs (Int32.toNatClampNeg 1)) (xs (Int32.toNatClampNeg 2)) hF) (cwV 2 G.2.2.2.2 g_L_law_X11_hut_52 rfl rfl rfl (by decide +kernel) ⟨(Nat.le_of_ble_eq_true rfl), (Nat.le_of_ble_eq_true rfl)⟩) (py_preV hw (C := RX11) (T := TX11) (N := 16) rfl hrowX) rfl rfl hl.1 rfl (lv_room (Nat.le_of_ble_eq_true rfl)) dL_law_458 ⟨(Nat.le_of_ble_eq_true rfl), (Nat.le_of_ble_eq_true rfl)⟩) (fun r_78 L_74 f_75 H_76 locs hp_77 hw => ?_)
      obtain ⟨rfl, hmm⟩ := hp_77
      have hM := hmm _ hM
      obtain ⟨ysM, hrowM⟩ := fr_M_row hM
      refine lv_aload_n G.1 G.2.1 dL_law_461 rfl (lv_at hl 2 rfl) ?_
      refine lv_aload_n G.1 G.2.1 dL_law_462 rfl (lv_at hl 4 rfl) ?_
      refine lv_iload G.1 G.2.1 dL_law_463 (lv_at hl 0 rfl) ?_
      refine lv_iconst (v := 1) G.1 G.2.1 dL_law_465 (by decide) ?_
      refine lv_iadd G.1 G.2.1 dL_law_466 ?_
      rw [show 0 + 1 = (1 : Int32) by decide]
      refine va_sld G.1 G.2.1 hX hbl hbA hw.2.2.2.1 (py_inr (by decide)) dL_law_467 ?_
      refine lv_aload_n G.1 G.2.1 dL_law_468 rfl (lv_at hl 4 rfl) ?_
      refine lv_iload G.1 G.2.1 dL_law_469 (lv_at hl 0 rfl) ?_
      refine lv_iconst (v := 2) G.1 G.2.1 dL_law_471 (by decide) ?_
      refine lv_iadd G.1 G.2.1 dL_law_472 ?_
      rw [show 0 + 2 = (2 : Int32) by decide]
      refine va_sld G.1 G.2.1 hX hbl hbA hw.2.2.2.1 (py_inr (by decide)) dL_law_473 ?_
      refine py_calli hw (va_runV (As := [.int (xs (Int32.toNatClampNeg 1)), .int (xs (Int32.toNatClampNeg 2))]) (rest := [.int (-1)]) G (c_X12_hut l E L_74 f_75 H_76.size qm (xs (Int32.toNatClampNeg 1)) (xs (Int32.toNatClampNeg 2)) hM) (cwV 2 G.2.2.2.2 g_L_law_X12_hut_55 rfl rfl rfl (by decide +kernel) ⟨(Nat.le_of_ble_eq_true rfl), (Nat.le_of_ble_eq_true rfl)⟩) (py_preV hw (C := RX12) (T := TX12) (N := 54) rfl hrowM) rfl rfl hl.1 rfl (lv_room (Nat.le_of_ble_eq_true rfl)) dL_law_474 ⟨(Nat.le_of_ble_eq_true rfl), (Nat.le_of_ble_eq_true rfl)⟩) (fun r_83 L_79 f_80 H_81 locs hp_82 hw => ?_)
      obtain rfl := hp_82
      refine lv_icmp_eq (tgt := 1350) G.1 G.2.1 dL_law_477 (by decide) (fun c_84 => ?_) (fun c_84 => ?_)
      · skip
        refine lv_iinc (v := 6) (lv' := [(4, .int 6), (3, .ref qo), (2, .ref qm), (1, .ref qx), (0, .ref b)]) G.1 G.2.1 dL_law_1350 hl (k := 0) rfl (by decide) (by decide) rfl (fun ls hl => ?_)
        refine lv_goto (tgt := 23) G.1 G.2.1 dL_law_1353 (by decide) ?_
        exact law_end (L := 6) C0 6 (by decide) _ _ hw.2.2.2.1 _ _ (Nat.le_of_ble_eq_true rfl) (Nat.le_of_ble_eq_true rfl) ls (lv_sub hl [4, 0] rfl)
      · skip
        exact absurd c_84 (by decide)
    · skip
      subst e_sw
      refine lv_tableIn (tgt := 482) G.1 G.2.1 dL_law_40 (by decide) (by decide) rfl (by decide) ?_
      refine lv_aload_n G.1 G.2.1 dL_law_482 rfl (lv_at hl 3 rfl) ?_
      refine lv_aload_n G.1 G.2.1 dL_law_483 rfl (lv_at hl 4 rfl) ?_
      refine lv_iload G.1 G.2.1 dL_law_484 (lv_at hl 0 rfl) ?_
      refine lv_iconst (v := 1) G.1 G.2.1 dL_law_486 (by decide) ?_
      refine lv_iadd G.1 G.2.1 dL_law_487 ?_
      rw [show 0 + 1 = (1 : Int32) by decide]
      refine va_sld G.1 G.2.1 hX hbl hbA hw.2.2.2.1 (py_inr (by decide)) dL_law_488 ?_
      refine py_calli hw (va_runV (As := [.int (xs (Int32.toNatClampNeg 1))]) (rest := []) G (c_X11_law l E L f H.size qx (xs (Int32.toNatClampNeg 1)) hF) (cwV 1 G.2.2.2.2 g_L_law_X11_law_56 rfl rfl rfl (by decide +kernel) ⟨(Nat.le_of_ble_eq_true rfl), (Nat.le_of_ble_eq_true rfl)⟩) (py_preV hw (C := RX11) (T := TX11) (N := 16) rfl hrowX) rfl rfl hl.1 rfl (lv_room (Nat.le_of_ble_eq_true rfl)) dL_law_489 ⟨(Nat.le_of_ble_eq_true rfl), (Nat.le_of_ble_eq_true rfl)⟩) (fun r_89 L_85 f_86 H_87 locs hp_88 hw => ?_)
      obtain ⟨rfl, hmm⟩ := hp_88
      have hM := hmm _ hM
      obtain ⟨ysM, hrowM⟩ := fr_M_row hM
      refine lv_aload_n G.1 G.2.1 dL_law_492 rfl (lv_at hl 2 rfl) ?_
      refine lv_aload_n G.1 G.2.1 dL_law_493 rfl (lv_at hl 4 rfl) ?_
      refine lv_iload G.1 G.2.1 dL_law_494 (lv_at hl 0 rfl) ?_
      refine lv_iconst (v := 1) G.1 G.2.1 dL_law_496 (by decide) ?_
      refine lv_iadd G.1 G.2.1 dL_law_497 ?_
      rw [show 0 + 1 = (1 : Int32) by decide]
      refine va_sld G.1 G.2.1 hX hbl hbA hw.2.2.2.1 (py_inr (by decide)) dL_law_498 ?_
      refine py_calli hw (va_runV (As := [.int (xs (Int32.toNatClampNeg 1))]) (rest := [.int (if (xs (Int32.toNatClampNeg 1)) = -1 then 1 else 0)]) G (c_X12_law l E L_85 f_86 H_87.size qm (xs (Int32.toNatClampNeg 1)) hM) (cwV 1 G.2.2.2.2 g_L_law_X12_law_59 rfl rfl rfl (by decide +kernel) ⟨(Nat.le_of_ble_eq_true rfl), (Nat.le_of_ble_eq_true rfl)⟩) (py_preV hw (C := RX12) (T := TX12) (N := 54) rfl hrowM) rfl rfl hl.1 rfl (lv_room (Nat.le_of_ble_eq_true rfl)) dL_law_499 ⟨(Nat.le_of_ble_eq_true rfl), (Nat.le_of_ble_eq_true rfl)⟩) (fun r_94 L_90 f_91 H_92 locs hp_93 hw => ?_)
      obtain rfl := hp_93
      refine lv_icmp_eq (tgt := 1350) G.1 G.2.1 dL_law_502 (by decide) (fun c_95 => ?_) (fun c_95 => absurd rfl c_95)
      refine lv_iinc (v := 6) (lv' := [(4, .int 6), (3, .ref qo), (2, .ref qm), (1, .ref qx), (0, .ref b)]) G.1 G.2.1 dL_law_1350 hl (k := 0) rfl (by decide) (by decide) rfl (fun ls hl => ?_)
      refine lv_goto (tgt := 23) G.1 G.2.1 dL_law_1353 (by decide) ?_
      exact law_end (L := 6) C0 6 (by decide) _ _ hw.2.2.2.1 _ _ (Nat.le_of_ble_eq_true rfl) (Nat.le_of_ble_eq_true rfl) ls (lv_sub hl [4, 0] rfl)
    · skip
      subst e_sw
      refine lv_tableIn (tgt := 507) G.1 G.2.1 dL_law_40 (by decide) (by decide) rfl (by decide) ?_
      refine lv_aload_n G.1 G.2.1 dL_law_507 rfl (lv_at hl 3 rfl) ?_
      refine lv_aload_n G.1 G.2.1 dL_law_508 rfl (lv_at hl 4 rfl) ?_
      refine lv_iload G.1 G.2.1 dL_law_509 (lv_at hl 0 rfl) ?_
      refine lv_iconst (v := 1) G.1 G.2.1 dL_law_511 (by decide) ?_
      refine lv_iadd G.1 G.2.1 dL_law_512 ?_
      rw [show 0 + 1 = (1 : Int32) by decide]
      refine va_sld G.1 G.2.1 hX hbl hbA hw.2.2.2.1 (py_inr (by decide)) dL_law_513 ?_
      refine lv_aload_n G.1 G.2.1 dL_law_514 rfl (lv_at hl 4 rfl) ?_
      refine lv_iload G.1 G.2.1 dL_law_515 (lv_at hl 0 rfl) ?_
      refine lv_iconst (v := 2) G.1 G.2.1 dL_law_517 (by decide) ?_
      refine lv_iadd G.1 G.2.1 dL_law_518 ?_
      rw [show 0 + 2 = (2 : Int32) by decide]
      refine va_sld G.1 G.2.1 hX hbl hbA hw.2.2.2.1 (py_inr (by decide)) dL_law_519 ?_
      refine py_calli hw (va_runV (As := [.int (xs (Int32.toNatClampNeg 1)), .int (xs (Int32.toNatClampNeg 2))]) (rest := []) G (c_X11_set l E L f H.size qx (xs (Int32.toNatClampNeg 1)) (xs (Int32.toNatClampNeg 2)) hF) (cwV 2 G.2.2.2.2 g_L_law_X11_set_60 rfl rfl rfl (by decide +kernel) ⟨(Nat.le_of_ble_eq_true rfl), (Nat.le_of_ble_eq_true rfl)⟩) (py_preV hw (C := RX11) (T := TX11) (N := 16) rfl hrowX) rfl rfl hl.1 rfl (lv_room (Nat.le_of_ble_eq_true rfl)) dL_law_520 ⟨(Nat.le_of_ble_eq_true rfl), (Nat.le_of_ble_eq_true rfl)⟩) (fun r_100 L_96 f_97 H_98 locs hp_99 hw => ?_)
      obtain ⟨rfl, hmm⟩ := hp_99
      have hM := hmm _ hM
      obtain ⟨ysM, hrowM⟩ := fr_M_row hM
      refine lv_aload_n G.1 G.2.1 dL_law_523 rfl (lv_at hl 2 rfl) ?_
      refine lv_aload_n G.1 G.2.1 dL_law_524 rfl (lv_at hl 4 rfl) ?_
      refine lv_iload G.1 G.2.1 dL_law_525 (lv_at hl 0 rfl) ?_
      refine lv_iconst (v := 1) G.1 G.2.1 dL_law_527 (by decide) ?_
      refine lv_iadd G.1 G.2.1 dL_law_528 ?_
      rw [show 0 + 1 = (1 : Int32) by decide]
      refine va_sld G.1 G.2.1 hX hbl hbA hw.2.2.2.1 (py_inr (by decide)) dL_law_529 ?_
      refine lv_aload_n G.1 G.2.1 dL_law_530 rfl (lv_at hl 4 rfl) ?_
      refine lv_iload G.1 G.2.1 dL_law_531 (lv_at hl 0 rfl) ?_
      refine lv_iconst (v := 2) G.1 G.2.1 dL_law_533 (by decide) ?_
      refine lv_iadd G.1 G.2.1 dL_law_534 ?_
      rw [show 0 + 2 = (2 : Int32) by decide]
      refine va_sld G.1 G.2.1 hX hbl hbA hw.2.2.2.1 (py_inr (by decide)) dL_law_535 ?_
      refine py_calli hw (va_runV (As := [.int (xs (Int32.toNatClampNeg 1)), .int (xs (Int32.toNatClampNeg 2))]) (rest := [.int (sp_set (xs (Int32.toNatClampNeg 1)) (xs (Int32.toNatClampNeg 2)))]) G (c_X12_set l E L_96 f_97 H_98.size qm (xs (Int32.toNatClampNeg 1)) (xs (Int32.toNatClampNeg 2)) hM) (cwV 2 G.2.2.2.2 g_L_law_X12_set_64 rfl rfl rfl (by decide +kernel) ⟨(Nat.le_of_ble_eq_true rfl), (Nat.le_of_ble_eq_true rfl)⟩) (py_preV hw (C := RX12) (T := TX12) (N := 54) rfl hrowM) rfl rfl hl.1 rfl (lv_room (Nat.le_of_ble_eq_true rfl)) dL_law_536 ⟨(Nat.le_of_ble_eq_true rfl), (Nat.le_of_ble_eq_true rfl)⟩) (fun r_105 L_101 f_102 H_103 locs hp_104 hw => ?_)
      obtain rfl := hp_104
      refine lv_icmp_eq (tgt := 1350) G.1 G.2.1 dL_law_539 (by decide) (fun c_106 => ?_) (fun c_106 => absurd rfl c_106)
      refine lv_iinc (v := 6) (lv' := [(4, .int 6), (3, .ref qo), (2, .ref qm), (1, .ref qx), (0, .ref b)]) G.1 G.2.1 dL_law_1350 hl (k := 0) rfl (by decide) (by decide) rfl (fun ls hl => ?_)
      refine lv_goto (tgt := 23) G.1 G.2.1 dL_law_1353 (by decide) ?_
      exact law_end (L := 6) C0 6 (by decide) _ _ hw.2.2.2.1 _ _ (Nat.le_of_ble_eq_true rfl) (Nat.le_of_ble_eq_true rfl) ls (lv_sub hl [4, 0] rfl)
    · skip
      subst e_sw
      refine lv_tableIn (tgt := 544) G.1 G.2.1 dL_law_40 (by decide) (by decide) rfl (by decide) ?_
      refine lv_aload_n G.1 G.2.1 dL_law_544 rfl (lv_at hl 3 rfl) ?_
      refine lv_aload_n G.1 G.2.1 dL_law_545 rfl (lv_at hl 4 rfl) ?_
      refine lv_iload G.1 G.2.1 dL_law_546 (lv_at hl 0 rfl) ?_
      refine lv_iconst (v := 1) G.1 G.2.1 dL_law_548 (by decide) ?_
      refine lv_iadd G.1 G.2.1 dL_law_549 ?_
      rw [show 0 + 1 = (1 : Int32) by decide]
      refine va_sld G.1 G.2.1 hX hbl hbA hw.2.2.2.1 (py_inr (by decide)) dL_law_550 ?_
      refine lv_i2l (v := (xs (Int32.toNatClampNeg 1)).toInt64) G.1 G.2.1 dL_law_551 rfl ?_
      refine lv_bipush (v := 32) G.1 G.2.1 dL_law_552 (by decide) ?_
      refine lv_lshl G.1 G.2.1 dL_law_554 rfl ?_
      refine lv_topl (fun z_107 ez_107 => ?_)
      refine lv_aload_n G.1 G.2.1 dL_law_555 rfl (lv_at hl 4 rfl) ?_
      refine lv_iload G.1 G.2.1 dL_law_556 (lv_at hl 0 rfl) ?_
      refine lv_iconst (v := 2) G.1 G.2.1 dL_law_558 (by decide) ?_
      refine lv_iadd G.1 G.2.1 dL_law_559 ?_
      rw [show 0 + 2 = (2 : Int32) by decide]
      refine va_sld G.1 G.2.1 hX hbl hbA hw.2.2.2.1 (py_inr (by decide)) dL_law_560 ?_
      refine lv_i2l (v := (xs (Int32.toNatClampNeg 2)).toInt64) G.1 G.2.1 dL_law_561 rfl ?_
      refine lv_ldc2 (v := 4294967295) G.1 G.2.1 G.2.2.2.1 (G.2.2.2.2 (Cond.constantLong RL 65 (4294967295)) (by decide +kernel)) dL_law_562 ?_
      refine lv_land G.1 G.2.1 dL_law_565 ?_
      refine lv_topl (fun z_108 ez_108 => ?_)
      refine lv_lor G.1 G.2.1 dL_law_566 ?_
      refine lv_topl (fun z_109 ez_109 => ?_)
      refine py_calli hw (va_runV (As := [.long z_109]) (rest := []) G (c_X11_seed l E L f H.size qx z_109 hF) (cwV 1 G.2.2.2.2 g_L_law_X11_seed_67 rfl rfl rfl (by decide +kernel) ⟨(Nat.le_of_ble_eq_true rfl), (Nat.le_of_ble_eq_true rfl)⟩) (py_preV hw (C := RX11) (T := TX11) (N := 16) rfl hrowX) rfl rfl hl.1 rfl (lv_room (Nat.le_of_ble_eq_true rfl)) dL_law_567 ⟨(Nat.le_of_ble_eq_true rfl), (Nat.le_of_ble_eq_true rfl)⟩) (fun r_114 L_110 f_111 H_112 locs hp_113 hw => ?_)
      obtain ⟨rfl, hmm⟩ := hp_113
      have hM := hmm _ hM
      obtain ⟨ysM, hrowM⟩ := fr_M_row hM
      refine lv_aload_n G.1 G.2.1 dL_law_570 rfl (lv_at hl 2 rfl) ?_
      refine lv_aload_n G.1 G.2.1 dL_law_571 rfl (lv_at hl 4 rfl) ?_
      refine lv_iload G.1 G.2.1 dL_law_572 (lv_at hl 0 rfl) ?_
      refine lv_iconst (v := 1) G.1 G.2.1 dL_law_574 (by decide) ?_
      refine lv_iadd G.1 G.2.1 dL_law_575 ?_
      rw [show 0 + 1 = (1 : Int32) by decide]
      refine va_sld G.1 G.2.1 hX hbl hbA hw.2.2.2.1 (py_inr (by decide)) dL_law_576 ?_
      refine lv_i2l (v := (xs (Int32.toNatClampNeg 1)).toInt64) G.1 G.2.1 dL_law_577 rfl ?_
      refine lv_bipush (v := 32) G.1 G.2.1 dL_law_578 (by decide) ?_
      refine lv_lshl G.1 G.2.1 dL_law_580 rfl ?_
      refine lv_topl (fun z_115 ez_115 => ?_)
      refine lv_aload_n G.1 G.2.1 dL_law_581 rfl (lv_at hl 4 rfl) ?_
      refine lv_iload G.1 G.2.1 dL_law_582 (lv_at hl 0 rfl) ?_
      refine lv_iconst (v := 2) G.1 G.2.1 dL_law_584 (by decide) ?_
      refine lv_iadd G.1 G.2.1 dL_law_585 ?_
      rw [show 0 + 2 = (2 : Int32) by decide]
      refine va_sld G.1 G.2.1 hX hbl hbA hw.2.2.2.1 (py_inr (by decide)) dL_law_586 ?_
      refine lv_i2l (v := (xs (Int32.toNatClampNeg 2)).toInt64) G.1 G.2.1 dL_law_587 rfl ?_
      refine lv_ldc2 (v := 4294967295) G.1 G.2.1 G.2.2.2.1 (G.2.2.2.2 (Cond.constantLong RL 65 (4294967295)) (by decide +kernel)) dL_law_588 ?_
      refine lv_land G.1 G.2.1 dL_law_591 ?_
      refine lv_topl (fun z_116 ez_116 => ?_)
      refine lv_lor G.1 G.2.1 dL_law_592 ?_
      refine lv_topl (fun z_117 ez_117 => ?_)
      refine py_calli hw (va_runV (As := [.long z_117]) (rest := [.int 1]) G (c_X12_seed l E L_110 f_111 H_112.size qm z_117 hM) (cwV 1 G.2.2.2.2 g_L_law_X12_seed_71 rfl rfl rfl (by decide +kernel) ⟨(Nat.le_of_ble_eq_true rfl), (Nat.le_of_ble_eq_true rfl)⟩) (py_preV hw (C := RX12) (T := TX12) (N := 54) rfl hrowM) rfl rfl hl.1 rfl (lv_room (Nat.le_of_ble_eq_true rfl)) dL_law_593 ⟨(Nat.le_of_ble_eq_true rfl), (Nat.le_of_ble_eq_true rfl)⟩) (fun r_122 L_118 f_119 H_120 locs hp_121 hw => ?_)
      obtain rfl := hp_121
      refine lv_icmp_eq (tgt := 1350) G.1 G.2.1 dL_law_596 (by decide) (fun c_123 => ?_) (fun c_123 => ?_)
      · skip
        refine lv_iinc (v := 6) (lv' := [(4, .int 6), (3, .ref qo), (2, .ref qm), (1, .ref qx), (0, .ref b)]) G.1 G.2.1 dL_law_1350 hl (k := 0) rfl (by decide) (by decide) rfl (fun ls hl => ?_)
        refine lv_goto (tgt := 23) G.1 G.2.1 dL_law_1353 (by decide) ?_
        exact law_end (L := 6) C0 6 (by decide) _ _ hw.2.2.2.1 _ _ (Nat.le_of_ble_eq_true rfl) (Nat.le_of_ble_eq_true rfl) ls (lv_sub hl [4, 0] rfl)
      · skip
        exact absurd c_123 (by decide)
    · skip
      subst e_sw
      refine lv_tableIn (tgt := 601) G.1 G.2.1 dL_law_40 (by decide) (by decide) rfl (by decide) ?_
      refine lv_aload_n G.1 G.2.1 dL_law_601 rfl (lv_at hl 3 rfl) ?_
      refine lv_aload_n G.1 G.2.1 dL_law_602 rfl (lv_at hl 4 rfl) ?_
      refine lv_iload G.1 G.2.1 dL_law_603 (lv_at hl 0 rfl) ?_
      refine lv_iconst (v := 1) G.1 G.2.1 dL_law_605 (by decide) ?_
      refine lv_iadd G.1 G.2.1 dL_law_606 ?_
      rw [show 0 + 1 = (1 : Int32) by decide]
      refine va_sld G.1 G.2.1 hX hbl hbA hw.2.2.2.1 (py_inr (by decide)) dL_law_607 ?_
      refine py_calli hw (va_runV (As := [.int (xs (Int32.toNatClampNeg 1))]) (rest := []) G (c_X11_winters l E L f H.size qx (xs (Int32.toNatClampNeg 1)) hF) (cwV 1 G.2.2.2.2 g_L_law_X11_winters_72 rfl rfl rfl (by decide +kernel) ⟨(Nat.le_of_ble_eq_true rfl), (Nat.le_of_ble_eq_true rfl)⟩) (py_preV hw (C := RX11) (T := TX11) (N := 16) rfl hrowX) rfl rfl hl.1 rfl (lv_room (Nat.le_of_ble_eq_true rfl)) dL_law_608 ⟨(Nat.le_of_ble_eq_true rfl), (Nat.le_of_ble_eq_true rfl)⟩) (fun r_128 L_124 f_125 H_126 locs hp_127 hw => ?_)
      obtain ⟨rfl, hmm⟩ := hp_127
      have hM := hmm _ hM
      obtain ⟨ysM, hrowM⟩ := fr_M_row hM
      refine lv_aload_n G.1 G.2.1 dL_law_611 rfl (lv_at hl 2 rfl) ?_
      refine lv_aload_n G.1 G.2.1 dL_law_612 rfl (lv_at hl 4 rfl) ?_
      refine lv_iload G.1 G.2.1 dL_law_613 (lv_at hl 0 rfl) ?_
      refine lv_iconst (v := 1) G.1 G.2.1 dL_law_615 (by decide) ?_
      refine lv_iadd G.1 G.2.1 dL_law_616 ?_
      rw [show 0 + 1 = (1 : Int32) by decide]
      refine va_sld G.1 G.2.1 hX hbl hbA hw.2.2.2.1 (py_inr (by decide)) dL_law_617 ?_
      refine py_calli hw (va_runV (As := [.int (xs (Int32.toNatClampNeg 1))]) (rest := [.int (-1)]) G (c_X12_winters l E L_124 f_125 H_126.size qm (xs (Int32.toNatClampNeg 1)) hM) (cwV 1 G.2.2.2.2 g_L_law_X12_winters_75 rfl rfl rfl (by decide +kernel) ⟨(Nat.le_of_ble_eq_true rfl), (Nat.le_of_ble_eq_true rfl)⟩) (py_preV hw (C := RX12) (T := TX12) (N := 54) rfl hrowM) rfl rfl hl.1 rfl (lv_room (Nat.le_of_ble_eq_true rfl)) dL_law_618 ⟨(Nat.le_of_ble_eq_true rfl), (Nat.le_of_ble_eq_true rfl)⟩) (fun r_133 L_129 f_130 H_131 locs hp_132 hw => ?_)
      obtain rfl := hp_132
      refine lv_icmp_eq (tgt := 1350) G.1 G.2.1 dL_law_621 (by decide) (fun c_134 => ?_) (fun c_134 => ?_)
      · skip
        refine lv_iinc (v := 6) (lv' := [(4, .int 6), (3, .ref qo), (2, .ref qm), (1, .ref qx), (0, .ref b)]) G.1 G.2.1 dL_law_1350 hl (k := 0) rfl (by decide) (by decide) rfl (fun ls hl => ?_)
        refine lv_goto (tgt := 23) G.1 G.2.1 dL_law_1353 (by decide) ?_
        exact law_end (L := 6) C0 6 (by decide) _ _ hw.2.2.2.1 _ _ (Nat.le_of_ble_eq_true rfl) (Nat.le_of_ble_eq_true rfl) ls (lv_sub hl [4, 0] rfl)
      · skip
        exact absurd c_134 (by decide)
    · skip
      subst e_sw
      refine lv_tableIn (tgt := 626) G.1 G.2.1 dL_law_40 (by decide) (by decide) rfl (by decide) ?_
      refine lv_aload_n G.1 G.2.1 dL_law_626 rfl (lv_at hl 3 rfl) ?_
      refine py_calli hw (va_runV (As := []) (rest := []) G (c_X11_spring l E L f H.size qx hF) (cwV 0 G.2.2.2.2 g_L_law_X11_spring_76 rfl rfl rfl (by decide +kernel) ⟨(Nat.le_of_ble_eq_true rfl), (Nat.le_of_ble_eq_true rfl)⟩) (py_preV hw (C := RX11) (T := TX11) (N := 16) rfl hrowX) rfl rfl hl.1 rfl (lv_room (Nat.le_of_ble_eq_true rfl)) dL_law_627 ⟨(Nat.le_of_ble_eq_true rfl), (Nat.le_of_ble_eq_true rfl)⟩) (fun r_139 L_135 f_136 H_137 locs hp_138 hw => ?_)
      obtain ⟨rfl, hmm⟩ := hp_138
      have hM := hmm _ hM
      obtain ⟨ysM, hrowM⟩ := fr_M_row hM
      refine lv_aload_n G.1 G.2.1 dL_law_630 rfl (lv_at hl 2 rfl) ?_
      refine py_calli hw (va_runV (As := []) (rest := [.int (-1)]) G (c_X12_spring l E L_135 f_136 H_137.size qm hM) (cwV 0 G.2.2.2.2 g_L_law_X12_spring_79 rfl rfl rfl (by decide +kernel) ⟨(Nat.le_of_ble_eq_true rfl), (Nat.le_of_ble_eq_true rfl)⟩) (py_preV hw (C := RX12) (T := TX12) (N := 54) rfl hrowM) rfl rfl hl.1 rfl (lv_room (Nat.le_of_ble_eq_true rfl)) dL_law_631 ⟨(Nat.le_of_ble_eq_true rfl), (Nat.le_of_ble_eq_true rfl)⟩) (fun r_144 L_140 f_141 H_142 locs hp_143 hw => ?_)
      obtain rfl := hp_143
      refine lv_icmp_eq (tgt := 1350) G.1 G.2.1 dL_law_634 (by decide) (fun c_145 => ?_) (fun c_145 => ?_)
      · skip
        refine lv_iinc (v := 6) (lv' := [(4, .int 6), (3, .ref qo), (2, .ref qm), (1, .ref qx), (0, .ref b)]) G.1 G.2.1 dL_law_1350 hl (k := 0) rfl (by decide) (by decide) rfl (fun ls hl => ?_)
        refine lv_goto (tgt := 23) G.1 G.2.1 dL_law_1353 (by decide) ?_
        exact law_end (L := 6) C0 6 (by decide) _ _ hw.2.2.2.1 _ _ (Nat.le_of_ble_eq_true rfl) (Nat.le_of_ble_eq_true rfl) ls (lv_sub hl [4, 0] rfl)
      · skip
        exact absurd c_145 (by decide)
    · skip
      subst e_sw
      refine lv_tableIn (tgt := 639) G.1 G.2.1 dL_law_40 (by decide) (by decide) rfl (by decide) ?_
      refine lv_aload_n G.1 G.2.1 dL_law_639 rfl (lv_at hl 3 rfl) ?_
      refine lv_aload_n G.1 G.2.1 dL_law_640 rfl (lv_at hl 4 rfl) ?_
      refine lv_iload G.1 G.2.1 dL_law_641 (lv_at hl 0 rfl) ?_
      refine lv_iconst (v := 1) G.1 G.2.1 dL_law_643 (by decide) ?_
      refine lv_iadd G.1 G.2.1 dL_law_644 ?_
      rw [show 0 + 1 = (1 : Int32) by decide]
      refine va_sld G.1 G.2.1 hX hbl hbA hw.2.2.2.1 (py_inr (by decide)) dL_law_645 ?_
      refine lv_aload_n G.1 G.2.1 dL_law_646 rfl (lv_at hl 4 rfl) ?_
      refine lv_iload G.1 G.2.1 dL_law_647 (lv_at hl 0 rfl) ?_
      refine lv_iconst (v := 2) G.1 G.2.1 dL_law_649 (by decide) ?_
      refine lv_iadd G.1 G.2.1 dL_law_650 ?_
      rw [show 0 + 2 = (2 : Int32) by decide]
      refine va_sld G.1 G.2.1 hX hbl hbA hw.2.2.2.1 (py_inr (by decide)) dL_law_651 ?_
      refine py_calli hw (va_runV (As := [.int (xs (Int32.toNatClampNeg 1)), .int (xs (Int32.toNatClampNeg 2))]) (rest := []) G (c_X11_buy l E L f H.size qx (xs (Int32.toNatClampNeg 1)) (xs (Int32.toNatClampNeg 2)) hF) (cwV 2 G.2.2.2.2 g_L_law_X11_buy_80 rfl rfl rfl (by decide +kernel) ⟨(Nat.le_of_ble_eq_true rfl), (Nat.le_of_ble_eq_true rfl)⟩) (py_preV hw (C := RX11) (T := TX11) (N := 16) rfl hrowX) rfl rfl hl.1 rfl (lv_room (Nat.le_of_ble_eq_true rfl)) dL_law_652 ⟨(Nat.le_of_ble_eq_true rfl), (Nat.le_of_ble_eq_true rfl)⟩) (fun r_150 L_146 f_147 H_148 locs hp_149 hw => ?_)
      obtain ⟨rfl, hmm⟩ := hp_149
      have hM := hmm _ hM
      obtain ⟨ysM, hrowM⟩ := fr_M_row hM
      refine lv_aload_n G.1 G.2.1 dL_law_655 rfl (lv_at hl 2 rfl) ?_
      refine lv_aload_n G.1 G.2.1 dL_law_656 rfl (lv_at hl 4 rfl) ?_
      refine lv_iload G.1 G.2.1 dL_law_657 (lv_at hl 0 rfl) ?_
      refine lv_iconst (v := 1) G.1 G.2.1 dL_law_659 (by decide) ?_
      refine lv_iadd G.1 G.2.1 dL_law_660 ?_
      rw [show 0 + 1 = (1 : Int32) by decide]
      refine va_sld G.1 G.2.1 hX hbl hbA hw.2.2.2.1 (py_inr (by decide)) dL_law_661 ?_
      refine lv_aload_n G.1 G.2.1 dL_law_662 rfl (lv_at hl 4 rfl) ?_
      refine lv_iload G.1 G.2.1 dL_law_663 (lv_at hl 0 rfl) ?_
      refine lv_iconst (v := 2) G.1 G.2.1 dL_law_665 (by decide) ?_
      refine lv_iadd G.1 G.2.1 dL_law_666 ?_
      rw [show 0 + 2 = (2 : Int32) by decide]
      refine va_sld G.1 G.2.1 hX hbl hbA hw.2.2.2.1 (py_inr (by decide)) dL_law_667 ?_
      refine py_calli hw (va_runV (As := [.int (xs (Int32.toNatClampNeg 1)), .int (xs (Int32.toNatClampNeg 2))]) (rest := [.int (-1)]) G (c_X12_buy l E L_146 f_147 H_148.size qm (xs (Int32.toNatClampNeg 1)) (xs (Int32.toNatClampNeg 2)) hM) (cwV 2 G.2.2.2.2 g_L_law_X12_buy_83 rfl rfl rfl (by decide +kernel) ⟨(Nat.le_of_ble_eq_true rfl), (Nat.le_of_ble_eq_true rfl)⟩) (py_preV hw (C := RX12) (T := TX12) (N := 54) rfl hrowM) rfl rfl hl.1 rfl (lv_room (Nat.le_of_ble_eq_true rfl)) dL_law_668 ⟨(Nat.le_of_ble_eq_true rfl), (Nat.le_of_ble_eq_true rfl)⟩) (fun r_155 L_151 f_152 H_153 locs hp_154 hw => ?_)
      obtain rfl := hp_154
      refine lv_icmp_eq (tgt := 1350) G.1 G.2.1 dL_law_671 (by decide) (fun c_156 => ?_) (fun c_156 => ?_)
      · skip
        refine lv_iinc (v := 6) (lv' := [(4, .int 6), (3, .ref qo), (2, .ref qm), (1, .ref qx), (0, .ref b)]) G.1 G.2.1 dL_law_1350 hl (k := 0) rfl (by decide) (by decide) rfl (fun ls hl => ?_)
        refine lv_goto (tgt := 23) G.1 G.2.1 dL_law_1353 (by decide) ?_
        exact law_end (L := 6) C0 6 (by decide) _ _ hw.2.2.2.1 _ _ (Nat.le_of_ble_eq_true rfl) (Nat.le_of_ble_eq_true rfl) ls (lv_sub hl [4, 0] rfl)
      · skip
        exact absurd c_156 (by decide)
    · skip
      subst e_sw
      refine lv_tableIn (tgt := 676) G.1 G.2.1 dL_law_40 (by decide) (by decide) rfl (by decide) ?_
      refine lv_aload_n G.1 G.2.1 dL_law_676 rfl (lv_at hl 3 rfl) ?_
      refine py_calli hw (va_runV (As := []) (rest := []) G (c_X11_undo l E L f H.size qx hF) (cwV 0 G.2.2.2.2 g_L_law_X11_undo_84 rfl rfl rfl (by decide +kernel) ⟨(Nat.le_of_ble_eq_true rfl), (Nat.le_of_ble_eq_true rfl)⟩) (py_preV hw (C := RX11) (T := TX11) (N := 16) rfl hrowX) rfl rfl hl.1 rfl (lv_room (Nat.le_of_ble_eq_true rfl)) dL_law_677 ⟨(Nat.le_of_ble_eq_true rfl), (Nat.le_of_ble_eq_true rfl)⟩) (fun r_161 L_157 f_158 H_159 locs hp_160 hw => ?_)
      obtain ⟨rfl, hmm⟩ := hp_160
      have hM := hmm _ hM
      obtain ⟨ysM, hrowM⟩ := fr_M_row hM
      refine lv_aload_n G.1 G.2.1 dL_law_680 rfl (lv_at hl 2 rfl) ?_
      refine py_calli hw (va_runV (As := []) (rest := [.int (-1)]) G (c_X12_undo l E L_157 f_158 H_159.size qm hM) (cwV 0 G.2.2.2.2 g_L_law_X12_undo_87 rfl rfl rfl (by decide +kernel) ⟨(Nat.le_of_ble_eq_true rfl), (Nat.le_of_ble_eq_true rfl)⟩) (py_preV hw (C := RX12) (T := TX12) (N := 54) rfl hrowM) rfl rfl hl.1 rfl (lv_room (Nat.le_of_ble_eq_true rfl)) dL_law_681 ⟨(Nat.le_of_ble_eq_true rfl), (Nat.le_of_ble_eq_true rfl)⟩) (fun r_166 L_162 f_163 H_164 locs hp_165 hw => ?_)
      obtain rfl := hp_165
      refine lv_icmp_eq (tgt := 1350) G.1 G.2.1 dL_law_684 (by decide) (fun c_167 => ?_) (fun c_167 => ?_)
      · skip
        refine lv_iinc (v := 6) (lv' := [(4, .int 6), (3, .ref qo), (2, .ref qm), (1, .ref qx), (0, .ref b)]) G.1 G.2.1 dL_law_1350 hl (k := 0) rfl (by decide) (by decide) rfl (fun ls hl => ?_)
        refine lv_goto (tgt := 23) G.1 G.2.1 dL_law_1353 (by decide) ?_
        exact law_end (L := 6) C0 6 (by decide) _ _ hw.2.2.2.1 _ _ (Nat.le_of_ble_eq_true rfl) (Nat.le_of_ble_eq_true rfl) ls (lv_sub hl [4, 0] rfl)
      · skip
        exact absurd c_167 (by decide)
    · skip
      subst e_sw
      refine lv_tableIn (tgt := 689) G.1 G.2.1 dL_law_40 (by decide) (by decide) rfl (by decide) ?_
      refine lv_aload_n G.1 G.2.1 dL_law_689 rfl (lv_at hl 3 rfl) ?_
      refine lv_aload_n G.1 G.2.1 dL_law_690 rfl (lv_at hl 4 rfl) ?_
      refine lv_iload G.1 G.2.1 dL_law_691 (lv_at hl 0 rfl) ?_
      refine lv_iconst (v := 1) G.1 G.2.1 dL_law_693 (by decide) ?_
      refine lv_iadd G.1 G.2.1 dL_law_694 ?_
      rw [show 0 + 1 = (1 : Int32) by decide]
      refine va_sld G.1 G.2.1 hX hbl hbA hw.2.2.2.1 (py_inr (by decide)) dL_law_695 ?_
      refine lv_aload_n G.1 G.2.1 dL_law_696 rfl (lv_at hl 4 rfl) ?_
      refine lv_iload G.1 G.2.1 dL_law_697 (lv_at hl 0 rfl) ?_
      refine lv_iconst (v := 2) G.1 G.2.1 dL_law_699 (by decide) ?_
      refine lv_iadd G.1 G.2.1 dL_law_700 ?_
      rw [show 0 + 2 = (2 : Int32) by decide]
      refine va_sld G.1 G.2.1 hX hbl hbA hw.2.2.2.1 (py_inr (by decide)) dL_law_701 ?_
      refine lv_if_eq (tgt := 709) G.1 G.2.1 dL_law_702 (by decide) (fun c_168 => ?_) (fun c_168 => ?_)
      · skip
        refine lv_iconst (v := 0) G.1 G.2.1 dL_law_709 (by decide) ?_
        refine py_calli hw (va_runV (As := [.int (xs (Int32.toNatClampNeg 1)), .int 0]) (rest := []) G (c_X11_hush l E L f H.size qx (xs (Int32.toNatClampNeg 1)) 0 hF) (cwV 2 G.2.2.2.2 g_L_law_X11_hush_88 rfl rfl rfl (by decide +kernel) ⟨(Nat.le_of_ble_eq_true rfl), (Nat.le_of_ble_eq_true rfl)⟩) (py_preV hw (C := RX11) (T := TX11) (N := 16) rfl hrowX) rfl rfl hl.1 rfl (lv_room (Nat.le_of_ble_eq_true rfl)) dL_law_710 ⟨(Nat.le_of_ble_eq_true rfl), (Nat.le_of_ble_eq_true rfl)⟩) (fun r_173 L_169 f_170 H_171 locs hp_172 hw => ?_)
        obtain ⟨rfl, hmm⟩ := hp_172
        have hM := hmm _ hM
        obtain ⟨ysM, hrowM⟩ := fr_M_row hM
        refine lv_aload_n G.1 G.2.1 dL_law_713 rfl (lv_at hl 2 rfl) ?_
        refine lv_aload_n G.1 G.2.1 dL_law_714 rfl (lv_at hl 4 rfl) ?_
        refine lv_iload G.1 G.2.1 dL_law_715 (lv_at hl 0 rfl) ?_
        refine lv_iconst (v := 1) G.1 G.2.1 dL_law_717 (by decide) ?_
        refine lv_iadd G.1 G.2.1 dL_law_718 ?_
        rw [show 0 + 1 = (1 : Int32) by decide]
        refine va_sld G.1 G.2.1 hX hbl hbA hw.2.2.2.1 (py_inr (by decide)) dL_law_719 ?_
        refine lv_aload_n G.1 G.2.1 dL_law_720 rfl (lv_at hl 4 rfl) ?_
        refine lv_iload G.1 G.2.1 dL_law_721 (lv_at hl 0 rfl) ?_
        refine lv_iconst (v := 2) G.1 G.2.1 dL_law_723 (by decide) ?_
        refine lv_iadd G.1 G.2.1 dL_law_724 ?_
        rw [show 0 + 2 = (2 : Int32) by decide]
        refine va_sld G.1 G.2.1 hX hbl hbA hw.2.2.2.1 (py_inr (by decide)) dL_law_725 ?_
        refine lv_if_eq (tgt := 733) G.1 G.2.1 dL_law_726 (by decide) (fun c_174 => ?_) (fun c_174 => ?_)
        · skip
          refine lv_iconst (v := 0) G.1 G.2.1 dL_law_733 (by decide) ?_
          refine py_calli hw (va_runV (As := [.int (xs (Int32.toNatClampNeg 1)), .int 0]) (rest := [.int 0]) G (c_X12_hush l E L_169 f_170 H_171.size qm (xs (Int32.toNatClampNeg 1)) 0 hM) (cwV 2 G.2.2.2.2 g_L_law_X12_hush_92 rfl rfl rfl (by decide +kernel) ⟨(Nat.le_of_ble_eq_true rfl), (Nat.le_of_ble_eq_true rfl)⟩) (py_preV hw (C := RX12) (T := TX12) (N := 54) rfl hrowM) rfl rfl hl.1 rfl (lv_room (Nat.le_of_ble_eq_true rfl)) dL_law_734 ⟨(Nat.le_of_ble_eq_true rfl), (Nat.le_of_ble_eq_true rfl)⟩) (fun r_179 L_175 f_176 H_177 locs hp_178 hw => ?_)
          obtain rfl := hp_178
          refine lv_icmp_eq (tgt := 1350) G.1 G.2.1 dL_law_737 (by decide) (fun c_180 => ?_) (fun c_180 => ?_)
          · skip
            refine lv_iinc (v := 6) (lv' := [(4, .int 6), (3, .ref qo), (2, .ref qm), (1, .ref qx), (0, .ref b)]) G.1 G.2.1 dL_law_1350 hl (k := 0) rfl (by decide) (by decide) rfl (fun ls hl => ?_)
            refine lv_goto (tgt := 23) G.1 G.2.1 dL_law_1353 (by decide) ?_
            exact law_end (L := 6) C0 6 (by decide) _ _ hw.2.2.2.1 _ _ (Nat.le_of_ble_eq_true rfl) (Nat.le_of_ble_eq_true rfl) ls (lv_sub hl [4, 0] rfl)
          · skip
            exact absurd c_180 (by decide)
        · skip
          refine lv_iconst (v := 1) G.1 G.2.1 dL_law_729 (by decide) ?_
          refine lv_goto (tgt := 734) G.1 G.2.1 dL_law_730 (by decide) ?_
          refine py_calli hw (va_runV (As := [.int (xs (Int32.toNatClampNeg 1)), .int 1]) (rest := [.int 0]) G (c_X12_hush l E L_169 f_170 H_171.size qm (xs (Int32.toNatClampNeg 1)) 1 hM) (cwV 2 G.2.2.2.2 g_L_law_X12_hush_92 rfl rfl rfl (by decide +kernel) ⟨(Nat.le_of_ble_eq_true rfl), (Nat.le_of_ble_eq_true rfl)⟩) (py_preV hw (C := RX12) (T := TX12) (N := 54) rfl hrowM) rfl rfl hl.1 rfl (lv_room (Nat.le_of_ble_eq_true rfl)) dL_law_734 ⟨(Nat.le_of_ble_eq_true rfl), (Nat.le_of_ble_eq_true rfl)⟩) (fun r_185 L_181 f_182 H_183 locs hp_184 hw => ?_)
          obtain rfl := hp_184
          refine lv_icmp_eq (tgt := 1350) G.1 G.2.1 dL_law_737 (by decide) (fun c_186 => ?_) (fun c_186 => ?_)
          · skip
            refine lv_iinc (v := 6) (lv' := [(4, .int 6), (3, .ref qo), (2, .ref qm), (1, .ref qx), (0, .ref b)]) G.1 G.2.1 dL_law_1350 hl (k := 0) rfl (by decide) (by decide) rfl (fun ls hl => ?_)
            refine lv_goto (tgt := 23) G.1 G.2.1 dL_law_1353 (by decide) ?_
            exact law_end (L := 6) C0 6 (by decide) _ _ hw.2.2.2.1 _ _ (Nat.le_of_ble_eq_true rfl) (Nat.le_of_ble_eq_true rfl) ls (lv_sub hl [4, 0] rfl)
          · skip
            exact absurd c_186 (by decide)
      · skip
        refine lv_iconst (v := 1) G.1 G.2.1 dL_law_705 (by decide) ?_
        refine lv_goto (tgt := 710) G.1 G.2.1 dL_law_706 (by decide) ?_
        refine py_calli hw (va_runV (As := [.int (xs (Int32.toNatClampNeg 1)), .int 1]) (rest := []) G (c_X11_hush l E L f H.size qx (xs (Int32.toNatClampNeg 1)) 1 hF) (cwV 2 G.2.2.2.2 g_L_law_X11_hush_88 rfl rfl rfl (by decide +kernel) ⟨(Nat.le_of_ble_eq_true rfl), (Nat.le_of_ble_eq_true rfl)⟩) (py_preV hw (C := RX11) (T := TX11) (N := 16) rfl hrowX) rfl rfl hl.1 rfl (lv_room (Nat.le_of_ble_eq_true rfl)) dL_law_710 ⟨(Nat.le_of_ble_eq_true rfl), (Nat.le_of_ble_eq_true rfl)⟩) (fun r_191 L_187 f_188 H_189 locs hp_190 hw => ?_)
        obtain ⟨rfl, hmm⟩ := hp_190
        have hM := hmm _ hM
        obtain ⟨ysM, hrowM⟩ := fr_M_row hM
        refine lv_aload_n G.1 G.2.1 dL_law_713 rfl (lv_at hl 2 rfl) ?_
        refine lv_aload_n G.1 G.2.1 dL_law_714 rfl (lv_at hl 4 rfl) ?_
        refine lv_iload G.1 G.2.1 dL_law_715 (lv_at hl 0 rfl) ?_
        refine lv_iconst (v := 1) G.1 G.2.1 dL_law_717 (by decide) ?_
        refine lv_iadd G.1 G.2.1 dL_law_718 ?_
        rw [show 0 + 1 = (1 : Int32) by decide]
        refine va_sld G.1 G.2.1 hX hbl hbA hw.2.2.2.1 (py_inr (by decide)) dL_law_719 ?_
        refine lv_aload_n G.1 G.2.1 dL_law_720 rfl (lv_at hl 4 rfl) ?_
        refine lv_iload G.1 G.2.1 dL_law_721 (lv_at hl 0 rfl) ?_
        refine lv_iconst (v := 2) G.1 G.2.1 dL_law_723 (by decide) ?_
        refine lv_iadd G.1 G.2.1 dL_law_724 ?_
        rw [show 0 + 2 = (2 : Int32) by decide]
        refine va_sld G.1 G.2.1 hX hbl hbA hw.2.2.2.1 (py_inr (by decide)) dL_law_725 ?_
        refine lv_if_eq (tgt := 733) G.1 G.2.1 dL_law_726 (by decide) (fun c_192 => ?_) (fun c_192 => ?_)
        · skip
          refine lv_iconst (v := 0) G.1 G.2.1 dL_law_733 (by decide) ?_
          refine py_calli hw (va_runV (As := [.int (xs (Int32.toNatClampNeg 1)), .int 0]) (rest := [.int 0]) G (c_X12_hush l E L_187 f_188 H_189.size qm (xs (Int32.toNatClampNeg 1)) 0 hM) (cwV 2 G.2.2.2.2 g_L_law_X12_hush_92 rfl rfl rfl (by decide +kernel) ⟨(Nat.le_of_ble_eq_true rfl), (Nat.le_of_ble_eq_true rfl)⟩) (py_preV hw (C := RX12) (T := TX12) (N := 54) rfl hrowM) rfl rfl hl.1 rfl (lv_room (Nat.le_of_ble_eq_true rfl)) dL_law_734 ⟨(Nat.le_of_ble_eq_true rfl), (Nat.le_of_ble_eq_true rfl)⟩) (fun r_197 L_193 f_194 H_195 locs hp_196 hw => ?_)
          obtain rfl := hp_196
          refine lv_icmp_eq (tgt := 1350) G.1 G.2.1 dL_law_737 (by decide) (fun c_198 => ?_) (fun c_198 => ?_)
          · skip
            refine lv_iinc (v := 6) (lv' := [(4, .int 6), (3, .ref qo), (2, .ref qm), (1, .ref qx), (0, .ref b)]) G.1 G.2.1 dL_law_1350 hl (k := 0) rfl (by decide) (by decide) rfl (fun ls hl => ?_)
            refine lv_goto (tgt := 23) G.1 G.2.1 dL_law_1353 (by decide) ?_
            exact law_end (L := 6) C0 6 (by decide) _ _ hw.2.2.2.1 _ _ (Nat.le_of_ble_eq_true rfl) (Nat.le_of_ble_eq_true rfl) ls (lv_sub hl [4, 0] rfl)
          · skip
            exact absurd c_198 (by decide)
        · skip
          refine lv_iconst (v := 1) G.1 G.2.1 dL_law_729 (by decide) ?_
          refine lv_goto (tgt := 734) G.1 G.2.1 dL_law_730 (by decide) ?_
          refine py_calli hw (va_runV (As := [.int (xs (Int32.toNatClampNeg 1)), .int 1]) (rest := [.int 0]) G (c_X12_hush l E L_187 f_188 H_189.size qm (xs (Int32.toNatClampNeg 1)) 1 hM) (cwV 2 G.2.2.2.2 g_L_law_X12_hush_92 rfl rfl rfl (by decide +kernel) ⟨(Nat.le_of_ble_eq_true rfl), (Nat.le_of_ble_eq_true rfl)⟩) (py_preV hw (C := RX12) (T := TX12) (N := 54) rfl hrowM) rfl rfl hl.1 rfl (lv_room (Nat.le_of_ble_eq_true rfl)) dL_law_734 ⟨(Nat.le_of_ble_eq_true rfl), (Nat.le_of_ble_eq_true rfl)⟩) (fun r_203 L_199 f_200 H_201 locs hp_202 hw => ?_)
          obtain rfl := hp_202
          refine lv_icmp_eq (tgt := 1350) G.1 G.2.1 dL_law_737 (by decide) (fun c_204 => ?_) (fun c_204 => ?_)
          · skip
            refine lv_iinc (v := 6) (lv' := [(4, .int 6), (3, .ref qo), (2, .ref qm), (1, .ref qx), (0, .ref b)]) G.1 G.2.1 dL_law_1350 hl (k := 0) rfl (by decide) (by decide) rfl (fun ls hl => ?_)
            refine lv_goto (tgt := 23) G.1 G.2.1 dL_law_1353 (by decide) ?_
            exact law_end (L := 6) C0 6 (by decide) _ _ hw.2.2.2.1 _ _ (Nat.le_of_ble_eq_true rfl) (Nat.le_of_ble_eq_true rfl) ls (lv_sub hl [4, 0] rfl)
          · skip
            exact absurd c_204 (by decide)
    · skip
      subst e_sw
      refine lv_tableIn (tgt := 742) G.1 G.2.1 dL_law_40 (by decide) (by decide) rfl (by decide) ?_
      refine lv_aload_n G.1 G.2.1 dL_law_742 rfl (lv_at hl 3 rfl) ?_
      refine py_calli hw (va_runV (As := []) (rest := []) G (c_X11_waiting l E L f H.size qx hF) (cwV 0 G.2.2.2.2 g_L_law_X11_waiting_93 rfl rfl rfl (by decide +kernel) ⟨(Nat.le_of_ble_eq_true rfl), (Nat.le_of_ble_eq_true rfl)⟩) (py_preV hw (C := RX11) (T := TX11) (N := 16) rfl hrowX) rfl rfl hl.1 rfl (lv_room (Nat.le_of_ble_eq_true rfl)) dL_law_743 ⟨(Nat.le_of_ble_eq_true rfl), (Nat.le_of_ble_eq_true rfl)⟩) (fun r_209 L_205 f_206 H_207 locs hp_208 hw => ?_)
      obtain ⟨rfl, hmm⟩ := hp_208
      have hM := hmm _ hM
      obtain ⟨ysM, hrowM⟩ := fr_M_row hM
      refine lv_aload_n G.1 G.2.1 dL_law_746 rfl (lv_at hl 2 rfl) ?_
      refine py_calli hw (va_runV (As := []) (rest := [.int (-1)]) G (c_X12_waiting l E L_205 f_206 H_207.size qm hM) (cwV 0 G.2.2.2.2 g_L_law_X12_waiting_96 rfl rfl rfl (by decide +kernel) ⟨(Nat.le_of_ble_eq_true rfl), (Nat.le_of_ble_eq_true rfl)⟩) (py_preV hw (C := RX12) (T := TX12) (N := 54) rfl hrowM) rfl rfl hl.1 rfl (lv_room (Nat.le_of_ble_eq_true rfl)) dL_law_747 ⟨(Nat.le_of_ble_eq_true rfl), (Nat.le_of_ble_eq_true rfl)⟩) (fun r_214 L_210 f_211 H_212 locs hp_213 hw => ?_)
      obtain rfl := hp_213
      refine lv_icmp_eq (tgt := 1350) G.1 G.2.1 dL_law_750 (by decide) (fun c_215 => ?_) (fun c_215 => ?_)
      · skip
        refine lv_iinc (v := 6) (lv' := [(4, .int 6), (3, .ref qo), (2, .ref qm), (1, .ref qx), (0, .ref b)]) G.1 G.2.1 dL_law_1350 hl (k := 0) rfl (by decide) (by decide) rfl (fun ls hl => ?_)
        refine lv_goto (tgt := 23) G.1 G.2.1 dL_law_1353 (by decide) ?_
        exact law_end (L := 6) C0 6 (by decide) _ _ hw.2.2.2.1 _ _ (Nat.le_of_ble_eq_true rfl) (Nat.le_of_ble_eq_true rfl) ls (lv_sub hl [4, 0] rfl)
      · skip
        exact absurd c_215 (by decide)
    · skip
      subst e_sw
      refine lv_tableIn (tgt := 755) G.1 G.2.1 dL_law_40 (by decide) (by decide) rfl (by decide) ?_
      refine lv_aload_n G.1 G.2.1 dL_law_755 rfl (lv_at hl 3 rfl) ?_
      refine lv_aload_n G.1 G.2.1 dL_law_756 rfl (lv_at hl 4 rfl) ?_
      refine lv_iload G.1 G.2.1 dL_law_757 (lv_at hl 0 rfl) ?_
      refine lv_iconst (v := 1) G.1 G.2.1 dL_law_759 (by decide) ?_
      refine lv_iadd G.1 G.2.1 dL_law_760 ?_
      rw [show 0 + 1 = (1 : Int32) by decide]
      refine va_sld G.1 G.2.1 hX hbl hbA hw.2.2.2.1 (py_inr (by decide)) dL_law_761 ?_
      refine py_calli hw (va_runV (As := [.int (xs (Int32.toNatClampNeg 1))]) (rest := []) G (c_X11_most l E L f H.size qx (xs (Int32.toNatClampNeg 1)) hF) (cwV 1 G.2.2.2.2 g_L_law_X11_most_97 rfl rfl rfl (by decide +kernel) ⟨(Nat.le_of_ble_eq_true rfl), (Nat.le_of_ble_eq_true rfl)⟩) (py_preV hw (C := RX11) (T := TX11) (N := 16) rfl hrowX) rfl rfl hl.1 rfl (lv_room (Nat.le_of_ble_eq_true rfl)) dL_law_762 ⟨(Nat.le_of_ble_eq_true rfl), (Nat.le_of_ble_eq_true rfl)⟩) (fun r_220 L_216 f_217 H_218 locs hp_219 hw => ?_)
      obtain ⟨rfl, hmm⟩ := hp_219
      have hM := hmm _ hM
      obtain ⟨ysM, hrowM⟩ := fr_M_row hM
      refine lv_aload_n G.1 G.2.1 dL_law_765 rfl (lv_at hl 2 rfl) ?_
      refine lv_aload_n G.1 G.2.1 dL_law_766 rfl (lv_at hl 4 rfl) ?_
      refine lv_iload G.1 G.2.1 dL_law_767 (lv_at hl 0 rfl) ?_
      refine lv_iconst (v := 1) G.1 G.2.1 dL_law_769 (by decide) ?_
      refine lv_iadd G.1 G.2.1 dL_law_770 ?_
      rw [show 0 + 1 = (1 : Int32) by decide]
      refine va_sld G.1 G.2.1 hX hbl hbA hw.2.2.2.1 (py_inr (by decide)) dL_law_771 ?_
      refine py_calli hw (va_runV (As := [.int (xs (Int32.toNatClampNeg 1))]) (rest := [.int (-1)]) G (c_X12_most l E L_216 f_217 H_218.size qm (xs (Int32.toNatClampNeg 1)) hM) (cwV 1 G.2.2.2.2 g_L_law_X12_most_100 rfl rfl rfl (by decide +kernel) ⟨(Nat.le_of_ble_eq_true rfl), (Nat.le_of_ble_eq_true rfl)⟩) (py_preV hw (C := RX12) (T := TX12) (N := 54) rfl hrowM) rfl rfl hl.1 rfl (lv_room (Nat.le_of_ble_eq_true rfl)) dL_law_772 ⟨(Nat.le_of_ble_eq_true rfl), (Nat.le_of_ble_eq_true rfl)⟩) (fun r_225 L_221 f_222 H_223 locs hp_224 hw => ?_)
      obtain rfl := hp_224
      refine lv_icmp_eq (tgt := 1350) G.1 G.2.1 dL_law_775 (by decide) (fun c_226 => ?_) (fun c_226 => ?_)
      · skip
        refine lv_iinc (v := 6) (lv' := [(4, .int 6), (3, .ref qo), (2, .ref qm), (1, .ref qx), (0, .ref b)]) G.1 G.2.1 dL_law_1350 hl (k := 0) rfl (by decide) (by decide) rfl (fun ls hl => ?_)
        refine lv_goto (tgt := 23) G.1 G.2.1 dL_law_1353 (by decide) ?_
        exact law_end (L := 6) C0 6 (by decide) _ _ hw.2.2.2.1 _ _ (Nat.le_of_ble_eq_true rfl) (Nat.le_of_ble_eq_true rfl) ls (lv_sub hl [4, 0] rfl)
      · skip
        exact absurd c_226 (by decide)
    · skip
      subst e_sw
      refine lv_tableIn (tgt := 780) G.1 G.2.1 dL_law_40 (by decide) (by decide) rfl (by decide) ?_
      refine lv_aload_n G.1 G.2.1 dL_law_780 rfl (lv_at hl 3 rfl) ?_
      refine lv_aload_n G.1 G.2.1 dL_law_781 rfl (lv_at hl 4 rfl) ?_
      refine lv_iload G.1 G.2.1 dL_law_782 (lv_at hl 0 rfl) ?_
      refine lv_iconst (v := 1) G.1 G.2.1 dL_law_784 (by decide) ?_
      refine lv_iadd G.1 G.2.1 dL_law_785 ?_
      rw [show 0 + 1 = (1 : Int32) by decide]
      refine va_sld G.1 G.2.1 hX hbl hbA hw.2.2.2.1 (py_inr (by decide)) dL_law_786 ?_
      refine py_calli hw (va_runV (As := [.int (xs (Int32.toNatClampNeg 1))]) (rest := []) G (c_X11_needs l E L f H.size qx (xs (Int32.toNatClampNeg 1)) hF) (cwV 1 G.2.2.2.2 g_L_law_X11_needs_101 rfl rfl rfl (by decide +kernel) ⟨(Nat.le_of_ble_eq_true rfl), (Nat.le_of_ble_eq_true rfl)⟩) (py_preV hw (C := RX11) (T := TX11) (N := 16) rfl hrowX) rfl rfl hl.1 rfl (lv_room (Nat.le_of_ble_eq_true rfl)) dL_law_787 ⟨(Nat.le_of_ble_eq_true rfl), (Nat.le_of_ble_eq_true rfl)⟩) (fun r_231 L_227 f_228 H_229 locs hp_230 hw => ?_)
      obtain ⟨rfl, hmm⟩ := hp_230
      have hM := hmm _ hM
      obtain ⟨ysM, hrowM⟩ := fr_M_row hM
      refine lv_aload_n G.1 G.2.1 dL_law_790 rfl (lv_at hl 2 rfl) ?_
      refine lv_aload_n G.1 G.2.1 dL_law_791 rfl (lv_at hl 4 rfl) ?_
      refine lv_iload G.1 G.2.1 dL_law_792 (lv_at hl 0 rfl) ?_
      refine lv_iconst (v := 1) G.1 G.2.1 dL_law_794 (by decide) ?_
      refine lv_iadd G.1 G.2.1 dL_law_795 ?_
      rw [show 0 + 1 = (1 : Int32) by decide]
      refine va_sld G.1 G.2.1 hX hbl hbA hw.2.2.2.1 (py_inr (by decide)) dL_law_796 ?_
      refine py_calli hw (va_runV (As := [.int (xs (Int32.toNatClampNeg 1))]) (rest := [.int (-1)]) G (c_X12_needs l E L_227 f_228 H_229.size qm (xs (Int32.toNatClampNeg 1)) hM) (cwV 1 G.2.2.2.2 g_L_law_X12_needs_104 rfl rfl rfl (by decide +kernel) ⟨(Nat.le_of_ble_eq_true rfl), (Nat.le_of_ble_eq_true rfl)⟩) (py_preV hw (C := RX12) (T := TX12) (N := 54) rfl hrowM) rfl rfl hl.1 rfl (lv_room (Nat.le_of_ble_eq_true rfl)) dL_law_797 ⟨(Nat.le_of_ble_eq_true rfl), (Nat.le_of_ble_eq_true rfl)⟩) (fun r_236 L_232 f_233 H_234 locs hp_235 hw => ?_)
      obtain rfl := hp_235
      refine lv_icmp_eq (tgt := 1350) G.1 G.2.1 dL_law_800 (by decide) (fun c_237 => ?_) (fun c_237 => ?_)
      · skip
        refine lv_iinc (v := 6) (lv' := [(4, .int 6), (3, .ref qo), (2, .ref qm), (1, .ref qx), (0, .ref b)]) G.1 G.2.1 dL_law_1350 hl (k := 0) rfl (by decide) (by decide) rfl (fun ls hl => ?_)
        refine lv_goto (tgt := 23) G.1 G.2.1 dL_law_1353 (by decide) ?_
        exact law_end (L := 6) C0 6 (by decide) _ _ hw.2.2.2.1 _ _ (Nat.le_of_ble_eq_true rfl) (Nat.le_of_ble_eq_true rfl) ls (lv_sub hl [4, 0] rfl)
      · skip
        exact absurd c_237 (by decide)
    · skip
      subst e_sw
      refine lv_tableIn (tgt := 805) G.1 G.2.1 dL_law_40 (by decide) (by decide) rfl (by decide) ?_
      refine lv_aload_n G.1 G.2.1 dL_law_805 rfl (lv_at hl 3 rfl) ?_
      refine lv_aload_n G.1 G.2.1 dL_law_806 rfl (lv_at hl 4 rfl) ?_
      refine lv_iload G.1 G.2.1 dL_law_807 (lv_at hl 0 rfl) ?_
      refine lv_iconst (v := 1) G.1 G.2.1 dL_law_809 (by decide) ?_
      refine lv_iadd G.1 G.2.1 dL_law_810 ?_
      rw [show 0 + 1 = (1 : Int32) by decide]
      refine va_sld G.1 G.2.1 hX hbl hbA hw.2.2.2.1 (py_inr (by decide)) dL_law_811 ?_
      refine lv_aload_n G.1 G.2.1 dL_law_812 rfl (lv_at hl 4 rfl) ?_
      refine lv_iload G.1 G.2.1 dL_law_813 (lv_at hl 0 rfl) ?_
      refine lv_iconst (v := 2) G.1 G.2.1 dL_law_815 (by decide) ?_
      refine lv_iadd G.1 G.2.1 dL_law_816 ?_
      rw [show 0 + 2 = (2 : Int32) by decide]
      refine va_sld G.1 G.2.1 hX hbl hbA hw.2.2.2.1 (py_inr (by decide)) dL_law_817 ?_
      refine lv_aload_n G.1 G.2.1 dL_law_818 rfl (lv_at hl 4 rfl) ?_
      refine lv_iload G.1 G.2.1 dL_law_819 (lv_at hl 0 rfl) ?_
      refine lv_iconst (v := 3) G.1 G.2.1 dL_law_821 (by decide) ?_
      refine lv_iadd G.1 G.2.1 dL_law_822 ?_
      rw [show 0 + 3 = (3 : Int32) by decide]
      refine va_sld G.1 G.2.1 hX hbl hbA hw.2.2.2.1 (py_inr (by decide)) dL_law_823 ?_
      refine py_calli hw (va_runV (As := [.int (xs (Int32.toNatClampNeg 1)), .int (xs (Int32.toNatClampNeg 2)), .int (xs (Int32.toNatClampNeg 3))]) (rest := []) G (c_X11_odds l E L f H.size qx (xs (Int32.toNatClampNeg 1)) (xs (Int32.toNatClampNeg 2)) (xs (Int32.toNatClampNeg 3)) hF) (cwV 3 G.2.2.2.2 g_L_law_X11_odds_105 rfl rfl rfl (by decide +kernel) ⟨(Nat.le_of_ble_eq_true rfl), (Nat.le_of_ble_eq_true rfl)⟩) (py_preV hw (C := RX11) (T := TX11) (N := 16) rfl hrowX) rfl rfl hl.1 rfl (lv_room (Nat.le_of_ble_eq_true rfl)) dL_law_824 ⟨(Nat.le_of_ble_eq_true rfl), (Nat.le_of_ble_eq_true rfl)⟩) (fun r_242 L_238 f_239 H_240 locs hp_241 hw => ?_)
      obtain ⟨rfl, hmm⟩ := hp_241
      have hM := hmm _ hM
      obtain ⟨ysM, hrowM⟩ := fr_M_row hM
      refine lv_aload_n G.1 G.2.1 dL_law_827 rfl (lv_at hl 2 rfl) ?_
      refine lv_aload_n G.1 G.2.1 dL_law_828 rfl (lv_at hl 4 rfl) ?_
      refine lv_iload G.1 G.2.1 dL_law_829 (lv_at hl 0 rfl) ?_
      refine lv_iconst (v := 1) G.1 G.2.1 dL_law_831 (by decide) ?_
      refine lv_iadd G.1 G.2.1 dL_law_832 ?_
      rw [show 0 + 1 = (1 : Int32) by decide]
      refine va_sld G.1 G.2.1 hX hbl hbA hw.2.2.2.1 (py_inr (by decide)) dL_law_833 ?_
      refine lv_aload_n G.1 G.2.1 dL_law_834 rfl (lv_at hl 4 rfl) ?_
      refine lv_iload G.1 G.2.1 dL_law_835 (lv_at hl 0 rfl) ?_
      refine lv_iconst (v := 2) G.1 G.2.1 dL_law_837 (by decide) ?_
      refine lv_iadd G.1 G.2.1 dL_law_838 ?_
      rw [show 0 + 2 = (2 : Int32) by decide]
      refine va_sld G.1 G.2.1 hX hbl hbA hw.2.2.2.1 (py_inr (by decide)) dL_law_839 ?_
      refine lv_aload_n G.1 G.2.1 dL_law_840 rfl (lv_at hl 4 rfl) ?_
      refine lv_iload G.1 G.2.1 dL_law_841 (lv_at hl 0 rfl) ?_
      refine lv_iconst (v := 3) G.1 G.2.1 dL_law_843 (by decide) ?_
      refine lv_iadd G.1 G.2.1 dL_law_844 ?_
      rw [show 0 + 3 = (3 : Int32) by decide]
      refine va_sld G.1 G.2.1 hX hbl hbA hw.2.2.2.1 (py_inr (by decide)) dL_law_845 ?_
      refine py_calli hw (va_runV (As := [.int (xs (Int32.toNatClampNeg 1)), .int (xs (Int32.toNatClampNeg 2)), .int (xs (Int32.toNatClampNeg 3))]) (rest := [.int (-1000000)]) G (c_X12_odds l E L_238 f_239 H_240.size qm (xs (Int32.toNatClampNeg 1)) (xs (Int32.toNatClampNeg 2)) (xs (Int32.toNatClampNeg 3)) hM) (cwV 3 G.2.2.2.2 g_L_law_X12_odds_109 rfl rfl rfl (by decide +kernel) ⟨(Nat.le_of_ble_eq_true rfl), (Nat.le_of_ble_eq_true rfl)⟩) (py_preV hw (C := RX12) (T := TX12) (N := 54) rfl hrowM) rfl rfl hl.1 rfl (lv_room (Nat.le_of_ble_eq_true rfl)) dL_law_846 ⟨(Nat.le_of_ble_eq_true rfl), (Nat.le_of_ble_eq_true rfl)⟩) (fun r_247 L_243 f_244 H_245 locs hp_246 hw => ?_)
      obtain ⟨rfl, rfl, rfl⟩ := hp_246
      refine lv_icmp_eq (tgt := 1350) G.1 G.2.1 dL_law_849 (by decide) (fun c_248 => ?_) (fun c_248 => ?_)
      · skip
        refine lv_iinc (v := 6) (lv' := [(4, .int 6), (3, .ref qo), (2, .ref qm), (1, .ref qx), (0, .ref b)]) G.1 G.2.1 dL_law_1350 hl (k := 0) rfl (by decide) (by decide) rfl (fun ls hl => ?_)
        refine lv_goto (tgt := 23) G.1 G.2.1 dL_law_1353 (by decide) ?_
        exact law_end (L := 6) C0 6 (by decide) _ _ hw.2.2.2.1 _ _ (Nat.le_of_ble_eq_true rfl) (Nat.le_of_ble_eq_true rfl) ls (lv_sub hl [4, 0] rfl)
      · skip
        exact absurd c_248 (by decide)
    · skip
      subst e_sw
      refine lv_tableIn (tgt := 854) G.1 G.2.1 dL_law_40 (by decide) (by decide) rfl (by decide) ?_
      refine lv_aload_n G.1 G.2.1 dL_law_854 rfl (lv_at hl 3 rfl) ?_
      refine lv_aload_n G.1 G.2.1 dL_law_855 rfl (lv_at hl 4 rfl) ?_
      refine lv_iload G.1 G.2.1 dL_law_856 (lv_at hl 0 rfl) ?_
      refine lv_iconst (v := 1) G.1 G.2.1 dL_law_858 (by decide) ?_
      refine lv_iadd G.1 G.2.1 dL_law_859 ?_
      rw [show 0 + 1 = (1 : Int32) by decide]
      refine va_sld G.1 G.2.1 hX hbl hbA hw.2.2.2.1 (py_inr (by decide)) dL_law_860 ?_
      refine lv_aload_n G.1 G.2.1 dL_law_861 rfl (lv_at hl 4 rfl) ?_
      refine lv_iload G.1 G.2.1 dL_law_862 (lv_at hl 0 rfl) ?_
      refine lv_iconst (v := 2) G.1 G.2.1 dL_law_864 (by decide) ?_
      refine lv_iadd G.1 G.2.1 dL_law_865 ?_
      rw [show 0 + 2 = (2 : Int32) by decide]
      refine va_sld G.1 G.2.1 hX hbl hbA hw.2.2.2.1 (py_inr (by decide)) dL_law_866 ?_
      refine lv_aload_n G.1 G.2.1 dL_law_867 rfl (lv_at hl 4 rfl) ?_
      refine lv_iload G.1 G.2.1 dL_law_868 (lv_at hl 0 rfl) ?_
      refine lv_iconst (v := 3) G.1 G.2.1 dL_law_870 (by decide) ?_
      refine lv_iadd G.1 G.2.1 dL_law_871 ?_
      rw [show 0 + 3 = (3 : Int32) by decide]
      refine va_sld G.1 G.2.1 hX hbl hbA hw.2.2.2.1 (py_inr (by decide)) dL_law_872 ?_
      refine lv_aload_n G.1 G.2.1 dL_law_873 rfl (lv_at hl 4 rfl) ?_
      refine lv_iload G.1 G.2.1 dL_law_874 (lv_at hl 0 rfl) ?_
      refine lv_iconst (v := 4) G.1 G.2.1 dL_law_876 (by decide) ?_
      refine lv_iadd G.1 G.2.1 dL_law_877 ?_
      rw [show 0 + 4 = (4 : Int32) by decide]
      refine va_sld G.1 G.2.1 hX hbl hbA hw.2.2.2.1 (py_inr (by decide)) dL_law_878 ?_
      refine py_calli hw (va_runV (As := [.int (xs (Int32.toNatClampNeg 1)), .int (xs (Int32.toNatClampNeg 2)), .int (xs (Int32.toNatClampNeg 3)), .int (xs (Int32.toNatClampNeg 4))]) (rest := []) G (c_X11_tried l E L f H.size qx (xs (Int32.toNatClampNeg 1)) (xs (Int32.toNatClampNeg 2)) (xs (Int32.toNatClampNeg 3)) (xs (Int32.toNatClampNeg 4)) hF) (cwV 4 G.2.2.2.2 g_L_law_X11_tried_110 rfl rfl rfl (by decide +kernel) ⟨(Nat.le_of_ble_eq_true rfl), (Nat.le_of_ble_eq_true rfl)⟩) (py_preV hw (C := RX11) (T := TX11) (N := 16) rfl hrowX) rfl rfl hl.1 rfl (lv_room (Nat.le_of_ble_eq_true rfl)) dL_law_879 ⟨(Nat.le_of_ble_eq_true rfl), (Nat.le_of_ble_eq_true rfl)⟩) (fun r_253 L_249 f_250 H_251 locs hp_252 hw => ?_)
      obtain ⟨rfl, hmm⟩ := hp_252
      have hM := hmm _ hM
      obtain ⟨ysM, hrowM⟩ := fr_M_row hM
      refine lv_aload_n G.1 G.2.1 dL_law_882 rfl (lv_at hl 2 rfl) ?_
      refine lv_aload_n G.1 G.2.1 dL_law_883 rfl (lv_at hl 4 rfl) ?_
      refine lv_iload G.1 G.2.1 dL_law_884 (lv_at hl 0 rfl) ?_
      refine lv_iconst (v := 1) G.1 G.2.1 dL_law_886 (by decide) ?_
      refine lv_iadd G.1 G.2.1 dL_law_887 ?_
      rw [show 0 + 1 = (1 : Int32) by decide]
      refine va_sld G.1 G.2.1 hX hbl hbA hw.2.2.2.1 (py_inr (by decide)) dL_law_888 ?_
      refine lv_aload_n G.1 G.2.1 dL_law_889 rfl (lv_at hl 4 rfl) ?_
      refine lv_iload G.1 G.2.1 dL_law_890 (lv_at hl 0 rfl) ?_
      refine lv_iconst (v := 2) G.1 G.2.1 dL_law_892 (by decide) ?_
      refine lv_iadd G.1 G.2.1 dL_law_893 ?_
      rw [show 0 + 2 = (2 : Int32) by decide]
      refine va_sld G.1 G.2.1 hX hbl hbA hw.2.2.2.1 (py_inr (by decide)) dL_law_894 ?_
      refine lv_aload_n G.1 G.2.1 dL_law_895 rfl (lv_at hl 4 rfl) ?_
      refine lv_iload G.1 G.2.1 dL_law_896 (lv_at hl 0 rfl) ?_
      refine lv_iconst (v := 3) G.1 G.2.1 dL_law_898 (by decide) ?_
      refine lv_iadd G.1 G.2.1 dL_law_899 ?_
      rw [show 0 + 3 = (3 : Int32) by decide]
      refine va_sld G.1 G.2.1 hX hbl hbA hw.2.2.2.1 (py_inr (by decide)) dL_law_900 ?_
      refine lv_aload_n G.1 G.2.1 dL_law_901 rfl (lv_at hl 4 rfl) ?_
      refine lv_iload G.1 G.2.1 dL_law_902 (lv_at hl 0 rfl) ?_
      refine lv_iconst (v := 4) G.1 G.2.1 dL_law_904 (by decide) ?_
      refine lv_iadd G.1 G.2.1 dL_law_905 ?_
      rw [show 0 + 4 = (4 : Int32) by decide]
      refine va_sld G.1 G.2.1 hX hbl hbA hw.2.2.2.1 (py_inr (by decide)) dL_law_906 ?_
      refine py_calli hw (va_runV (As := [.int (xs (Int32.toNatClampNeg 1)), .int (xs (Int32.toNatClampNeg 2)), .int (xs (Int32.toNatClampNeg 3)), .int (xs (Int32.toNatClampNeg 4))]) (rest := [.int (-1000000)]) G (c_X12_tried l E L_249 f_250 H_251.size qm (xs (Int32.toNatClampNeg 1)) (xs (Int32.toNatClampNeg 2)) (xs (Int32.toNatClampNeg 3)) (xs (Int32.toNatClampNeg 4)) hM) (cwV 4 G.2.2.2.2 g_L_law_X12_tried_114 rfl rfl rfl (by decide +kernel) ⟨(Nat.le_of_ble_eq_true rfl), (Nat.le_of_ble_eq_true rfl)⟩) (py_preV hw (C := RX12) (T := TX12) (N := 54) rfl hrowM) rfl rfl hl.1 rfl (lv_room (Nat.le_of_ble_eq_true rfl)) dL_law_907 ⟨(Nat.le_of_ble_eq_true rfl), (Nat.le_of_ble_eq_true rfl)⟩) (fun r_258 L_254 f_255 H_256 locs hp_257 hw => ?_)
      obtain rfl := hp_257
      refine lv_icmp_eq (tgt := 1350) G.1 G.2.1 dL_law_910 (by decide) (fun c_259 => ?_) (fun c_259 => ?_)
      · skip
        refine lv_iinc (v := 6) (lv' := [(4, .int 6), (3, .ref qo), (2, .ref qm), (1, .ref qx), (0, .ref b)]) G.1 G.2.1 dL_law_1350 hl (k := 0) rfl (by decide) (by decide) rfl (fun ls hl => ?_)
        refine lv_goto (tgt := 23) G.1 G.2.1 dL_law_1353 (by decide) ?_
        exact law_end (L := 6) C0 6 (by decide) _ _ hw.2.2.2.1 _ _ (Nat.le_of_ble_eq_true rfl) (Nat.le_of_ble_eq_true rfl) ls (lv_sub hl [4, 0] rfl)
      · skip
        exact absurd c_259 (by decide)
    · skip
      subst e_sw
      refine lv_tableIn (tgt := 915) G.1 G.2.1 dL_law_40 (by decide) (by decide) rfl (by decide) ?_
      refine lv_aload_n G.1 G.2.1 dL_law_915 rfl (lv_at hl 3 rfl) ?_
      refine lv_aload_n G.1 G.2.1 dL_law_916 rfl (lv_at hl 4 rfl) ?_
      refine lv_iload G.1 G.2.1 dL_law_917 (lv_at hl 0 rfl) ?_
      refine lv_iconst (v := 1) G.1 G.2.1 dL_law_919 (by decide) ?_
      refine lv_iadd G.1 G.2.1 dL_law_920 ?_
      rw [show 0 + 1 = (1 : Int32) by decide]
      refine va_sld G.1 G.2.1 hX hbl hbA hw.2.2.2.1 (py_inr (by decide)) dL_law_921 ?_
      refine lv_aload_n G.1 G.2.1 dL_law_922 rfl (lv_at hl 4 rfl) ?_
      refine lv_iload G.1 G.2.1 dL_law_923 (lv_at hl 0 rfl) ?_
      refine lv_iconst (v := 2) G.1 G.2.1 dL_law_925 (by decide) ?_
      refine lv_iadd G.1 G.2.1 dL_law_926 ?_
      rw [show 0 + 2 = (2 : Int32) by decide]
      refine va_sld G.1 G.2.1 hX hbl hbA hw.2.2.2.1 (py_inr (by decide)) dL_law_927 ?_
      refine py_calli hw (va_runV (As := [.int (xs (Int32.toNatClampNeg 1)), .int (xs (Int32.toNatClampNeg 2))]) (rest := []) G (c_X11_reform l E L f H.size qx (xs (Int32.toNatClampNeg 1)) (xs (Int32.toNatClampNeg 2)) hF) (cwV 2 G.2.2.2.2 g_L_law_X11_reform_115 rfl rfl rfl (by decide +kernel) ⟨(Nat.le_of_ble_eq_true rfl), (Nat.le_of_ble_eq_true rfl)⟩) (py_preV hw (C := RX11) (T := TX11) (N := 16) rfl hrowX) rfl rfl hl.1 rfl (lv_room (Nat.le_of_ble_eq_true rfl)) dL_law_928 ⟨(Nat.le_of_ble_eq_true rfl), (Nat.le_of_ble_eq_true rfl)⟩) (fun r_264 L_260 f_261 H_262 locs hp_263 hw => ?_)
      obtain ⟨rfl, hmm⟩ := hp_263
      have hM := hmm _ hM
      obtain ⟨ysM, hrowM⟩ := fr_M_row hM
      refine lv_aload_n G.1 G.2.1 dL_law_931 rfl (lv_at hl 2 rfl) ?_
      refine lv_aload_n G.1 G.2.1 dL_law_932 rfl (lv_at hl 4 rfl) ?_
      refine lv_iload G.1 G.2.1 dL_law_933 (lv_at hl 0 rfl) ?_
      refine lv_iconst (v := 1) G.1 G.2.1 dL_law_935 (by decide) ?_
      refine lv_iadd G.1 G.2.1 dL_law_936 ?_
      rw [show 0 + 1 = (1 : Int32) by decide]
      refine va_sld G.1 G.2.1 hX hbl hbA hw.2.2.2.1 (py_inr (by decide)) dL_law_937 ?_
      refine lv_aload_n G.1 G.2.1 dL_law_938 rfl (lv_at hl 4 rfl) ?_
      refine lv_iload G.1 G.2.1 dL_law_939 (lv_at hl 0 rfl) ?_
      refine lv_iconst (v := 2) G.1 G.2.1 dL_law_941 (by decide) ?_
      refine lv_iadd G.1 G.2.1 dL_law_942 ?_
      rw [show 0 + 2 = (2 : Int32) by decide]
      refine va_sld G.1 G.2.1 hX hbl hbA hw.2.2.2.1 (py_inr (by decide)) dL_law_943 ?_
      refine py_calli hw (va_runV (As := [.int (xs (Int32.toNatClampNeg 1)), .int (xs (Int32.toNatClampNeg 2))]) (rest := [.int (-1000000)]) G (c_X12_reform l E L_260 f_261 H_262.size qm (xs (Int32.toNatClampNeg 1)) (xs (Int32.toNatClampNeg 2)) hM) (cwV 2 G.2.2.2.2 g_L_law_X12_reform_118 rfl rfl rfl (by decide +kernel) ⟨(Nat.le_of_ble_eq_true rfl), (Nat.le_of_ble_eq_true rfl)⟩) (py_preV hw (C := RX12) (T := TX12) (N := 54) rfl hrowM) rfl rfl hl.1 rfl (lv_room (Nat.le_of_ble_eq_true rfl)) dL_law_944 ⟨(Nat.le_of_ble_eq_true rfl), (Nat.le_of_ble_eq_true rfl)⟩) (fun r_269 L_265 f_266 H_267 locs hp_268 hw => ?_)
      obtain rfl := hp_268
      refine lv_icmp_eq (tgt := 1350) G.1 G.2.1 dL_law_947 (by decide) (fun c_270 => ?_) (fun c_270 => ?_)
      · skip
        refine lv_iinc (v := 6) (lv' := [(4, .int 6), (3, .ref qo), (2, .ref qm), (1, .ref qx), (0, .ref b)]) G.1 G.2.1 dL_law_1350 hl (k := 0) rfl (by decide) (by decide) rfl (fun ls hl => ?_)
        refine lv_goto (tgt := 23) G.1 G.2.1 dL_law_1353 (by decide) ?_
        exact law_end (L := 6) C0 6 (by decide) _ _ hw.2.2.2.1 _ _ (Nat.le_of_ble_eq_true rfl) (Nat.le_of_ble_eq_true rfl) ls (lv_sub hl [4, 0] rfl)
      · skip
        exact absurd c_270 (by decide)
    · skip
      subst e_sw
      refine lv_tableIn (tgt := 952) G.1 G.2.1 dL_law_40 (by decide) (by decide) rfl (by decide) ?_
      refine lv_aload_n G.1 G.2.1 dL_law_952 rfl (lv_at hl 3 rfl) ?_
      refine lv_aload_n G.1 G.2.1 dL_law_953 rfl (lv_at hl 4 rfl) ?_
      refine lv_iload G.1 G.2.1 dL_law_954 (lv_at hl 0 rfl) ?_
      refine lv_iconst (v := 1) G.1 G.2.1 dL_law_956 (by decide) ?_
      refine lv_iadd G.1 G.2.1 dL_law_957 ?_
      rw [show 0 + 1 = (1 : Int32) by decide]
      refine va_sld G.1 G.2.1 hX hbl hbA hw.2.2.2.1 (py_inr (by decide)) dL_law_958 ?_
      refine lv_aload_n G.1 G.2.1 dL_law_959 rfl (lv_at hl 4 rfl) ?_
      refine lv_iload G.1 G.2.1 dL_law_960 (lv_at hl 0 rfl) ?_
      refine lv_iconst (v := 2) G.1 G.2.1 dL_law_962 (by decide) ?_
      refine lv_iadd G.1 G.2.1 dL_law_963 ?_
      rw [show 0 + 2 = (2 : Int32) by decide]
      refine va_sld G.1 G.2.1 hX hbl hbA hw.2.2.2.1 (py_inr (by decide)) dL_law_964 ?_
      refine lv_aload_n G.1 G.2.1 dL_law_965 rfl (lv_at hl 4 rfl) ?_
      refine lv_iload G.1 G.2.1 dL_law_966 (lv_at hl 0 rfl) ?_
      refine lv_iconst (v := 3) G.1 G.2.1 dL_law_968 (by decide) ?_
      refine lv_iadd G.1 G.2.1 dL_law_969 ?_
      rw [show 0 + 3 = (3 : Int32) by decide]
      refine va_sld G.1 G.2.1 hX hbl hbA hw.2.2.2.1 (py_inr (by decide)) dL_law_970 ?_
      refine py_calli hw (va_runV (As := [.int (xs (Int32.toNatClampNeg 1)), .int (xs (Int32.toNatClampNeg 2)), .int (xs (Int32.toNatClampNeg 3))]) (rest := []) G (c_X11_diary l E L f H.size qx (xs (Int32.toNatClampNeg 1)) (xs (Int32.toNatClampNeg 2)) (xs (Int32.toNatClampNeg 3)) hF) (cwV 3 G.2.2.2.2 g_L_law_X11_diary_119 rfl rfl rfl (by decide +kernel) ⟨(Nat.le_of_ble_eq_true rfl), (Nat.le_of_ble_eq_true rfl)⟩) (py_preV hw (C := RX11) (T := TX11) (N := 16) rfl hrowX) rfl rfl hl.1 rfl (lv_room (Nat.le_of_ble_eq_true rfl)) dL_law_971 ⟨(Nat.le_of_ble_eq_true rfl), (Nat.le_of_ble_eq_true rfl)⟩) (fun r_275 L_271 f_272 H_273 locs hp_274 hw => ?_)
      obtain ⟨rfl, hmm⟩ := hp_274
      have hM := hmm _ hM
      obtain ⟨ysM, hrowM⟩ := fr_M_row hM
      refine lv_aload_n G.1 G.2.1 dL_law_974 rfl (lv_at hl 2 rfl) ?_
      refine lv_aload_n G.1 G.2.1 dL_law_975 rfl (lv_at hl 4 rfl) ?_
      refine lv_iload G.1 G.2.1 dL_law_976 (lv_at hl 0 rfl) ?_
      refine lv_iconst (v := 1) G.1 G.2.1 dL_law_978 (by decide) ?_
      refine lv_iadd G.1 G.2.1 dL_law_979 ?_
      rw [show 0 + 1 = (1 : Int32) by decide]
      refine va_sld G.1 G.2.1 hX hbl hbA hw.2.2.2.1 (py_inr (by decide)) dL_law_980 ?_
      refine lv_aload_n G.1 G.2.1 dL_law_981 rfl (lv_at hl 4 rfl) ?_
      refine lv_iload G.1 G.2.1 dL_law_982 (lv_at hl 0 rfl) ?_
      refine lv_iconst (v := 2) G.1 G.2.1 dL_law_984 (by decide) ?_
      refine lv_iadd G.1 G.2.1 dL_law_985 ?_
      rw [show 0 + 2 = (2 : Int32) by decide]
      refine va_sld G.1 G.2.1 hX hbl hbA hw.2.2.2.1 (py_inr (by decide)) dL_law_986 ?_
      refine lv_aload_n G.1 G.2.1 dL_law_987 rfl (lv_at hl 4 rfl) ?_
      refine lv_iload G.1 G.2.1 dL_law_988 (lv_at hl 0 rfl) ?_
      refine lv_iconst (v := 3) G.1 G.2.1 dL_law_990 (by decide) ?_
      refine lv_iadd G.1 G.2.1 dL_law_991 ?_
      rw [show 0 + 3 = (3 : Int32) by decide]
      refine va_sld G.1 G.2.1 hX hbl hbA hw.2.2.2.1 (py_inr (by decide)) dL_law_992 ?_
      refine py_calli hw (va_runV (As := [.int (xs (Int32.toNatClampNeg 1)), .int (xs (Int32.toNatClampNeg 2)), .int (xs (Int32.toNatClampNeg 3))]) (rest := [.int (-1000000)]) G (c_X12_diary l E L_271 f_272 H_273.size qm (xs (Int32.toNatClampNeg 1)) (xs (Int32.toNatClampNeg 2)) (xs (Int32.toNatClampNeg 3)) hM) (cwV 3 G.2.2.2.2 g_L_law_X12_diary_122 rfl rfl rfl (by decide +kernel) ⟨(Nat.le_of_ble_eq_true rfl), (Nat.le_of_ble_eq_true rfl)⟩) (py_preV hw (C := RX12) (T := TX12) (N := 54) rfl hrowM) rfl rfl hl.1 rfl (lv_room (Nat.le_of_ble_eq_true rfl)) dL_law_993 ⟨(Nat.le_of_ble_eq_true rfl), (Nat.le_of_ble_eq_true rfl)⟩) (fun r_280 L_276 f_277 H_278 locs hp_279 hw => ?_)
      obtain rfl := hp_279
      refine lv_icmp_eq (tgt := 1350) G.1 G.2.1 dL_law_996 (by decide) (fun c_281 => ?_) (fun c_281 => ?_)
      · skip
        refine lv_iinc (v := 6) (lv' := [(4, .int 6), (3, .ref qo), (2, .ref qm), (1, .ref qx), (0, .ref b)]) G.1 G.2.1 dL_law_1350 hl (k := 0) rfl (by decide) (by decide) rfl (fun ls hl => ?_)
        refine lv_goto (tgt := 23) G.1 G.2.1 dL_law_1353 (by decide) ?_
        exact law_end (L := 6) C0 6 (by decide) _ _ hw.2.2.2.1 _ _ (Nat.le_of_ble_eq_true rfl) (Nat.le_of_ble_eq_true rfl) ls (lv_sub hl [4, 0] rfl)
      · skip
        exact absurd c_281 (by decide)
    · skip
      subst e_sw
      refine lv_tableIn (tgt := 1001) G.1 G.2.1 dL_law_40 (by decide) (by decide) rfl (by decide) ?_
      refine lv_aload_n G.1 G.2.1 dL_law_1001 rfl (lv_at hl 3 rfl) ?_
      refine lv_aload_n G.1 G.2.1 dL_law_1002 rfl (lv_at hl 4 rfl) ?_
      refine lv_iload G.1 G.2.1 dL_law_1003 (lv_at hl 0 rfl) ?_
      refine lv_iconst (v := 1) G.1 G.2.1 dL_law_1005 (by decide) ?_
      refine lv_iadd G.1 G.2.1 dL_law_1006 ?_
      rw [show 0 + 1 = (1 : Int32) by decide]
      refine va_sld G.1 G.2.1 hX hbl hbA hw.2.2.2.1 (py_inr (by decide)) dL_law_1007 ?_
      refine lv_aload_n G.1 G.2.1 dL_law_1008 rfl (lv_at hl 4 rfl) ?_
      refine lv_iload G.1 G.2.1 dL_law_1009 (lv_at hl 0 rfl) ?_
      refine lv_iconst (v := 2) G.1 G.2.1 dL_law_1011 (by decide) ?_
      refine lv_iadd G.1 G.2.1 dL_law_1012 ?_
      rw [show 0 + 2 = (2 : Int32) by decide]
      refine va_sld G.1 G.2.1 hX hbl hbA hw.2.2.2.1 (py_inr (by decide)) dL_law_1013 ?_
      refine py_calli hw (va_runV (As := [.int (xs (Int32.toNatClampNeg 1)), .int (xs (Int32.toNatClampNeg 2))]) (rest := []) G (c_X11_climb l E L f H.size qx (xs (Int32.toNatClampNeg 1)) (xs (Int32.toNatClampNeg 2)) hF) (cwV 2 G.2.2.2.2 g_L_law_X11_climb_123 rfl rfl rfl (by decide +kernel) ⟨(Nat.le_of_ble_eq_true rfl), (Nat.le_of_ble_eq_true rfl)⟩) (py_preV hw (C := RX11) (T := TX11) (N := 16) rfl hrowX) rfl rfl hl.1 rfl (lv_room (Nat.le_of_ble_eq_true rfl)) dL_law_1014 ⟨(Nat.le_of_ble_eq_true rfl), (Nat.le_of_ble_eq_true rfl)⟩) (fun r_286 L_282 f_283 H_284 locs hp_285 hw => ?_)
      obtain ⟨rfl, hmm⟩ := hp_285
      have hM := hmm _ hM
      obtain ⟨ysM, hrowM⟩ := fr_M_row hM
      refine lv_aload_n G.1 G.2.1 dL_law_1017 rfl (lv_at hl 2 rfl) ?_
      refine lv_aload_n G.1 G.2.1 dL_law_1018 rfl (lv_at hl 4 rfl) ?_
      refine lv_iload G.1 G.2.1 dL_law_1019 (lv_at hl 0 rfl) ?_
      refine lv_iconst (v := 1) G.1 G.2.1 dL_law_1021 (by decide) ?_
      refine lv_iadd G.1 G.2.1 dL_law_1022 ?_
      rw [show 0 + 1 = (1 : Int32) by decide]
      refine va_sld G.1 G.2.1 hX hbl hbA hw.2.2.2.1 (py_inr (by decide)) dL_law_1023 ?_
      refine lv_aload_n G.1 G.2.1 dL_law_1024 rfl (lv_at hl 4 rfl) ?_
      refine lv_iload G.1 G.2.1 dL_law_1025 (lv_at hl 0 rfl) ?_
      refine lv_iconst (v := 2) G.1 G.2.1 dL_law_1027 (by decide) ?_
      refine lv_iadd G.1 G.2.1 dL_law_1028 ?_
      rw [show 0 + 2 = (2 : Int32) by decide]
      refine va_sld G.1 G.2.1 hX hbl hbA hw.2.2.2.1 (py_inr (by decide)) dL_law_1029 ?_
      refine py_calli hw (va_runV (As := [.int (xs (Int32.toNatClampNeg 1)), .int (xs (Int32.toNatClampNeg 2))]) (rest := [.int (-1000000)]) G (c_X12_climb l E L_282 f_283 H_284.size qm (xs (Int32.toNatClampNeg 1)) (xs (Int32.toNatClampNeg 2)) hM) (cwV 2 G.2.2.2.2 g_L_law_X12_climb_126 rfl rfl rfl (by decide +kernel) ⟨(Nat.le_of_ble_eq_true rfl), (Nat.le_of_ble_eq_true rfl)⟩) (py_preV hw (C := RX12) (T := TX12) (N := 54) rfl hrowM) rfl rfl hl.1 rfl (lv_room (Nat.le_of_ble_eq_true rfl)) dL_law_1030 ⟨(Nat.le_of_ble_eq_true rfl), (Nat.le_of_ble_eq_true rfl)⟩) (fun r_291 L_287 f_288 H_289 locs hp_290 hw => ?_)
      obtain rfl := hp_290
      refine lv_icmp_eq (tgt := 1350) G.1 G.2.1 dL_law_1033 (by decide) (fun c_292 => ?_) (fun c_292 => ?_)
      · skip
        refine lv_iinc (v := 6) (lv' := [(4, .int 6), (3, .ref qo), (2, .ref qm), (1, .ref qx), (0, .ref b)]) G.1 G.2.1 dL_law_1350 hl (k := 0) rfl (by decide) (by decide) rfl (fun ls hl => ?_)
        refine lv_goto (tgt := 23) G.1 G.2.1 dL_law_1353 (by decide) ?_
        exact law_end (L := 6) C0 6 (by decide) _ _ hw.2.2.2.1 _ _ (Nat.le_of_ble_eq_true rfl) (Nat.le_of_ble_eq_true rfl) ls (lv_sub hl [4, 0] rfl)
      · skip
        exact absurd c_292 (by decide)
    · skip
      subst e_sw
      refine lv_tableIn (tgt := 1038) G.1 G.2.1 dL_law_40 (by decide) (by decide) rfl (by decide) ?_
      refine lv_aload_n G.1 G.2.1 dL_law_1038 rfl (lv_at hl 3 rfl) ?_
      refine py_calli hw (va_runV (As := []) (rest := []) G (c_X11_full l E L f H.size qx hF) (cwV 0 G.2.2.2.2 g_L_law_X11_full_127 rfl rfl rfl (by decide +kernel) ⟨(Nat.le_of_ble_eq_true rfl), (Nat.le_of_ble_eq_true rfl)⟩) (py_preV hw (C := RX11) (T := TX11) (N := 16) rfl hrowX) rfl rfl hl.1 rfl (lv_room (Nat.le_of_ble_eq_true rfl)) dL_law_1039 ⟨(Nat.le_of_ble_eq_true rfl), (Nat.le_of_ble_eq_true rfl)⟩) (fun r_297 L_293 f_294 H_295 locs hp_296 hw => ?_)
      obtain ⟨rfl, hmm⟩ := hp_296
      have hM := hmm _ hM
      obtain ⟨ysM, hrowM⟩ := fr_M_row hM
      refine lv_aload_n G.1 G.2.1 dL_law_1042 rfl (lv_at hl 2 rfl) ?_
      refine py_calli hw (va_runV (As := []) (rest := [.int (-1)]) G (c_X12_full l E L_293 f_294 H_295.size qm hM) (cwV 0 G.2.2.2.2 g_L_law_X12_full_130 rfl rfl rfl (by decide +kernel) ⟨(Nat.le_of_ble_eq_true rfl), (Nat.le_of_ble_eq_true rfl)⟩) (py_preV hw (C := RX12) (T := TX12) (N := 54) rfl hrowM) rfl rfl hl.1 rfl (lv_room (Nat.le_of_ble_eq_true rfl)) dL_law_1043 ⟨(Nat.le_of_ble_eq_true rfl), (Nat.le_of_ble_eq_true rfl)⟩) (fun r_302 L_298 f_299 H_300 locs hp_301 hw => ?_)
      obtain rfl := hp_301
      refine lv_icmp_eq (tgt := 1350) G.1 G.2.1 dL_law_1046 (by decide) (fun c_303 => ?_) (fun c_303 => ?_)
      · skip
        refine lv_iinc (v := 6) (lv' := [(4, .int 6), (3, .ref qo), (2, .ref qm), (1, .ref qx), (0, .ref b)]) G.1 G.2.1 dL_law_1350 hl (k := 0) rfl (by decide) (by decide) rfl (fun ls hl => ?_)
        refine lv_goto (tgt := 23) G.1 G.2.1 dL_law_1353 (by decide) ?_
        exact law_end (L := 6) C0 6 (by decide) _ _ hw.2.2.2.1 _ _ (Nat.le_of_ble_eq_true rfl) (Nat.le_of_ble_eq_true rfl) ls (lv_sub hl [4, 0] rfl)
      · skip
        exact absurd c_303 (by decide)
    · skip
      subst e_sw
      refine lv_tableIn (tgt := 1051) G.1 G.2.1 dL_law_40 (by decide) (by decide) rfl (by decide) ?_
      refine lv_aload_n G.1 G.2.1 dL_law_1051 rfl (lv_at hl 3 rfl) ?_
      refine lv_aload_n G.1 G.2.1 dL_law_1052 rfl (lv_at hl 4 rfl) ?_
      refine lv_iload G.1 G.2.1 dL_law_1053 (lv_at hl 0 rfl) ?_
      refine lv_iconst (v := 1) G.1 G.2.1 dL_law_1055 (by decide) ?_
      refine lv_iadd G.1 G.2.1 dL_law_1056 ?_
      rw [show 0 + 1 = (1 : Int32) by decide]
      refine va_sld G.1 G.2.1 hX hbl hbA hw.2.2.2.1 (py_inr (by decide)) dL_law_1057 ?_
      refine py_calli hw (va_runV (As := [.int (xs (Int32.toNatClampNeg 1))]) (rest := []) G (c_X11_hungry l E L f H.size qx (xs (Int32.toNatClampNeg 1)) hF) (cwV 1 G.2.2.2.2 g_L_law_X11_hungry_131 rfl rfl rfl (by decide +kernel) ⟨(Nat.le_of_ble_eq_true rfl), (Nat.le_of_ble_eq_true rfl)⟩) (py_preV hw (C := RX11) (T := TX11) (N := 16) rfl hrowX) rfl rfl hl.1 rfl (lv_room (Nat.le_of_ble_eq_true rfl)) dL_law_1058 ⟨(Nat.le_of_ble_eq_true rfl), (Nat.le_of_ble_eq_true rfl)⟩) (fun r_308 L_304 f_305 H_306 locs hp_307 hw => ?_)
      obtain ⟨rfl, hmm⟩ := hp_307
      have hM := hmm _ hM
      obtain ⟨ysM, hrowM⟩ := fr_M_row hM
      refine lv_aload_n G.1 G.2.1 dL_law_1061 rfl (lv_at hl 2 rfl) ?_
      refine lv_aload_n G.1 G.2.1 dL_law_1062 rfl (lv_at hl 4 rfl) ?_
      refine lv_iload G.1 G.2.1 dL_law_1063 (lv_at hl 0 rfl) ?_
      refine lv_iconst (v := 1) G.1 G.2.1 dL_law_1065 (by decide) ?_
      refine lv_iadd G.1 G.2.1 dL_law_1066 ?_
      rw [show 0 + 1 = (1 : Int32) by decide]
      refine va_sld G.1 G.2.1 hX hbl hbA hw.2.2.2.1 (py_inr (by decide)) dL_law_1067 ?_
      refine py_calli hw (va_runV (As := [.int (xs (Int32.toNatClampNeg 1))]) (rest := [.int (-1)]) G (c_X12_hungry l E L_304 f_305 H_306.size qm (xs (Int32.toNatClampNeg 1)) hM) (cwV 1 G.2.2.2.2 g_L_law_X12_hungry_134 rfl rfl rfl (by decide +kernel) ⟨(Nat.le_of_ble_eq_true rfl), (Nat.le_of_ble_eq_true rfl)⟩) (py_preV hw (C := RX12) (T := TX12) (N := 54) rfl hrowM) rfl rfl hl.1 rfl (lv_room (Nat.le_of_ble_eq_true rfl)) dL_law_1068 ⟨(Nat.le_of_ble_eq_true rfl), (Nat.le_of_ble_eq_true rfl)⟩) (fun r_313 L_309 f_310 H_311 locs hp_312 hw => ?_)
      obtain rfl := hp_312
      refine lv_icmp_eq (tgt := 1350) G.1 G.2.1 dL_law_1071 (by decide) (fun c_314 => ?_) (fun c_314 => ?_)
      · skip
        refine lv_iinc (v := 6) (lv' := [(4, .int 6), (3, .ref qo), (2, .ref qm), (1, .ref qx), (0, .ref b)]) G.1 G.2.1 dL_law_1350 hl (k := 0) rfl (by decide) (by decide) rfl (fun ls hl => ?_)
        refine lv_goto (tgt := 23) G.1 G.2.1 dL_law_1353 (by decide) ?_
        exact law_end (L := 6) C0 6 (by decide) _ _ hw.2.2.2.1 _ _ (Nat.le_of_ble_eq_true rfl) (Nat.le_of_ble_eq_true rfl) ls (lv_sub hl [4, 0] rfl)
      · skip
        exact absurd c_314 (by decide)
    · skip
      subst e_sw
      refine lv_tableIn (tgt := 1076) G.1 G.2.1 dL_law_40 (by decide) (by decide) rfl (by decide) ?_
      refine lv_aload_n G.1 G.2.1 dL_law_1076 rfl (lv_at hl 3 rfl) ?_
      refine lv_aload_n G.1 G.2.1 dL_law_1077 rfl (lv_at hl 4 rfl) ?_
      refine lv_iload G.1 G.2.1 dL_law_1078 (lv_at hl 0 rfl) ?_
      refine lv_iconst (v := 1) G.1 G.2.1 dL_law_1080 (by decide) ?_
      refine lv_iadd G.1 G.2.1 dL_law_1081 ?_
      rw [show 0 + 1 = (1 : Int32) by decide]
      refine va_sld G.1 G.2.1 hX hbl hbA hw.2.2.2.1 (py_inr (by decide)) dL_law_1082 ?_
      refine py_calli hw (va_runV (As := [.int (xs (Int32.toNatClampNeg 1))]) (rest := []) G (c_X11_rank l E L f H.size qx (xs (Int32.toNatClampNeg 1)) hF) (cwV 1 G.2.2.2.2 g_L_law_X11_rank_135 rfl rfl rfl (by decide +kernel) ⟨(Nat.le_of_ble_eq_true rfl), (Nat.le_of_ble_eq_true rfl)⟩) (py_preV hw (C := RX11) (T := TX11) (N := 16) rfl hrowX) rfl rfl hl.1 rfl (lv_room (Nat.le_of_ble_eq_true rfl)) dL_law_1083 ⟨(Nat.le_of_ble_eq_true rfl), (Nat.le_of_ble_eq_true rfl)⟩) (fun r_319 L_315 f_316 H_317 locs hp_318 hw => ?_)
      obtain ⟨rfl, hmm⟩ := hp_318
      have hM := hmm _ hM
      obtain ⟨ysM, hrowM⟩ := fr_M_row hM
      refine lv_aload_n G.1 G.2.1 dL_law_1086 rfl (lv_at hl 2 rfl) ?_
      refine lv_aload_n G.1 G.2.1 dL_law_1087 rfl (lv_at hl 4 rfl) ?_
      refine lv_iload G.1 G.2.1 dL_law_1088 (lv_at hl 0 rfl) ?_
      refine lv_iconst (v := 1) G.1 G.2.1 dL_law_1090 (by decide) ?_
      refine lv_iadd G.1 G.2.1 dL_law_1091 ?_
      rw [show 0 + 1 = (1 : Int32) by decide]
      refine va_sld G.1 G.2.1 hX hbl hbA hw.2.2.2.1 (py_inr (by decide)) dL_law_1092 ?_
      refine py_calli hw (va_runV (As := [.int (xs (Int32.toNatClampNeg 1))]) (rest := [.int (-1)]) G (c_X12_rank l E L_315 f_316 H_317.size qm (xs (Int32.toNatClampNeg 1)) hM) (cwV 1 G.2.2.2.2 g_L_law_X12_rank_138 rfl rfl rfl (by decide +kernel) ⟨(Nat.le_of_ble_eq_true rfl), (Nat.le_of_ble_eq_true rfl)⟩) (py_preV hw (C := RX12) (T := TX12) (N := 54) rfl hrowM) rfl rfl hl.1 rfl (lv_room (Nat.le_of_ble_eq_true rfl)) dL_law_1093 ⟨(Nat.le_of_ble_eq_true rfl), (Nat.le_of_ble_eq_true rfl)⟩) (fun r_324 L_320 f_321 H_322 locs hp_323 hw => ?_)
      obtain rfl := hp_323
      refine lv_icmp_eq (tgt := 1350) G.1 G.2.1 dL_law_1096 (by decide) (fun c_325 => ?_) (fun c_325 => ?_)
      · skip
        refine lv_iinc (v := 6) (lv' := [(4, .int 6), (3, .ref qo), (2, .ref qm), (1, .ref qx), (0, .ref b)]) G.1 G.2.1 dL_law_1350 hl (k := 0) rfl (by decide) (by decide) rfl (fun ls hl => ?_)
        refine lv_goto (tgt := 23) G.1 G.2.1 dL_law_1353 (by decide) ?_
        exact law_end (L := 6) C0 6 (by decide) _ _ hw.2.2.2.1 _ _ (Nat.le_of_ble_eq_true rfl) (Nat.le_of_ble_eq_true rfl) ls (lv_sub hl [4, 0] rfl)
      · skip
        exact absurd c_325 (by decide)
    · skip
      subst e_sw
      refine lv_tableIn (tgt := 1101) G.1 G.2.1 dL_law_40 (by decide) (by decide) rfl (by decide) ?_
      refine lv_aload_n G.1 G.2.1 dL_law_1101 rfl (lv_at hl 3 rfl) ?_
      refine lv_aload_n G.1 G.2.1 dL_law_1102 rfl (lv_at hl 4 rfl) ?_
      refine lv_iload G.1 G.2.1 dL_law_1103 (lv_at hl 0 rfl) ?_
      refine lv_iconst (v := 1) G.1 G.2.1 dL_law_1105 (by decide) ?_
      refine lv_iadd G.1 G.2.1 dL_law_1106 ?_
      rw [show 0 + 1 = (1 : Int32) by decide]
      refine va_sld G.1 G.2.1 hX hbl hbA hw.2.2.2.1 (py_inr (by decide)) dL_law_1107 ?_
      refine lv_aload_n G.1 G.2.1 dL_law_1108 rfl (lv_at hl 4 rfl) ?_
      refine lv_iload G.1 G.2.1 dL_law_1109 (lv_at hl 0 rfl) ?_
      refine lv_iconst (v := 2) G.1 G.2.1 dL_law_1111 (by decide) ?_
      refine lv_iadd G.1 G.2.1 dL_law_1112 ?_
      rw [show 0 + 2 = (2 : Int32) by decide]
      refine va_sld G.1 G.2.1 hX hbl hbA hw.2.2.2.1 (py_inr (by decide)) dL_law_1113 ?_
      refine lv_aload_n G.1 G.2.1 dL_law_1114 rfl (lv_at hl 4 rfl) ?_
      refine lv_iload G.1 G.2.1 dL_law_1115 (lv_at hl 0 rfl) ?_
      refine lv_iconst (v := 3) G.1 G.2.1 dL_law_1117 (by decide) ?_
      refine lv_iadd G.1 G.2.1 dL_law_1118 ?_
      rw [show 0 + 3 = (3 : Int32) by decide]
      refine va_sld G.1 G.2.1 hX hbl hbA hw.2.2.2.1 (py_inr (by decide)) dL_law_1119 ?_
      refine py_calli hw (va_runV (As := [.int (xs (Int32.toNatClampNeg 1)), .int (xs (Int32.toNatClampNeg 2)), .int (xs (Int32.toNatClampNeg 3))]) (rest := []) G (c_X11_met l E L f H.size qx (xs (Int32.toNatClampNeg 1)) (xs (Int32.toNatClampNeg 2)) (xs (Int32.toNatClampNeg 3)) hF) (cwV 3 G.2.2.2.2 g_L_law_X11_met_139 rfl rfl rfl (by decide +kernel) ⟨(Nat.le_of_ble_eq_true rfl), (Nat.le_of_ble_eq_true rfl)⟩) (py_preV hw (C := RX11) (T := TX11) (N := 16) rfl hrowX) rfl rfl hl.1 rfl (lv_room (Nat.le_of_ble_eq_true rfl)) dL_law_1120 ⟨(Nat.le_of_ble_eq_true rfl), (Nat.le_of_ble_eq_true rfl)⟩) (fun r_330 L_326 f_327 H_328 locs hp_329 hw => ?_)
      obtain ⟨rfl, hmm⟩ := hp_329
      have hM := hmm _ hM
      obtain ⟨ysM, hrowM⟩ := fr_M_row hM
      refine lv_aload_n G.1 G.2.1 dL_law_1123 rfl (lv_at hl 2 rfl) ?_
      refine lv_aload_n G.1 G.2.1 dL_law_1124 rfl (lv_at hl 4 rfl) ?_
      refine lv_iload G.1 G.2.1 dL_law_1125 (lv_at hl 0 rfl) ?_
      refine lv_iconst (v := 1) G.1 G.2.1 dL_law_1127 (by decide) ?_
      refine lv_iadd G.1 G.2.1 dL_law_1128 ?_
      rw [show 0 + 1 = (1 : Int32) by decide]
      refine va_sld G.1 G.2.1 hX hbl hbA hw.2.2.2.1 (py_inr (by decide)) dL_law_1129 ?_
      refine lv_aload_n G.1 G.2.1 dL_law_1130 rfl (lv_at hl 4 rfl) ?_
      refine lv_iload G.1 G.2.1 dL_law_1131 (lv_at hl 0 rfl) ?_
      refine lv_iconst (v := 2) G.1 G.2.1 dL_law_1133 (by decide) ?_
      refine lv_iadd G.1 G.2.1 dL_law_1134 ?_
      rw [show 0 + 2 = (2 : Int32) by decide]
      refine va_sld G.1 G.2.1 hX hbl hbA hw.2.2.2.1 (py_inr (by decide)) dL_law_1135 ?_
      refine lv_aload_n G.1 G.2.1 dL_law_1136 rfl (lv_at hl 4 rfl) ?_
      refine lv_iload G.1 G.2.1 dL_law_1137 (lv_at hl 0 rfl) ?_
      refine lv_iconst (v := 3) G.1 G.2.1 dL_law_1139 (by decide) ?_
      refine lv_iadd G.1 G.2.1 dL_law_1140 ?_
      rw [show 0 + 3 = (3 : Int32) by decide]
      refine va_sld G.1 G.2.1 hX hbl hbA hw.2.2.2.1 (py_inr (by decide)) dL_law_1141 ?_
      refine py_calli hw (va_runV (As := [.int (xs (Int32.toNatClampNeg 1)), .int (xs (Int32.toNatClampNeg 2)), .int (xs (Int32.toNatClampNeg 3))]) (rest := [.int (-1000000)]) G (c_X12_met l E L_326 f_327 H_328.size qm (xs (Int32.toNatClampNeg 1)) (xs (Int32.toNatClampNeg 2)) (xs (Int32.toNatClampNeg 3)) hM) (cwV 3 G.2.2.2.2 g_L_law_X12_met_142 rfl rfl rfl (by decide +kernel) ⟨(Nat.le_of_ble_eq_true rfl), (Nat.le_of_ble_eq_true rfl)⟩) (py_preV hw (C := RX12) (T := TX12) (N := 54) rfl hrowM) rfl rfl hl.1 rfl (lv_room (Nat.le_of_ble_eq_true rfl)) dL_law_1142 ⟨(Nat.le_of_ble_eq_true rfl), (Nat.le_of_ble_eq_true rfl)⟩) (fun r_335 L_331 f_332 H_333 locs hp_334 hw => ?_)
      obtain rfl := hp_334
      refine lv_icmp_eq (tgt := 1350) G.1 G.2.1 dL_law_1145 (by decide) (fun c_336 => ?_) (fun c_336 => ?_)
      · skip
        refine lv_iinc (v := 6) (lv' := [(4, .int 6), (3, .ref qo), (2, .ref qm), (1, .ref qx), (0, .ref b)]) G.1 G.2.1 dL_law_1350 hl (k := 0) rfl (by decide) (by decide) rfl (fun ls hl => ?_)
        refine lv_goto (tgt := 23) G.1 G.2.1 dL_law_1353 (by decide) ?_
        exact law_end (L := 6) C0 6 (by decide) _ _ hw.2.2.2.1 _ _ (Nat.le_of_ble_eq_true rfl) (Nat.le_of_ble_eq_true rfl) ls (lv_sub hl [4, 0] rfl)
      · skip
        exact absurd c_336 (by decide)
    · skip
      subst e_sw
      refine lv_tableIn (tgt := 1150) G.1 G.2.1 dL_law_40 (by decide) (by decide) rfl (by decide) ?_
      refine lv_aload_n G.1 G.2.1 dL_law_1150 rfl (lv_at hl 3 rfl) ?_
      refine lv_aload_n G.1 G.2.1 dL_law_1151 rfl (lv_at hl 4 rfl) ?_
      refine lv_iload G.1 G.2.1 dL_law_1152 (lv_at hl 0 rfl) ?_
      refine lv_iconst (v := 1) G.1 G.2.1 dL_law_1154 (by decide) ?_
      refine lv_iadd G.1 G.2.1 dL_law_1155 ?_
      rw [show 0 + 1 = (1 : Int32) by decide]
      refine va_sld G.1 G.2.1 hX hbl hbA hw.2.2.2.1 (py_inr (by decide)) dL_law_1156 ?_
      refine py_calli hw (va_runV (As := [.int (xs (Int32.toNatClampNeg 1))]) (rest := []) G (c_X11_leap l E L f H.size qx (xs (Int32.toNatClampNeg 1)) hF) (cwV 1 G.2.2.2.2 g_L_law_X11_leap_143 rfl rfl rfl (by decide +kernel) ⟨(Nat.le_of_ble_eq_true rfl), (Nat.le_of_ble_eq_true rfl)⟩) (py_preV hw (C := RX11) (T := TX11) (N := 16) rfl hrowX) rfl rfl hl.1 rfl (lv_room (Nat.le_of_ble_eq_true rfl)) dL_law_1157 ⟨(Nat.le_of_ble_eq_true rfl), (Nat.le_of_ble_eq_true rfl)⟩) (fun r_341 L_337 f_338 H_339 locs hp_340 hw => ?_)
      obtain ⟨rfl, hmm⟩ := hp_340
      have hM := hmm _ hM
      obtain ⟨ysM, hrowM⟩ := fr_M_row hM
      refine lv_aload_n G.1 G.2.1 dL_law_1160 rfl (lv_at hl 2 rfl) ?_
      refine lv_aload_n G.1 G.2.1 dL_law_1161 rfl (lv_at hl 4 rfl) ?_
      refine lv_iload G.1 G.2.1 dL_law_1162 (lv_at hl 0 rfl) ?_
      refine lv_iconst (v := 1) G.1 G.2.1 dL_law_1164 (by decide) ?_
      refine lv_iadd G.1 G.2.1 dL_law_1165 ?_
      rw [show 0 + 1 = (1 : Int32) by decide]
      refine va_sld G.1 G.2.1 hX hbl hbA hw.2.2.2.1 (py_inr (by decide)) dL_law_1166 ?_
      refine py_calli hw (va_runV (As := [.int (xs (Int32.toNatClampNeg 1))]) (rest := [.int (-1000000)]) G (c_X12_leap l E L_337 f_338 H_339.size qm (xs (Int32.toNatClampNeg 1)) hM) (cwV 1 G.2.2.2.2 g_L_law_X12_leap_146 rfl rfl rfl (by decide +kernel) ⟨(Nat.le_of_ble_eq_true rfl), (Nat.le_of_ble_eq_true rfl)⟩) (py_preV hw (C := RX12) (T := TX12) (N := 54) rfl hrowM) rfl rfl hl.1 rfl (lv_room (Nat.le_of_ble_eq_true rfl)) dL_law_1167 ⟨(Nat.le_of_ble_eq_true rfl), (Nat.le_of_ble_eq_true rfl)⟩) (fun r_346 L_342 f_343 H_344 locs hp_345 hw => ?_)
      obtain rfl := hp_345
      refine lv_icmp_eq (tgt := 1350) G.1 G.2.1 dL_law_1170 (by decide) (fun c_347 => ?_) (fun c_347 => ?_)
      · skip
        refine lv_iinc (v := 6) (lv' := [(4, .int 6), (3, .ref qo), (2, .ref qm), (1, .ref qx), (0, .ref b)]) G.1 G.2.1 dL_law_1350 hl (k := 0) rfl (by decide) (by decide) rfl (fun ls hl => ?_)
        refine lv_goto (tgt := 23) G.1 G.2.1 dL_law_1353 (by decide) ?_
        exact law_end (L := 6) C0 6 (by decide) _ _ hw.2.2.2.1 _ _ (Nat.le_of_ble_eq_true rfl) (Nat.le_of_ble_eq_true rfl) ls (lv_sub hl [4, 0] rfl)
      · skip
        exact absurd c_347 (by decide)
    · skip
      subst e_sw
      refine lv_tableIn (tgt := 1175) G.1 G.2.1 dL_law_40 (by decide) (by decide) rfl (by decide) ?_
      refine lv_aload_n G.1 G.2.1 dL_law_1175 rfl (lv_at hl 3 rfl) ?_
      refine lv_aload_n G.1 G.2.1 dL_law_1176 rfl (lv_at hl 4 rfl) ?_
      refine lv_iload G.1 G.2.1 dL_law_1177 (lv_at hl 0 rfl) ?_
      refine lv_iconst (v := 1) G.1 G.2.1 dL_law_1179 (by decide) ?_
      refine lv_iadd G.1 G.2.1 dL_law_1180 ?_
      rw [show 0 + 1 = (1 : Int32) by decide]
      refine va_sld G.1 G.2.1 hX hbl hbA hw.2.2.2.1 (py_inr (by decide)) dL_law_1181 ?_
      refine py_calli hw (va_runV (As := [.int (xs (Int32.toNatClampNeg 1))]) (rest := []) G (c_X11_leanest l E L f H.size qx (xs (Int32.toNatClampNeg 1)) hF) (cwV 1 G.2.2.2.2 g_L_law_X11_leanest_147 rfl rfl rfl (by decide +kernel) ⟨(Nat.le_of_ble_eq_true rfl), (Nat.le_of_ble_eq_true rfl)⟩) (py_preV hw (C := RX11) (T := TX11) (N := 16) rfl hrowX) rfl rfl hl.1 rfl (lv_room (Nat.le_of_ble_eq_true rfl)) dL_law_1182 ⟨(Nat.le_of_ble_eq_true rfl), (Nat.le_of_ble_eq_true rfl)⟩) (fun r_352 L_348 f_349 H_350 locs hp_351 hw => ?_)
      obtain ⟨rfl, hmm⟩ := hp_351
      have hM := hmm _ hM
      obtain ⟨ysM, hrowM⟩ := fr_M_row hM
      refine lv_aload_n G.1 G.2.1 dL_law_1185 rfl (lv_at hl 2 rfl) ?_
      refine lv_aload_n G.1 G.2.1 dL_law_1186 rfl (lv_at hl 4 rfl) ?_
      refine lv_iload G.1 G.2.1 dL_law_1187 (lv_at hl 0 rfl) ?_
      refine lv_iconst (v := 1) G.1 G.2.1 dL_law_1189 (by decide) ?_
      refine lv_iadd G.1 G.2.1 dL_law_1190 ?_
      rw [show 0 + 1 = (1 : Int32) by decide]
      refine va_sld G.1 G.2.1 hX hbl hbA hw.2.2.2.1 (py_inr (by decide)) dL_law_1191 ?_
      refine py_calli hw (va_runV (As := [.int (xs (Int32.toNatClampNeg 1))]) (rest := [.int (-1)]) G (c_X12_leanest l E L_348 f_349 H_350.size qm (xs (Int32.toNatClampNeg 1)) hM) (cwV 1 G.2.2.2.2 g_L_law_X12_leanest_150 rfl rfl rfl (by decide +kernel) ⟨(Nat.le_of_ble_eq_true rfl), (Nat.le_of_ble_eq_true rfl)⟩) (py_preV hw (C := RX12) (T := TX12) (N := 54) rfl hrowM) rfl rfl hl.1 rfl (lv_room (Nat.le_of_ble_eq_true rfl)) dL_law_1192 ⟨(Nat.le_of_ble_eq_true rfl), (Nat.le_of_ble_eq_true rfl)⟩) (fun r_357 L_353 f_354 H_355 locs hp_356 hw => ?_)
      obtain rfl := hp_356
      refine lv_icmp_eq (tgt := 1350) G.1 G.2.1 dL_law_1195 (by decide) (fun c_358 => ?_) (fun c_358 => ?_)
      · skip
        refine lv_iinc (v := 6) (lv' := [(4, .int 6), (3, .ref qo), (2, .ref qm), (1, .ref qx), (0, .ref b)]) G.1 G.2.1 dL_law_1350 hl (k := 0) rfl (by decide) (by decide) rfl (fun ls hl => ?_)
        refine lv_goto (tgt := 23) G.1 G.2.1 dL_law_1353 (by decide) ?_
        exact law_end (L := 6) C0 6 (by decide) _ _ hw.2.2.2.1 _ _ (Nat.le_of_ble_eq_true rfl) (Nat.le_of_ble_eq_true rfl) ls (lv_sub hl [4, 0] rfl)
      · skip
        exact absurd c_358 (by decide)
    · skip
      subst e_sw
      refine lv_tableIn (tgt := 1200) G.1 G.2.1 dL_law_40 (by decide) (by decide) rfl (by decide) ?_
      refine lv_aload_n G.1 G.2.1 dL_law_1200 rfl (lv_at hl 3 rfl) ?_
      refine lv_aload_n G.1 G.2.1 dL_law_1201 rfl (lv_at hl 4 rfl) ?_
      refine lv_iload G.1 G.2.1 dL_law_1202 (lv_at hl 0 rfl) ?_
      refine lv_iconst (v := 1) G.1 G.2.1 dL_law_1204 (by decide) ?_
      refine lv_iadd G.1 G.2.1 dL_law_1205 ?_
      rw [show 0 + 1 = (1 : Int32) by decide]
      refine va_sld G.1 G.2.1 hX hbl hbA hw.2.2.2.1 (py_inr (by decide)) dL_law_1206 ?_
      refine lv_aload_n G.1 G.2.1 dL_law_1207 rfl (lv_at hl 4 rfl) ?_
      refine lv_iload G.1 G.2.1 dL_law_1208 (lv_at hl 0 rfl) ?_
      refine lv_iconst (v := 2) G.1 G.2.1 dL_law_1210 (by decide) ?_
      refine lv_iadd G.1 G.2.1 dL_law_1211 ?_
      rw [show 0 + 2 = (2 : Int32) by decide]
      refine va_sld G.1 G.2.1 hX hbl hbA hw.2.2.2.1 (py_inr (by decide)) dL_law_1212 ?_
      refine py_calll hw (va_runV (As := [.int (xs (Int32.toNatClampNeg 1)), .int (xs (Int32.toNatClampNeg 2))]) (rest := []) G (c_X11_mean l E L f H.size qx (xs (Int32.toNatClampNeg 1)) (xs (Int32.toNatClampNeg 2)) hF) (cwV 2 G.2.2.2.2 g_L_law_X11_mean_151 rfl rfl rfl (by decide +kernel) ⟨(Nat.le_of_ble_eq_true rfl), (Nat.le_of_ble_eq_true rfl)⟩) (py_preV hw (C := RX11) (T := TX11) (N := 16) rfl hrowX) rfl rfl hl.1 rfl (lv_room (Nat.le_of_ble_eq_true rfl)) dL_law_1213 ⟨(Nat.le_of_ble_eq_true rfl), (Nat.le_of_ble_eq_true rfl)⟩) (fun r_363 L_359 f_360 H_361 locs hp_362 hw => ?_)
      obtain ⟨rfl, hmm⟩ := hp_362
      have hM := hmm _ hM
      obtain ⟨ysM, hrowM⟩ := fr_M_row hM
      refine lv_aload_n G.1 G.2.1 dL_law_1216 rfl (lv_at hl 2 rfl) ?_
      refine lv_aload_n G.1 G.2.1 dL_law_1217 rfl (lv_at hl 4 rfl) ?_
      refine lv_iload G.1 G.2.1 dL_law_1218 (lv_at hl 0 rfl) ?_
      refine lv_iconst (v := 1) G.1 G.2.1 dL_law_1220 (by decide) ?_
      refine lv_iadd G.1 G.2.1 dL_law_1221 ?_
      rw [show 0 + 1 = (1 : Int32) by decide]
      refine va_sld G.1 G.2.1 hX hbl hbA hw.2.2.2.1 (py_inr (by decide)) dL_law_1222 ?_
      refine lv_aload_n G.1 G.2.1 dL_law_1223 rfl (lv_at hl 4 rfl) ?_
      refine lv_iload G.1 G.2.1 dL_law_1224 (lv_at hl 0 rfl) ?_
      refine lv_iconst (v := 2) G.1 G.2.1 dL_law_1226 (by decide) ?_
      refine lv_iadd G.1 G.2.1 dL_law_1227 ?_
      rw [show 0 + 2 = (2 : Int32) by decide]
      refine va_sld G.1 G.2.1 hX hbl hbA hw.2.2.2.1 (py_inr (by decide)) dL_law_1228 ?_
      refine py_calll hw (va_runV (As := [.int (xs (Int32.toNatClampNeg 1)), .int (xs (Int32.toNatClampNeg 2))]) (rest := [.long (-1000000)]) G (c_X12_mean l E L_359 f_360 H_361.size qm (xs (Int32.toNatClampNeg 1)) (xs (Int32.toNatClampNeg 2)) hM) (cwV 2 G.2.2.2.2 g_L_law_X12_mean_155 rfl rfl rfl (by decide +kernel) ⟨(Nat.le_of_ble_eq_true rfl), (Nat.le_of_ble_eq_true rfl)⟩) (py_preV hw (C := RX12) (T := TX12) (N := 54) rfl hrowM) rfl rfl hl.1 rfl (lv_room (Nat.le_of_ble_eq_true rfl)) dL_law_1229 ⟨(Nat.le_of_ble_eq_true rfl), (Nat.le_of_ble_eq_true rfl)⟩) (fun r_368 L_364 f_365 H_366 locs hp_367 hw => ?_)
      obtain rfl := hp_367
      refine W.lcmp G.1 G.2.1 dL_law_1232 ?_
      rw [show lg_cmp (-1000000) (-1000000) = (0 : Int32) by decide]
      refine lv_if_eq (tgt := 1350) G.1 G.2.1 dL_law_1233 (by decide) (fun c_369 => ?_) (fun c_369 => ?_)
      · skip
        refine lv_iinc (v := 6) (lv' := [(4, .int 6), (3, .ref qo), (2, .ref qm), (1, .ref qx), (0, .ref b)]) G.1 G.2.1 dL_law_1350 hl (k := 0) rfl (by decide) (by decide) rfl (fun ls hl => ?_)
        refine lv_goto (tgt := 23) G.1 G.2.1 dL_law_1353 (by decide) ?_
        exact law_end (L := 6) C0 6 (by decide) _ _ hw.2.2.2.1 _ _ (Nat.le_of_ble_eq_true rfl) (Nat.le_of_ble_eq_true rfl) ls (lv_sub hl [4, 0] rfl)
      · skip
        exact absurd c_369 (by decide)
    · skip
      subst e_sw
      refine lv_tableIn (tgt := 1238) G.1 G.2.1 dL_law_40 (by decide) (by decide) rfl (by decide) ?_
      refine lv_aload_n G.1 G.2.1 dL_law_1238 rfl (lv_at hl 3 rfl) ?_
      refine lv_aload_n G.1 G.2.1 dL_law_1239 rfl (lv_at hl 4 rfl) ?_
      refine lv_iload G.1 G.2.1 dL_law_1240 (lv_at hl 0 rfl) ?_
      refine lv_iconst (v := 1) G.1 G.2.1 dL_law_1242 (by decide) ?_
      refine lv_iadd G.1 G.2.1 dL_law_1243 ?_
      rw [show 0 + 1 = (1 : Int32) by decide]
      refine va_sld G.1 G.2.1 hX hbl hbA hw.2.2.2.1 (py_inr (by decide)) dL_law_1244 ?_
      refine lv_aload_n G.1 G.2.1 dL_law_1245 rfl (lv_at hl 4 rfl) ?_
      refine lv_iload G.1 G.2.1 dL_law_1246 (lv_at hl 0 rfl) ?_
      refine lv_iconst (v := 2) G.1 G.2.1 dL_law_1248 (by decide) ?_
      refine lv_iadd G.1 G.2.1 dL_law_1249 ?_
      rw [show 0 + 2 = (2 : Int32) by decide]
      refine va_sld G.1 G.2.1 hX hbl hbA hw.2.2.2.1 (py_inr (by decide)) dL_law_1250 ?_
      refine lv_aload_n G.1 G.2.1 dL_law_1251 rfl (lv_at hl 4 rfl) ?_
      refine lv_iload G.1 G.2.1 dL_law_1252 (lv_at hl 0 rfl) ?_
      refine lv_iconst (v := 3) G.1 G.2.1 dL_law_1254 (by decide) ?_
      refine lv_iadd G.1 G.2.1 dL_law_1255 ?_
      rw [show 0 + 3 = (3 : Int32) by decide]
      refine va_sld G.1 G.2.1 hX hbl hbA hw.2.2.2.1 (py_inr (by decide)) dL_law_1256 ?_
      refine lv_aload_n G.1 G.2.1 dL_law_1257 rfl (lv_at hl 4 rfl) ?_
      refine lv_iload G.1 G.2.1 dL_law_1258 (lv_at hl 0 rfl) ?_
      refine lv_iconst (v := 4) G.1 G.2.1 dL_law_1260 (by decide) ?_
      refine lv_iadd G.1 G.2.1 dL_law_1261 ?_
      rw [show 0 + 4 = (4 : Int32) by decide]
      refine va_sld G.1 G.2.1 hX hbl hbA hw.2.2.2.1 (py_inr (by decide)) dL_law_1262 ?_
      refine py_calli hw (va_runV (As := [.int (xs (Int32.toNatClampNeg 1)), .int (xs (Int32.toNatClampNeg 2)), .int (xs (Int32.toNatClampNeg 3)), .int (xs (Int32.toNatClampNeg 4))]) (rest := []) G (c_X11_advice l E L f H.size qx (xs (Int32.toNatClampNeg 1)) (xs (Int32.toNatClampNeg 2)) (xs (Int32.toNatClampNeg 3)) (xs (Int32.toNatClampNeg 4)) hF) (cwV 4 G.2.2.2.2 g_L_law_X11_advice_156 rfl rfl rfl (by decide +kernel) ⟨(Nat.le_of_ble_eq_true rfl), (Nat.le_of_ble_eq_true rfl)⟩) (py_preV hw (C := RX11) (T := TX11) (N := 16) rfl hrowX) rfl rfl hl.1 rfl (lv_room (Nat.le_of_ble_eq_true rfl)) dL_law_1263 ⟨(Nat.le_of_ble_eq_true rfl), (Nat.le_of_ble_eq_true rfl)⟩) (fun r_374 L_370 f_371 H_372 locs hp_373 hw => ?_)
      obtain ⟨rfl, hmm⟩ := hp_373
      have hM := hmm _ hM
      obtain ⟨ysM, hrowM⟩ := fr_M_row hM
      refine lv_aload_n G.1 G.2.1 dL_law_1266 rfl (lv_at hl 2 rfl) ?_
      refine lv_aload_n G.1 G.2.1 dL_law_1267 rfl (lv_at hl 4 rfl) ?_
      refine lv_iload G.1 G.2.1 dL_law_1268 (lv_at hl 0 rfl) ?_
      refine lv_iconst (v := 1) G.1 G.2.1 dL_law_1270 (by decide) ?_
      refine lv_iadd G.1 G.2.1 dL_law_1271 ?_
      rw [show 0 + 1 = (1 : Int32) by decide]
      refine va_sld G.1 G.2.1 hX hbl hbA hw.2.2.2.1 (py_inr (by decide)) dL_law_1272 ?_
      refine lv_aload_n G.1 G.2.1 dL_law_1273 rfl (lv_at hl 4 rfl) ?_
      refine lv_iload G.1 G.2.1 dL_law_1274 (lv_at hl 0 rfl) ?_
      refine lv_iconst (v := 2) G.1 G.2.1 dL_law_1276 (by decide) ?_
      refine lv_iadd G.1 G.2.1 dL_law_1277 ?_
      rw [show 0 + 2 = (2 : Int32) by decide]
      refine va_sld G.1 G.2.1 hX hbl hbA hw.2.2.2.1 (py_inr (by decide)) dL_law_1278 ?_
      refine lv_aload_n G.1 G.2.1 dL_law_1279 rfl (lv_at hl 4 rfl) ?_
      refine lv_iload G.1 G.2.1 dL_law_1280 (lv_at hl 0 rfl) ?_
      refine lv_iconst (v := 3) G.1 G.2.1 dL_law_1282 (by decide) ?_
      refine lv_iadd G.1 G.2.1 dL_law_1283 ?_
      rw [show 0 + 3 = (3 : Int32) by decide]
      refine va_sld G.1 G.2.1 hX hbl hbA hw.2.2.2.1 (py_inr (by decide)) dL_law_1284 ?_
      refine lv_aload_n G.1 G.2.1 dL_law_1285 rfl (lv_at hl 4 rfl) ?_
      refine lv_iload G.1 G.2.1 dL_law_1286 (lv_at hl 0 rfl) ?_
      refine lv_iconst (v := 4) G.1 G.2.1 dL_law_1288 (by decide) ?_
      refine lv_iadd G.1 G.2.1 dL_law_1289 ?_
      rw [show 0 + 4 = (4 : Int32) by decide]
      refine va_sld G.1 G.2.1 hX hbl hbA hw.2.2.2.1 (py_inr (by decide)) dL_law_1290 ?_
      refine py_calli hw (va_runV (As := [.int (xs (Int32.toNatClampNeg 1)), .int (xs (Int32.toNatClampNeg 2)), .int (xs (Int32.toNatClampNeg 3)), .int (xs (Int32.toNatClampNeg 4))]) (rest := [.int (-1000000)]) G (c_X12_advice l E L_370 f_371 H_372.size qm (xs (Int32.toNatClampNeg 1)) (xs (Int32.toNatClampNeg 2)) (xs (Int32.toNatClampNeg 3)) (xs (Int32.toNatClampNeg 4)) hM) (cwV 4 G.2.2.2.2 g_L_law_X12_advice_159 rfl rfl rfl (by decide +kernel) ⟨(Nat.le_of_ble_eq_true rfl), (Nat.le_of_ble_eq_true rfl)⟩) (py_preV hw (C := RX12) (T := TX12) (N := 54) rfl hrowM) rfl rfl hl.1 rfl (lv_room (Nat.le_of_ble_eq_true rfl)) dL_law_1291 ⟨(Nat.le_of_ble_eq_true rfl), (Nat.le_of_ble_eq_true rfl)⟩) (fun r_379 L_375 f_376 H_377 locs hp_378 hw => ?_)
      obtain rfl := hp_378
      refine lv_icmp_eq (tgt := 1350) G.1 G.2.1 dL_law_1294 (by decide) (fun c_380 => ?_) (fun c_380 => ?_)
      · skip
        refine lv_iinc (v := 6) (lv' := [(4, .int 6), (3, .ref qo), (2, .ref qm), (1, .ref qx), (0, .ref b)]) G.1 G.2.1 dL_law_1350 hl (k := 0) rfl (by decide) (by decide) rfl (fun ls hl => ?_)
        refine lv_goto (tgt := 23) G.1 G.2.1 dL_law_1353 (by decide) ?_
        exact law_end (L := 6) C0 6 (by decide) _ _ hw.2.2.2.1 _ _ (Nat.le_of_ble_eq_true rfl) (Nat.le_of_ble_eq_true rfl) ls (lv_sub hl [4, 0] rfl)
      · skip
        exact absurd c_380 (by decide)
    · skip
      subst e_sw
      refine lv_tableIn (tgt := 1299) G.1 G.2.1 dL_law_40 (by decide) (by decide) rfl (by decide) ?_
      refine lv_aload_n G.1 G.2.1 dL_law_1299 rfl (lv_at hl 3 rfl) ?_
      refine py_calli hw (va_runV (As := []) (rest := []) G (c_X11_image l E L f H.size qx hF) (cwV 0 G.2.2.2.2 g_L_law_X11_image_160 rfl rfl rfl (by decide +kernel) ⟨(Nat.le_of_ble_eq_true rfl), (Nat.le_of_ble_eq_true rfl)⟩) (py_preV hw (C := RX11) (T := TX11) (N := 16) rfl hrowX) rfl rfl hl.1 rfl (lv_room (Nat.le_of_ble_eq_true rfl)) dL_law_1300 ⟨(Nat.le_of_ble_eq_true rfl), (Nat.le_of_ble_eq_true rfl)⟩) (fun r_385 L_381 f_382 H_383 locs hp_384 hw => ?_)
      obtain ⟨rfl, hmm⟩ := hp_384
      have hM := hmm _ hM
      obtain ⟨ysM, hrowM⟩ := fr_M_row hM
      refine lv_aload_n G.1 G.2.1 dL_law_1303 rfl (lv_at hl 2 rfl) ?_
      refine py_calli hw (va_runV (As := []) (rest := [.int (-1)]) G (c_X12_image l E L_381 f_382 H_383.size qm hM) (cwV 0 G.2.2.2.2 g_L_law_X12_image_163 rfl rfl rfl (by decide +kernel) ⟨(Nat.le_of_ble_eq_true rfl), (Nat.le_of_ble_eq_true rfl)⟩) (py_preV hw (C := RX12) (T := TX12) (N := 54) rfl hrowM) rfl rfl hl.1 rfl (lv_room (Nat.le_of_ble_eq_true rfl)) dL_law_1304 ⟨(Nat.le_of_ble_eq_true rfl), (Nat.le_of_ble_eq_true rfl)⟩) (fun r_390 L_386 f_387 H_388 locs hp_389 hw => ?_)
      obtain rfl := hp_389
      refine lv_icmp_eq (tgt := 1350) G.1 G.2.1 dL_law_1307 (by decide) (fun c_391 => ?_) (fun c_391 => ?_)
      · skip
        refine lv_iinc (v := 6) (lv' := [(4, .int 6), (3, .ref qo), (2, .ref qm), (1, .ref qx), (0, .ref b)]) G.1 G.2.1 dL_law_1350 hl (k := 0) rfl (by decide) (by decide) rfl (fun ls hl => ?_)
        refine lv_goto (tgt := 23) G.1 G.2.1 dL_law_1353 (by decide) ?_
        exact law_end (L := 6) C0 6 (by decide) _ _ hw.2.2.2.1 _ _ (Nat.le_of_ble_eq_true rfl) (Nat.le_of_ble_eq_true rfl) ls (lv_sub hl [4, 0] rfl)
      · skip
        exact absurd c_391 (by decide)
    · skip
      subst e_sw
      refine lv_tableIn (tgt := 1312) G.1 G.2.1 dL_law_40 (by decide) (by decide) rfl (by decide) ?_
      refine lv_aload_n G.1 G.2.1 dL_law_1312 rfl (lv_at hl 3 rfl) ?_
      refine py_calli hw (va_runV (As := []) (rest := []) G (c_X11_back l E L f H.size qx hF) (cwV 0 G.2.2.2.2 g_L_law_X11_back_164 rfl rfl rfl (by decide +kernel) ⟨(Nat.le_of_ble_eq_true rfl), (Nat.le_of_ble_eq_true rfl)⟩) (py_preV hw (C := RX11) (T := TX11) (N := 16) rfl hrowX) rfl rfl hl.1 rfl (lv_room (Nat.le_of_ble_eq_true rfl)) dL_law_1313 ⟨(Nat.le_of_ble_eq_true rfl), (Nat.le_of_ble_eq_true rfl)⟩) (fun r_396 L_392 f_393 H_394 locs hp_395 hw => ?_)
      obtain ⟨rfl, hmm⟩ := hp_395
      have hM := hmm _ hM
      obtain ⟨ysM, hrowM⟩ := fr_M_row hM
      refine lv_aload_n G.1 G.2.1 dL_law_1316 rfl (lv_at hl 2 rfl) ?_
      refine py_calli hw (va_runV (As := []) (rest := [.int (-1)]) G (c_X12_back l E L_392 f_393 H_394.size qm hM) (cwV 0 G.2.2.2.2 g_L_law_X12_back_167 rfl rfl rfl (by decide +kernel) ⟨(Nat.le_of_ble_eq_true rfl), (Nat.le_of_ble_eq_true rfl)⟩) (py_preV hw (C := RX12) (T := TX12) (N := 54) rfl hrowM) rfl rfl hl.1 rfl (lv_room (Nat.le_of_ble_eq_true rfl)) dL_law_1317 ⟨(Nat.le_of_ble_eq_true rfl), (Nat.le_of_ble_eq_true rfl)⟩) (fun r_401 L_397 f_398 H_399 locs hp_400 hw => ?_)
      obtain rfl := hp_400
      refine lv_icmp_eq (tgt := 1350) G.1 G.2.1 dL_law_1320 (by decide) (fun c_402 => ?_) (fun c_402 => ?_)
      · skip
        refine lv_iinc (v := 6) (lv' := [(4, .int 6), (3, .ref qo), (2, .ref qm), (1, .ref qx), (0, .ref b)]) G.1 G.2.1 dL_law_1350 hl (k := 0) rfl (by decide) (by decide) rfl (fun ls hl => ?_)
        refine lv_goto (tgt := 23) G.1 G.2.1 dL_law_1353 (by decide) ?_
        exact law_end (L := 6) C0 6 (by decide) _ _ hw.2.2.2.1 _ _ (Nat.le_of_ble_eq_true rfl) (Nat.le_of_ble_eq_true rfl) ls (lv_sub hl [4, 0] rfl)
      · skip
        exact absurd c_402 (by decide)
    · skip
      subst e_sw
      refine lv_tableIn (tgt := 1325) G.1 G.2.1 dL_law_40 (by decide) (by decide) rfl (by decide) ?_
      refine lv_aload_n G.1 G.2.1 dL_law_1325 rfl (lv_at hl 3 rfl) ?_
      refine lv_aload_n G.1 G.2.1 dL_law_1326 rfl (lv_at hl 4 rfl) ?_
      refine lv_iload G.1 G.2.1 dL_law_1327 (lv_at hl 0 rfl) ?_
      refine lv_iconst (v := 1) G.1 G.2.1 dL_law_1329 (by decide) ?_
      refine lv_iadd G.1 G.2.1 dL_law_1330 ?_
      rw [show 0 + 1 = (1 : Int32) by decide]
      refine va_sld G.1 G.2.1 hX hbl hbA hw.2.2.2.1 (py_inr (by decide)) dL_law_1331 ?_
      refine py_calli hw (va_runV (As := [.int (xs (Int32.toNatClampNeg 1))]) (rest := []) G (c_X11_count l E L f H.size qx (xs (Int32.toNatClampNeg 1)) hF) (cwV 1 G.2.2.2.2 g_L_law_X11_count_168 rfl rfl rfl (by decide +kernel) ⟨(Nat.le_of_ble_eq_true rfl), (Nat.le_of_ble_eq_true rfl)⟩) (py_preV hw (C := RX11) (T := TX11) (N := 16) rfl hrowX) rfl rfl hl.1 rfl (lv_room (Nat.le_of_ble_eq_true rfl)) dL_law_1332 ⟨(Nat.le_of_ble_eq_true rfl), (Nat.le_of_ble_eq_true rfl)⟩) (fun r_407 L_403 f_404 H_405 locs hp_406 hw => ?_)
      obtain ⟨rfl, hmm⟩ := hp_406
      have hM := hmm _ hM
      obtain ⟨ysM, hrowM⟩ := fr_M_row hM
      refine lv_aload_n G.1 G.2.1 dL_law_1335 rfl (lv_at hl 2 rfl) ?_
      refine lv_aload_n G.1 G.2.1 dL_law_1336 rfl (lv_at hl 4 rfl) ?_
      refine lv_iload G.1 G.2.1 dL_law_1337 (lv_at hl 0 rfl) ?_
      refine lv_iconst (v := 1) G.1 G.2.1 dL_law_1339 (by decide) ?_
      refine lv_iadd G.1 G.2.1 dL_law_1340 ?_
      rw [show 0 + 1 = (1 : Int32) by decide]
      refine va_sld G.1 G.2.1 hX hbl hbA hw.2.2.2.1 (py_inr (by decide)) dL_law_1341 ?_
      refine py_calli hw (va_runV (As := [.int (xs (Int32.toNatClampNeg 1))]) (rest := [.int (sp_count (xs (Int32.toNatClampNeg 1)))]) G (c_X12_count l E L_403 f_404 H_405.size qm (xs (Int32.toNatClampNeg 1)) hM) (cwV 1 G.2.2.2.2 g_L_law_X12_count_171 rfl rfl rfl (by decide +kernel) ⟨(Nat.le_of_ble_eq_true rfl), (Nat.le_of_ble_eq_true rfl)⟩) (py_preV hw (C := RX12) (T := TX12) (N := 54) rfl hrowM) rfl rfl hl.1 rfl (lv_room (Nat.le_of_ble_eq_true rfl)) dL_law_1342 ⟨(Nat.le_of_ble_eq_true rfl), (Nat.le_of_ble_eq_true rfl)⟩) (fun r_412 L_408 f_409 H_410 locs hp_411 hw => ?_)
      obtain rfl := hp_411
      refine lv_icmp_eq (tgt := 1350) G.1 G.2.1 dL_law_1345 (by decide) (fun c_413 => ?_) (fun c_413 => absurd rfl c_413)
      refine lv_iinc (v := 6) (lv' := [(4, .int 6), (3, .ref qo), (2, .ref qm), (1, .ref qx), (0, .ref b)]) G.1 G.2.1 dL_law_1350 hl (k := 0) rfl (by decide) (by decide) rfl (fun ls hl => ?_)
      refine lv_goto (tgt := 23) G.1 G.2.1 dL_law_1353 (by decide) ?_
      exact law_end (L := 6) C0 6 (by decide) _ _ hw.2.2.2.1 _ _ (Nat.le_of_ble_eq_true rfl) (Nat.le_of_ble_eq_true rfl) ls (lv_sub hl [4, 0] rfl)
    · skip
      refine lv_tableOut (tgt := 1350) G.1 G.2.1 dL_law_40 e_sw (by decide) ?_
      refine lv_iinc (v := 6) (lv' := [(4, .int 6), (3, .ref qo), (2, .ref qm), (1, .ref qx), (0, .ref b)]) G.1 G.2.1 dL_law_1350 hl (k := 0) rfl (by decide) (by decide) rfl (fun ls hl => ?_)
      refine lv_goto (tgt := 23) G.1 G.2.1 dL_law_1353 (by decide) ?_
      exact law_end (L := 6) C0 6 (by decide) _ _ hw.2.2.2.1 _ _ (Nat.le_of_ble_eq_true rfl) (Nat.le_of_ble_eq_true rfl) ls (lv_sub hl [4, 0] rfl)
