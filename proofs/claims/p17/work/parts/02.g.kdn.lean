-- decode rows by numbers: a method's bytes as one number (kd_nb), an instruction's bytes as a number (kd_wok): a row is one comparison of numbers (kd_rk)
def kd_lst : Nat → Nat → List UInt8
  | 0, _ => []
  | k + 1, n => UInt8.ofNat (n % 256) :: kd_lst k (n / 256)
theorem kd_lst_drop : ∀ (p k n : Nat), (kd_lst (p + k) n).drop p = kd_lst k (n / 256 ^ p) := by
  intro p
  induction p with
  | zero =>
    intro k n
    rw [Nat.zero_add, Nat.pow_zero, Nat.div_one]
    rfl
  | succ p ih =>
    intro k n
    rw [show p + 1 + k = (p + k) + 1 from by omega]
    show (kd_lst (p + k) (n / 256)).drop p = _
    rw [ih, Nat.div_div_eq_div_mul, Nat.pow_succ']
theorem kd_lst_take : ∀ (l k n : Nat), (kd_lst (l + k) n).take l = kd_lst l n := by
  intro l
  induction l with
  | zero =>
    intro k n
    rw [List.take_zero]
    rfl
  | succ l ih =>
    intro k n
    rw [show l + 1 + k = (l + k) + 1 from by omega]
    show UInt8.ofNat (n % 256) :: (kd_lst (l + k) (n / 256)).take l = _
    rw [ih]
    rfl
theorem kd_lst_mod : ∀ (l n : Nat), kd_lst l (n % 256 ^ l) = kd_lst l n := by
  intro l
  induction l with
  | zero => exact fun n => rfl
  | succ l ih =>
    intro n
    show UInt8.ofNat (n % 256 ^ (l + 1) % 256) :: kd_lst l (n % 256 ^ (l + 1) / 256) = UInt8.ofNat (n % 256) :: kd_lst l (n / 256)
    rw [Nat.pow_succ', Nat.mod_mul_right_mod, Nat.mod_mul_right_div_self, ih]
def kd_nb (c : ByteArray) (n len : Nat) : Bool := decide (c.data.toList = kd_lst len n)
def kd_wok (l x : Nat) (i : Instr) : Bool :=
  match kd_lst l x with
  | [] => false
  | b :: t => kd_easy b.toNat && decide (decode ⟨⟨b :: t⟩⟩ 0 = .ok (i, l))
def kd_rk (n len pc l x : Nat) : Bool := Nat.ble (Nat.add pc l) len && Nat.beq (Nat.mod (Nat.shiftRight n (Nat.mul 8 pc)) (Nat.pow 256 l)) x
theorem kd_wagn (c : ByteArray) (pc m : Nat) (T : List UInt8) (e : (c.data.toList.drop pc).take m = T) : kd_ag c ⟨⟨T⟩⟩ pc := by
  subst e
  obtain ⟨⟨L⟩⟩ := c
  intro i h
  have h1 : i < ((L.drop pc).take m).length := h
  have h2 : pc + i < L.length := by
    rw [List.length_take, List.length_drop] at h1
    omega
  refine ⟨h2, ?_⟩
  show L[pc + i] = ((L.drop pc).take m)[i]
  rw [List.getElem_take, List.getElem_drop]
theorem kd_r {c : ByteArray} {n len pc l x : Nat} {i : Instr} (hb : kd_nb c n len = true) (hi : kd_wok l x i = true) (hr0 : kd_rk n len pc l x = true) : decode c pc = .ok (i, l) := by
  have hb1 : c.data.toList = kd_lst len n := of_decide_eq_true hb
  unfold kd_rk at hr0
  rw [Bool.and_eq_true] at hr0
  obtain ⟨hle, hx⟩ := hr0
  have hle1 : pc + l ≤ len := Nat.le_of_ble_eq_true hle
  have hx0 : (n >>> (8 * pc)) % 256 ^ l = x := Nat.eq_of_beq_eq_true hx
  have hx1 : n / 256 ^ pc % 256 ^ l = x := by
    rw [Nat.shiftRight_eq_div_pow, Nat.pow_mul] at hx0
    exact hx0
  have hw : (c.data.toList.drop pc).take l = kd_lst l x := by
    obtain ⟨r, hr⟩ : ∃ r, len = pc + (l + r) := ⟨len - pc - l, by omega⟩
    rw [hb1, hr, kd_lst_drop, kd_lst_take, ← hx1, kd_lst_mod]
  unfold kd_wok at hi
  split at hi
  · cases hi
  · rename_i b t e
    rw [Bool.and_eq_true, decide_eq_true_eq] at hi
    obtain ⟨h1, h2⟩ := hi
    obtain ⟨M, hM, hL⟩ := kd_in pc
    have hW := kd_wagn c pc l _ (hw.trans e)
    have d : ∀ c pc, decode c pc = Except.bind (Reader.runAt (Decoder.instr pc) c pc) (fun p => Except.ok (p.1, p.2 - pc)) := fun _ _ => rfl
    rw [d, hM, kd_be] at h2
    rw [d, hM, kd_be]
    have hu : Reader.runAt (Reader.u1 : Decoder Nat) ⟨⟨b :: t⟩⟩ 0 = .ok (b.toNat, 1) := rfl
    have hv : Reader.runAt (Reader.u1 : Decoder Nat) c pc = .ok (b.toNat, pc + 1) := kd_u1 c _ pc 0 _ _ hW hu
    rw [hu] at h2
    rw [hv]
    cases hr : Reader.runAt (M 0 b.toNat) ⟨⟨b :: t⟩⟩ 1 with
    | error e =>
      have h3 : Except.bind (Reader.runAt (M 0 b.toNat) ⟨⟨b :: t⟩⟩ 1) (fun p => Except.ok (p.1, p.2 - 0)) = (.ok (i, l) : Except DecodeError (Instr × Nat)) := h2
      rw [hr] at h3
      have h4 : (Except.error e : Except DecodeError (Instr × Nat)) = .ok (i, l) := h3
      cases h4
    | ok p =>
      obtain ⟨y, z⟩ := p
      have h3 : Except.bind (Reader.runAt (M 0 b.toNat) ⟨⟨b :: t⟩⟩ 1) (fun p => Except.ok (p.1, p.2 - 0)) = (.ok (i, l) : Except DecodeError (Instr × Nat)) := h2
      rw [hr] at h3
      have h4 : (Except.ok (y, z - 0) : Except DecodeError (Instr × Nat)) = .ok (i, l) := h3
      have key := hL b.toNat h1 c _ pc 1 y z hW hr
      show Except.bind (Reader.runAt (M pc b.toNat) c (pc + 1)) (fun p => Except.ok (p.1, p.2 - pc)) = .ok (i, l)
      rw [key]
      have h5 : y = i ∧ z - 0 = l := by
        injection h4 with h6
        injection h6 with a b
        exact ⟨a, b⟩
      show (Except.ok (y, pc + z - pc) : Except DecodeError (Instr × Nat)) = .ok (i, l)
      rw [Nat.add_sub_cancel_left, ← h5.2, h5.1, Nat.sub_zero]
theorem ki_0 : kd_wok 1 42 (.aload_n 0) = true := by decide +kernel
theorem ki_1 : kd_wok 3 196791 (.invokespecial 3) = true := by decide +kernel
theorem ki_2 : kd_wok 2 1552 (.bipush 6) = true := by decide +kernel
theorem ki_3 : kd_wok 2 2748 (.newarray .int) = true := by decide +kernel
theorem ki_4 : kd_wok 3 590005 (.putfield 9) = true := by decide +kernel
theorem ki_5 : kd_wok 1 177 (.return_) = true := by decide +kernel
theorem ki_6 : kd_wok 3 983220 (.getfield 15) = true := by decide +kernel
theorem ki_7 : kd_wok 1 172 (.ireturn) = true := by decide +kernel
theorem ki_8 : kd_wok 1 27 (.iload_n 1) = true := by decide +kernel
theorem ki_9 : kd_wok 3 1245368 (.invokestatic 19) = true := by decide +kernel
theorem ki_10 : kd_wok 3 1769625 (.ifCond .eq 27) = true := by decide +kernel
theorem ki_11 : kd_wok 1 28 (.iload_n 2) = true := by decide +kernel
theorem ki_12 : kd_wok 3 1310873 (.ifCond .eq 20) = true := by decide +kernel
theorem ki_13 : kd_wok 3 590004 (.getfield 9) = true := by decide +kernel
theorem ki_14 : kd_wok 1 46 (.iaload) = true := by decide +kernel
theorem ki_15 : kd_wok 1 124 (.iushr) = true := by decide +kernel
theorem ki_16 : kd_wok 1 4 (.iconst 1) = true := by decide +kernel
theorem ki_17 : kd_wok 1 126 (.iand) = true := by decide +kernel
theorem ki_18 : kd_wok 3 458905 (.ifCond .eq 7) = true := by decide +kernel
theorem ki_19 : kd_wok 3 262311 (.goto 4) = true := by decide +kernel
theorem ki_20 : kd_wok 1 3 (.iconst 0) = true := by decide +kernel
theorem ki_21 : kd_wok 3 2687129 (.ifCond .eq 41) = true := by decide +kernel
theorem ki_22 : kd_wok 3 2228377 (.ifCond .eq 34) = true := by decide +kernel
theorem ki_23 : kd_wok 3 1507510 (.invokevirtual 23) = true := by decide +kernel
theorem ki_24 : kd_wok 3 1638554 (.ifCond .ne 25) = true := by decide +kernel
theorem ki_25 : kd_wok 1 92 (.dup2) = true := by decide +kernel
theorem ki_26 : kd_wok 1 120 (.ishl) = true := by decide +kernel
theorem ki_27 : kd_wok 1 128 (.ior) = true := by decide +kernel
theorem ki_28 : kd_wok 1 79 (.iastore) = true := by decide +kernel
theorem ki_29 : kd_wok 1 89 (.dup) = true := by decide +kernel
theorem ki_30 : kd_wok 1 96 (.iadd) = true := by decide +kernel
theorem ki_31 : kd_wok 3 983221 (.putfield 15) = true := by decide +kernel
theorem ki_32 : kd_wok 1 61 (.istore_n 2) = true := by decide +kernel
theorem ki_33 : kd_wok 1 190 (.arraylength) = true := by decide +kernel
theorem ki_34 : kd_wok 3 1966242 (.if_icmp .ge 30) = true := by decide +kernel
theorem ki_35 : kd_wok 3 1048729 (.ifCond .eq 16) = true := by decide +kernel
theorem ki_36 : kd_wok 3 327834 (.ifCond .ne 5) = true := by decide +kernel
theorem ki_37 : kd_wok 3 66180 (.iinc 2 1) = true := by decide +kernel
theorem ki_38 : kd_wok 3 14679975 (.goto (-33)) = true := by decide +kernel
theorem ki_39 : kd_wok 2 65040 (.bipush (-2)) = true := by decide +kernel
theorem ki_40 : kd_wok 1 26 (.iload_n 0) = true := by decide +kernel
theorem ki_41 : kd_wok 3 852123 (.ifCond .lt 13) = true := by decide +kernel
theorem ki_42 : kd_wok 3 458914 (.if_icmp .ge 7) = true := by decide +kernel
theorem ki_43 : kd_wok 3 65719 (.invokespecial 1) = true := by decide +kernel
theorem ki_44 : kd_wok 2 10256 (.bipush 40) = true := by decide +kernel
theorem ki_45 : kd_wok 3 852149 (.putfield 13) = true := by decide +kernel
theorem ki_46 : kd_wok 3 1048757 (.putfield 16) = true := by decide +kernel
theorem ki_47 : kd_wok 3 1245365 (.putfield 19) = true := by decide +kernel
theorem ki_48 : kd_wok 3 1441972 (.getfield 22) = true := by decide +kernel
theorem ki_49 : kd_wok 3 1704116 (.getfield 26) = true := by decide +kernel
theorem ki_50 : kd_wok 1 100 (.isub) = true := by decide +kernel
theorem ki_51 : kd_wok 3 458913 (.if_icmp .lt 7) = true := by decide +kernel
theorem ki_52 : kd_wok 3 1900726 (.invokevirtual 29) = true := by decide +kernel
theorem ki_53 : kd_wok 3 852148 (.getfield 13) = true := by decide +kernel
theorem ki_54 : kd_wok 3 1048756 (.getfield 16) = true := by decide +kernel
theorem ki_55 : kd_wok 1 29 (.iload_n 3) = true := by decide +kernel
theorem ki_56 : kd_wok 3 1245364 (.getfield 19) = true := by decide +kernel
theorem ki_57 : kd_wok 2 1045 (.iload 4) = true := by decide +kernel
theorem ki_58 : kd_wok 3 1441973 (.putfield 22) = true := by decide +kernel
theorem ki_59 : kd_wok 3 1704117 (.putfield 26) = true := by decide +kernel
theorem ki_60 : kd_wok 1 60 (.istore_n 1) = true := by decide +kernel
theorem ki_61 : kd_wok 3 4260002 (.if_icmp .ge 65) = true := by decide +kernel
theorem ki_62 : kd_wok 3 65924 (.iinc 1 1) = true := by decide +kernel
theorem ki_63 : kd_wok 3 12582823 (.goto (-65)) = true := by decide +kernel
theorem ki_64 : kd_wok 2 10000 (.bipush 39) = true := by decide +kernel
theorem ki_65 : kd_wok 3 852126 (.ifCond .le 13) = true := by decide +kernel
theorem ki_66 : kd_wok 3 852130 (.if_icmp .ge 13) = true := by decide +kernel
theorem ki_67 : kd_wok 3 2097334 (.invokevirtual 32) = true := by decide +kernel
theorem ki_68 : kd_wok 3 1507486 (.ifCond .le 23) = true := by decide +kernel
theorem ki_69 : kd_wok 1 43 (.aload_n 1) = true := by decide +kernel
theorem ki_70 : kd_wok 3 917667 (.if_icmp .gt 14) = true := by decide +kernel
theorem ki_71 : kd_wok 2 2576 (.bipush 10) = true := by decide +kernel
theorem ki_72 : kd_wok 3 721077 (.putfield 11) = true := by decide +kernel
theorem ki_73 : kd_wok 3 1179829 (.putfield 18) = true := by decide +kernel
theorem ki_74 : kd_wok 2 2064 (.bipush 8) = true := by decide +kernel
theorem ki_75 : kd_wok 3 1376437 (.putfield 21) = true := by decide +kernel
theorem ki_76 : kd_wok 3 1573045 (.putfield 24) = true := by decide +kernel
theorem ki_77 : kd_wok 2 6416 (.bipush 25) = true := by decide +kernel
theorem ki_78 : kd_wok 3 1900725 (.putfield 29) = true := by decide +kernel
theorem ki_79 : kd_wok 1 8 (.iconst 5) = true := by decide +kernel
theorem ki_80 : kd_wok 3 2097333 (.putfield 32) = true := by decide +kernel
theorem ki_81 : kd_wok 3 2293941 (.putfield 35) = true := by decide +kernel
theorem ki_82 : kd_wok 3 2490549 (.putfield 38) = true := by decide +kernel
theorem ki_83 : kd_wok 3 2687156 (.getfield 41) = true := by decide +kernel
theorem ki_84 : kd_wok 3 2949302 (.invokevirtual 45) = true := by decide +kernel
theorem ki_85 : kd_wok 3 2818202 (.ifCond .ne 43) = true := by decide +kernel
theorem ki_86 : kd_wok 3 721076 (.getfield 11) = true := by decide +kernel
theorem ki_87 : kd_wok 3 1179828 (.getfield 18) = true := by decide +kernel
theorem ki_88 : kd_wok 3 2687157 (.putfield 41) = true := by decide +kernel
theorem ki_89 : kd_wok 3 2031778 (.if_icmp .ge 31) = true := by decide +kernel
theorem ki_90 : kd_wok 3 852127 (.if_icmp .eq 13) = true := by decide +kernel
theorem ki_91 : kd_wok 3 327840 (.if_icmp .ne 5) = true := by decide +kernel
theorem ki_92 : kd_wok 3 3211445 (.putfield 49) = true := by decide +kernel
theorem ki_93 : kd_wok 3 2490530 (.if_icmp .ge 38) = true := by decide +kernel
theorem ki_94 : kd_wok 3 1376436 (.getfield 21) = true := by decide +kernel
theorem ki_95 : kd_wok 3 3408054 (.invokevirtual 52) = true := by decide +kernel
theorem ki_96 : kd_wok 3 1114265 (.ifCond .eq 17) = true := by decide +kernel
theorem ki_97 : kd_wok 3 3211444 (.getfield 49) = true := by decide +kernel
theorem ki_98 : kd_wok 1 90 (.dup_x1) = true := by decide +kernel
theorem ki_99 : kd_wok 1 2 (.iconst (-1)) = true := by decide +kernel
theorem ki_100 : kd_wok 3 14352295 (.goto (-38)) = true := by decide +kernel
theorem ki_101 : kd_wok 3 3670198 (.invokevirtual 56) = true := by decide +kernel
theorem ki_102 : kd_wok 3 3997880 (.invokestatic 61) = true := by decide +kernel
theorem ki_103 : kd_wok 3 4391093 (.putfield 67) = true := by decide +kernel
theorem ki_104 : kd_wok 3 4587701 (.putfield 70) = true := by decide +kernel
theorem ki_105 : kd_wok 3 721057 (.if_icmp .lt 11) = true := by decide +kernel
theorem ki_106 : kd_wok 3 327844 (.if_icmp .le 5) = true := by decide +kernel
theorem ki_107 : kd_wok 3 4784310 (.invokevirtual 73) = true := by decide +kernel
theorem ki_108 : kd_wok 1 62 (.istore_n 3) = true := by decide +kernel
theorem ki_109 : kd_wok 3 5177506 (.if_icmp .ge 79) = true := by decide +kernel
theorem ki_110 : kd_wok 3 1704096 (.if_icmp .ne 26) = true := by decide +kernel
theorem ki_111 : kd_wok 3 5046454 (.invokevirtual 77) = true := by decide +kernel
theorem ki_112 : kd_wok 3 5308598 (.invokevirtual 81) = true := by decide +kernel
theorem ki_113 : kd_wok 3 2621607 (.goto 40) = true := by decide +kernel
theorem ki_114 : kd_wok 1 104 (.imul) = true := by decide +kernel
theorem ki_115 : kd_wok 3 5570742 (.invokevirtual 85) = true := by decide +kernel
theorem ki_116 : kd_wok 3 66436 (.iinc 3 1) = true := by decide +kernel
theorem ki_117 : kd_wok 3 11534247 (.goto (-81)) = true := by decide +kernel
theorem ki_118 : kd_wok 3 5832886 (.invokevirtual 89) = true := by decide +kernel
theorem ki_119 : kd_wok 3 4587700 (.getfield 70) = true := by decide +kernel
theorem ki_120 : kd_wok 3 2490548 (.getfield 38) = true := by decide +kernel
theorem ki_121 : kd_wok 3 6095032 (.invokestatic 93) = true := by decide +kernel
theorem ki_122 : kd_wok 3 786585 (.ifCond .eq 12) = true := by decide +kernel
theorem ki_123 : kd_wok 3 786587 (.ifCond .lt 12) = true := by decide +kernel
theorem ki_124 : kd_wok 1 10 (.lconst 1) = true := by decide +kernel
theorem ki_125 : kd_wok 3 4391092 (.getfield 67) = true := by decide +kernel
theorem ki_126 : kd_wok 1 121 (.lshl) = true := by decide +kernel
theorem ki_127 : kd_wok 1 101 (.lsub) = true := by decide +kernel
theorem ki_128 : kd_wok 1 65 (.lstore_n 2) = true := by decide +kernel
theorem ki_129 : kd_wok 2 1078 (.istore 4) = true := by decide +kernel
theorem ki_130 : kd_wok 3 3997858 (.if_icmp .ge 61) = true := by decide +kernel
theorem ki_131 : kd_wok 3 1573044 (.getfield 24) = true := by decide +kernel
theorem ki_132 : kd_wok 3 6291638 (.invokevirtual 96) = true := by decide +kernel
theorem ki_133 : kd_wok 2 1334 (.istore 5) = true := by decide +kernel
theorem ki_134 : kd_wok 2 1301 (.iload 5) = true := by decide +kernel
theorem ki_135 : kd_wok 3 1900724 (.getfield 29) = true := by decide +kernel
theorem ki_136 : kd_wok 3 1900706 (.if_icmp .ge 29) = true := by decide +kernel
theorem ki_137 : kd_wok 1 50 (.aaload) = true := by decide +kernel
theorem ki_138 : kd_wok 1 32 (.lload_n 2) = true := by decide +kernel
theorem ki_139 : kd_wok 3 6488084 (.ldc2_w 99) = true := by decide +kernel
theorem ki_140 : kd_wok 1 131 (.lxor) = true := by decide +kernel
theorem ki_141 : kd_wok 1 127 (.land) = true := by decide +kernel
theorem ki_142 : kd_wok 1 80 (.lastore) = true := by decide +kernel
theorem ki_143 : kd_wok 3 66948 (.iinc 5 1) = true := by decide +kernel
theorem ki_144 : kd_wok 3 66692 (.iinc 4 1) = true := by decide +kernel
theorem ki_145 : kd_wok 3 12648359 (.goto (-64)) = true := by decide +kernel
theorem ki_146 : kd_wok 3 1245346 (.if_icmp .ge 19) = true := by decide +kernel
theorem ki_147 : kd_wok 3 2097332 (.getfield 32) = true := by decide +kernel
theorem ki_148 : kd_wok 3 15597479 (.goto (-19)) = true := by decide +kernel
theorem ki_149 : kd_wok 1 47 (.laload) = true := by decide +kernel
theorem ki_150 : kd_wok 2 1338 (.astore 5) = true := by decide +kernel
theorem ki_151 : kd_wok 2 1594 (.astore 6) = true := by decide +kernel
theorem ki_152 : kd_wok 2 1846 (.istore 7) = true := by decide +kernel
theorem ki_153 : kd_wok 2 1813 (.iload 7) = true := by decide +kernel
theorem ki_154 : kd_wok 3 5505186 (.if_icmp .ge 84) = true := by decide +kernel
theorem ki_155 : kd_wok 2 2102 (.istore 8) = true := by decide +kernel
theorem ki_156 : kd_wok 2 2069 (.iload 8) = true := by decide +kernel
theorem ki_157 : kd_wok 3 4325538 (.if_icmp .ge 66) = true := by decide +kernel
theorem ki_158 : kd_wok 3 6619320 (.invokestatic 101) = true := by decide +kernel
theorem ki_159 : kd_wok 3 2293924 (.if_icmp .le 35) = true := by decide +kernel
theorem ki_160 : kd_wok 2 1305 (.aload 5) = true := by decide +kernel
theorem ki_161 : kd_wok 2 1561 (.aload 6) = true := by decide +kernel
theorem ki_162 : kd_wok 3 67716 (.iinc 8 1) = true := by decide +kernel
theorem ki_163 : kd_wok 3 12320679 (.goto (-69)) = true := by decide +kernel
theorem ki_164 : kd_wok 3 67460 (.iinc 7 1) = true := by decide +kernel
theorem ki_165 : kd_wok 3 11141031 (.goto (-87)) = true := by decide +kernel
theorem ki_166 : kd_wok 3 589985 (.if_icmp .lt 9) = true := by decide +kernel
theorem ki_167 : kd_wok 3 6815926 (.invokevirtual 104) = true := by decide +kernel
theorem ki_168 : kd_wok 3 3801250 (.if_icmp .ge 58) = true := by decide +kernel
theorem ki_169 : kd_wok 2 27410 (.ldc 107) = true := by decide +kernel
theorem ki_170 : kd_wok 3 3211426 (.if_icmp .ge 49) = true := by decide +kernel
theorem ki_171 : kd_wok 1 125 (.lushr) = true := by decide +kernel
theorem ki_172 : kd_wok 1 9 (.lconst 0) = true := by decide +kernel
theorem ki_173 : kd_wok 1 148 (.lcmp) = true := by decide +kernel
theorem ki_174 : kd_wok 3 1704089 (.ifCond .eq 26) = true := by decide +kernel
theorem ki_175 : kd_wok 3 7078070 (.invokevirtual 108) = true := by decide +kernel
theorem ki_176 : kd_wok 3 2293940 (.getfield 35) = true := by decide +kernel
theorem ki_177 : kd_wok 3 12910503 (.goto (-60)) = true := by decide +kernel
theorem ki_178 : kd_wok 3 3473570 (.if_icmp .ge 53) = true := by decide +kernel
theorem ki_179 : kd_wok 2 1079 (.lstore 4) = true := by decide +kernel
theorem ki_180 : kd_wok 2 1046 (.lload 4) = true := by decide +kernel
theorem ki_181 : kd_wok 3 13238183 (.goto (-55)) = true := by decide +kernel
theorem ki_182 : kd_wok 3 262298 (.ifCond .ne 4) = true := by decide +kernel
theorem ki_183 : kd_wok 3 1769626 (.ifCond .ne 27) = true := by decide +kernel
theorem ki_184 : kd_wok 3 7340216 (.invokestatic 112) = true := by decide +kernel
theorem ki_185 : kd_wok 3 7733432 (.invokestatic 118) = true := by decide +kernel
theorem ki_186 : kd_wok 3 8126648 (.invokestatic 124) = true := by decide +kernel
theorem ki_187 : kd_wok 2 10512 (.bipush 41) = true := by decide +kernel
theorem ki_188 : kd_wok 3 15205137 (.sipush 1000) = true := by decide +kernel
theorem ki_189 : kd_wok 3 852129 (.if_icmp .lt 13) = true := by decide +kernel
theorem ki_190 : kd_wok 2 6162 (.ldc 24) = true := by decide +kernel
theorem ki_191 : kd_wok 3 458915 (.if_icmp .gt 7) = true := by decide +kernel
theorem ki_192 : kd_wok 3 1638582 (.invokevirtual 25) = true := by decide +kernel
theorem ki_193 : kd_wok 3 327841 (.if_icmp .lt 5) = true := by decide +kernel
theorem ki_194 : kd_wok 3 1179803 (.ifCond .lt 18) = true := by decide +kernel
theorem ki_195 : kd_wok 3 2031798 (.invokevirtual 31) = true := by decide +kernel
theorem ki_196 : kd_wok 3 16713092 (.iinc 5 (-1)) = true := by decide +kernel
theorem ki_197 : kd_wok 3 15728551 (.goto (-17)) = true := by decide +kernel
theorem ki_198 : kd_wok 2 8978 (.ldc 35) = true := by decide +kernel
theorem ki_199 : kd_wok 2 1590 (.istore 6) = true := by decide +kernel
theorem ki_200 : kd_wok 2 1557 (.iload 6) = true := by decide +kernel
theorem ki_201 : kd_wok 3 5111971 (.if_icmp .gt 78) = true := by decide +kernel
theorem ki_202 : kd_wok 3 4391075 (.if_icmp .gt 67) = true := by decide +kernel
theorem ki_203 : kd_wok 3 2359478 (.invokevirtual 36) = true := by decide +kernel
theorem ki_204 : kd_wok 3 2359459 (.if_icmp .gt 36) = true := by decide +kernel
theorem ki_205 : kd_wok 3 2621624 (.invokestatic 40) = true := by decide +kernel
theorem ki_206 : kd_wok 3 786595 (.if_icmp .gt 12) = true := by decide +kernel
theorem ki_207 : kd_wok 3 14417831 (.goto (-37)) = true := by decide +kernel
theorem ki_208 : kd_wok 3 67204 (.iinc 6 1) = true := by decide +kernel
theorem ki_209 : kd_wok 3 11665319 (.goto (-79)) = true := by decide +kernel
theorem ki_210 : kd_wok 3 983202 (.if_icmp .ge 15) = true := by decide +kernel
theorem ki_211 : kd_wok 3 262305 (.if_icmp .lt 4) = true := by decide +kernel
theorem ki_212 : kd_wok 3 1638561 (.if_icmp .lt 25) = true := by decide +kernel
theorem ki_213 : kd_wok 3 2883744 (.if_icmp .ne 44) = true := by decide +kernel
theorem ki_214 : kd_wok 3 2162850 (.if_icmp .ge 33) = true := by decide +kernel
theorem ki_215 : kd_wok 3 3604642 (.if_icmp .ge 55) = true := by decide +kernel
theorem ki_216 : kd_wok 3 13172647 (.goto (-56)) = true := by decide +kernel
theorem ki_217 : kd_wok 3 8388625 (.sipush 128) = true := by decide +kernel
theorem ki_218 : kd_wok 3 983218 (.getstatic 15) = true := by decide +kernel
theorem ki_219 : kd_wok 2 16400 (.bipush 64) = true := by decide +kernel
theorem ki_220 : kd_wok 3 1310882 (.if_icmp .ge 20) = true := by decide +kernel
theorem ki_221 : kd_wok 1 52 (.caload) = true := by decide +kernel
theorem ki_222 : kd_wok 3 15400871 (.goto (-22)) = true := by decide +kernel
theorem ki_223 : kd_wok 3 1638581 (.putfield 25) = true := by decide +kernel
theorem ki_224 : kd_wok 3 1638580 (.getfield 25) = true := by decide +kernel
theorem ki_225 : kd_wok 1 108 (.idiv) = true := by decide +kernel
theorem ki_226 : kd_wok 3 1376418 (.if_icmp .ge 21) = true := by decide +kernel
theorem ki_227 : kd_wok 1 112 (.irem) = true := by decide +kernel
theorem ki_228 : kd_wok 2 25616 (.bipush 100) = true := by decide +kernel
theorem ki_229 : kd_wok 3 2228406 (.invokevirtual 34) = true := by decide +kernel
theorem ki_230 : kd_wok 3 15204263 (.goto (-25)) = true := by decide +kernel
theorem ki_231 : kd_wok 3 4849826 (.if_icmp .ge 74) = true := by decide +kernel
theorem ki_232 : kd_wok 3 2490550 (.invokevirtual 38) = true := by decide +kernel
theorem ki_233 : kd_wok 3 4391070 (.ifCond .le 67) = true := by decide +kernel
theorem ki_234 : kd_wok 3 2687160 (.invokestatic 41) = true := by decide +kernel
theorem ki_235 : kd_wok 3 3211446 (.invokevirtual 49) = true := by decide +kernel
theorem ki_236 : kd_wok 3 3408056 (.invokestatic 52) = true := by decide +kernel
theorem ki_237 : kd_wok 3 11992999 (.goto (-74)) = true := by decide +kernel
theorem ki_238 : kd_wok 3 1245351 (.goto 19) = true := by decide +kernel
theorem ki_239 : kd_wok 3 3932342 (.invokevirtual 60) = true := by decide +kernel
theorem ki_240 : kd_wok 3 721063 (.goto 11) = true := by decide +kernel
theorem ki_241 : kd_wok 3 4128950 (.invokevirtual 63) = true := by decide +kernel
theorem ki_242 : kd_wok 3 196775 (.goto 3) = true := by decide +kernel
theorem ki_243 : kd_wok 3 4325558 (.invokevirtual 66) = true := by decide +kernel
theorem ki_244 : kd_wok 1 5 (.iconst 2) = true := by decide +kernel
theorem ki_245 : kd_wok 3 4522166 (.invokevirtual 69) = true := by decide +kernel
theorem ki_246 : kd_wok 1 6 (.iconst 3) = true := by decide +kernel
theorem ki_247 : kd_wok 1 7 (.iconst 4) = true := by decide +kernel
theorem ki_248 : kd_wok 3 4784312 (.invokestatic 73) = true := by decide +kernel
theorem ki_249 : kd_wok 2 1808 (.bipush 7) = true := by decide +kernel
theorem ki_250 : kd_wok 3 4980917 (.putfield 76) = true := by decide +kernel
theorem ki_251 : kd_wok 3 4784290 (.if_icmp .ge 73) = true := by decide +kernel
theorem ki_252 : kd_wok 3 1179801 (.ifCond .eq 18) = true := by decide +kernel
theorem ki_253 : kd_wok 2 15120 (.bipush 59) = true := by decide +kernel
theorem ki_254 : kd_wok 3 458911 (.if_icmp .eq 7) = true := by decide +kernel
theorem ki_255 : kd_wok 3 2687143 (.goto 41) = true := by decide +kernel
theorem ki_256 : kd_wok 3 524448 (.if_icmp .ne 8) = true := by decide +kernel
theorem ki_257 : kd_wok 3 5177526 (.invokevirtual 79) = true := by decide +kernel
theorem ki_258 : kd_wok 2 16144 (.bipush 63) = true := by decide +kernel
theorem ki_259 : kd_wok 3 1245344 (.if_icmp .ne 19) = true := by decide +kernel
theorem ki_260 : kd_wok 3 458906 (.ifCond .ne 7) = true := by decide +kernel
theorem ki_261 : kd_wok 3 524455 (.goto 8) = true := by decide +kernel
theorem ki_262 : kd_wok 3 5374134 (.invokevirtual 82) = true := by decide +kernel
theorem ki_263 : kd_wok 3 11927463 (.goto (-75)) = true := by decide +kernel
theorem ki_264 : kd_wok 3 273 (.sipush 256) = true := by decide +kernel
theorem ki_265 : kd_wok 3 983201 (.if_icmp .lt 15) = true := by decide +kernel
theorem ki_266 : kd_wok 3 6095015 (.goto 93) = true := by decide +kernel
theorem ki_267 : kd_wok 3 1638555 (.ifCond .lt 25) = true := by decide +kernel
theorem ki_268 : kd_wok 3 1048738 (.if_icmp .ge 16) = true := by decide +kernel
theorem ki_269 : kd_wok 3 4391079 (.goto 67) = true := by decide +kernel
theorem ki_270 : kd_wok 2 8464 (.bipush 33) = true := by decide +kernel
theorem ki_271 : kd_wok 3 1638560 (.if_icmp .ne 25) = true := by decide +kernel
theorem ki_272 : kd_wok 3 5767352 (.invokestatic 88) = true := by decide +kernel
theorem ki_273 : kd_wok 3 2556071 (.goto 39) = true := by decide +kernel
theorem ki_274 : kd_wok 2 32272 (.bipush 126) = true := by decide +kernel
theorem ki_275 : kd_wok 3 983200 (.if_icmp .ne 15) = true := by decide +kernel
theorem ki_276 : kd_wok 1 116 (.ineg) = true := by decide +kernel
theorem ki_277 : kd_wok 3 1376423 (.goto 21) = true := by decide +kernel
theorem ki_278 : kd_wok 3 6029496 (.invokestatic 92) = true := by decide +kernel
theorem ki_279 : kd_wok 3 721049 (.ifCond .eq 11) = true := by decide +kernel
theorem ki_280 : kd_wok 3 458912 (.if_icmp .ne 7) = true := by decide +kernel
theorem ki_281 : kd_wok 3 458916 (.if_icmp .le 7) = true := by decide +kernel
theorem ki_282 : kd_wok 3 393383 (.goto 6) = true := by decide +kernel
theorem ki_283 : kd_wok 3 4980916 (.getfield 76) = true := by decide +kernel
theorem ki_284 : kd_wok 3 1441950 (.ifCond .le 22) = true := by decide +kernel
theorem ki_285 : kd_wok 2 12816 (.bipush 50) = true := by decide +kernel
theorem ki_286 : kd_wok 2 6160 (.bipush 24) = true := by decide +kernel
theorem ki_287 : kd_wok 3 1179832 (.invokestatic 18) = true := by decide +kernel
theorem ki_288 : kd_wok 3 1441945 (.ifCond .eq 22) = true := by decide +kernel
theorem ki_289 : kd_wok 3 1441970 (.getstatic 22) = true := by decide +kernel
theorem ki_290 : kd_wok 3 14942119 (.goto (-29)) = true := by decide +kernel
theorem ki_291 : kd_wok 3 983195 (.ifCond .lt 15) = true := by decide +kernel
theorem ki_292 : kd_wok 3 393369 (.ifCond .eq 6) = true := by decide +kernel
theorem ki_293 : kd_wok 2 64784 (.bipush (-3)) = true := by decide +kernel
theorem ki_294 : kd_wok 3 2162870 (.invokevirtual 33) = true := by decide +kernel
theorem ki_295 : kd_wok 3 2359476 (.getfield 36) = true := by decide +kernel
theorem ki_296 : kd_wok 3 1704091 (.ifCond .lt 26) = true := by decide +kernel
theorem ki_297 : kd_wok 3 1179810 (.if_icmp .ge 18) = true := by decide +kernel
theorem ki_298 : kd_wok 3 786594 (.if_icmp .ge 12) = true := by decide +kernel
theorem ki_299 : kd_wok 3 2359477 (.putfield 36) = true := by decide +kernel
theorem ki_300 : kd_wok 3 524443 (.ifCond .lt 8) = true := by decide +kernel
theorem ki_301 : kd_wok 3 2556086 (.invokevirtual 39) = true := by decide +kernel
theorem ki_302 : kd_wok 3 1966233 (.ifCond .eq 30) = true := by decide +kernel
theorem ki_303 : kd_wok 3 2818226 (.getstatic 43) = true := by decide +kernel
theorem ki_304 : kd_wok 3 1114266 (.ifCond .ne 17) = true := by decide +kernel
theorem ki_305 : kd_wok 3 14286759 (.goto (-39)) = true := by decide +kernel
theorem ki_306 : kd_wok 3 655513 (.ifCond .eq 10) = true := by decide +kernel
theorem ki_307 : kd_wok 3 917666 (.if_icmp .ge 14) = true := by decide +kernel
theorem ki_308 : kd_wok 3 1245338 (.ifCond .ne 19) = true := by decide +kernel
theorem ki_309 : kd_wok 3 3014838 (.invokevirtual 46) = true := by decide +kernel
theorem ki_310 : kd_wok 3 1179815 (.goto 18) = true := by decide +kernel
theorem ki_311 : kd_wok 3 3276982 (.invokevirtual 50) = true := by decide +kernel
theorem ki_312 : kd_wok 3 3473590 (.invokevirtual 53) = true := by decide +kernel
theorem ki_313 : kd_wok 1 130 (.ixor) = true := by decide +kernel
theorem ki_314 : kd_wok 3 1507509 (.putfield 23) = true := by decide +kernel
theorem ki_315 : kd_wok 3 1704118 (.invokevirtual 26) = true := by decide +kernel
theorem ki_316 : kd_wok 3 2228386 (.if_icmp .ge 34) = true := by decide +kernel
theorem ki_317 : kd_wok 3 1835170 (.if_icmp .ge 28) = true := by decide +kernel
theorem ki_318 : kd_wok 3 14483367 (.goto (-36)) = true := by decide +kernel
theorem ki_319 : kd_wok 3 2621621 (.putfield 40) = true := by decide +kernel
theorem ki_320 : kd_wok 3 2949283 (.if_icmp .gt 45) = true := by decide +kernel
theorem ki_321 : kd_wok 3 2883766 (.invokevirtual 44) = true := by decide +kernel
theorem ki_322 : kd_wok 3 2621620 (.getfield 40) = true := by decide +kernel
theorem ki_323 : kd_wok 3 524450 (.if_icmp .ge 8) = true := by decide +kernel
theorem ki_324 : kd_wok 3 13959079 (.goto (-44)) = true := by decide +kernel
theorem ki_325 : kd_wok 3 3145910 (.invokevirtual 48) = true := by decide +kernel
theorem ki_326 : kd_wok 3 1376411 (.ifCond .lt 21) = true := by decide +kernel
theorem ki_327 : kd_wok 3 1507508 (.getfield 23) = true := by decide +kernel
theorem ki_328 : kd_wok 3 6029475 (.if_icmp .gt 92) = true := by decide +kernel
theorem ki_329 : kd_wok 3 3604662 (.invokevirtual 55) = true := by decide +kernel
theorem ki_330 : kd_wok 3 1769634 (.if_icmp .ge 27) = true := by decide +kernel
theorem ki_331 : kd_wok 3 3801272 (.invokestatic 58) = true := by decide +kernel
theorem ki_332 : kd_wok 3 15007655 (.goto (-28)) = true := by decide +kernel
theorem ki_333 : kd_wok 3 10616743 (.goto (-95)) = true := by decide +kernel
theorem ki_334 : kd_wok 3 4128952 (.invokestatic 63) = true := by decide +kernel
theorem ki_335 : kd_wok 3 2293918 (.ifCond .le 35) = true := by decide +kernel
theorem ki_336 : kd_wok 3 1507492 (.if_icmp .le 23) = true := by decide +kernel
theorem ki_337 : kd_wok 3 16712580 (.iinc 3 (-1)) = true := by decide +kernel
theorem ki_338 : kd_wok 3 6553763 (.if_icmp .gt 100) = true := by decide +kernel
theorem ki_339 : kd_wok 2 17170 (.ldc 67) = true := by decide +kernel
theorem ki_340 : kd_wok 3 1835168 (.if_icmp .ne 28) = true := by decide +kernel
theorem ki_341 : kd_wok 3 917665 (.if_icmp .lt 14) = true := by decide +kernel
theorem ki_342 : kd_wok 3 327847 (.goto 5) = true := by decide +kernel
theorem ki_343 : kd_wok 3 3276967 (.goto 50) = true := by decide +kernel
theorem ki_344 : kd_wok 3 2424995 (.if_icmp .gt 37) = true := by decide +kernel
theorem ki_345 : kd_wok 3 10354599 (.goto (-99)) = true := by decide +kernel
theorem ki_346 : kd_wok 3 5701794 (.if_icmp .ge 87) = true := by decide +kernel
theorem ki_347 : kd_wok 3 2818210 (.if_icmp .ge 43) = true := by decide +kernel
theorem ki_348 : kd_wok 3 589983 (.if_icmp .eq 9) = true := by decide +kernel
theorem ki_349 : kd_wok 3 13893543 (.goto (-45)) = true := by decide +kernel
theorem ki_350 : kd_wok 3 11009959 (.goto (-89)) = true := by decide +kernel
theorem ki_351 : kd_wok 3 4849937 (.sipush 330) = true := by decide +kernel
theorem ki_352 : kd_wok 3 786593 (.if_icmp .lt 12) = true := by decide +kernel
theorem ki_353 : kd_wok 3 2556067 (.if_icmp .gt 39) = true := by decide +kernel
theorem ki_354 : kd_wok 3 1245366 (.invokevirtual 19) = true := by decide +kernel
theorem ki_355 : kd_wok 3 14155687 (.goto (-41)) = true := by decide +kernel
theorem ki_356 : kd_wok 3 655518 (.ifCond .le 10) = true := by decide +kernel
theorem ki_357 : kd_wok 3 327837 (.ifCond .gt 5) = true := by decide +kernel
theorem ki_358 : kd_wok 3 1638562 (.if_icmp .ge 25) = true := by decide +kernel
theorem ki_359 : kd_wok 3 1638584 (.invokestatic 25) = true := by decide +kernel
theorem ki_360 : kd_wok 3 589986 (.if_icmp .ge 9) = true := by decide +kernel
theorem ki_361 : kd_wok 3 655527 (.goto 10) = true := by decide +kernel
theorem ki_362 : kd_wok 3 1900728 (.invokestatic 29) = true := by decide +kernel
theorem ki_363 : kd_wok 2 8722 (.ldc 34) = true := by decide +kernel
theorem ki_364 : kd_wok 3 1966243 (.if_icmp .gt 30) = true := by decide +kernel
theorem ki_365 : kd_wok 3 2293942 (.invokevirtual 35) = true := by decide +kernel
theorem ki_366 : kd_wok 3 589987 (.if_icmp .gt 9) = true := by decide +kernel
theorem ki_367 : kd_wok 3 14745511 (.goto (-32)) = true := by decide +kernel
theorem ki_368 : kd_wok 3 2752694 (.invokevirtual 42) = true := by decide +kernel
theorem ki_369 : kd_wok 2 2358 (.istore 9) = true := by decide +kernel
theorem ki_370 : kd_wok 2 2325 (.iload 9) = true := by decide +kernel
theorem ki_371 : kd_wok 3 4915362 (.if_icmp .ge 75) = true := by decide +kernel
theorem ki_372 : kd_wok 2 2614 (.istore 10) = true := by decide +kernel
theorem ki_373 : kd_wok 2 2581 (.iload 10) = true := by decide +kernel
theorem ki_374 : kd_wok 3 2556066 (.if_icmp .ge 39) = true := by decide +kernel
theorem ki_375 : kd_wok 3 2949304 (.invokestatic 45) = true := by decide +kernel
theorem ki_376 : kd_wok 3 3145912 (.invokestatic 48) = true := by decide +kernel
theorem ki_377 : kd_wok 3 68228 (.iinc 10 1) = true := by decide +kernel
theorem ki_378 : kd_wok 3 14090151 (.goto (-42)) = true := by decide +kernel
theorem ki_379 : kd_wok 3 393379 (.if_icmp .gt 6) = true := by decide +kernel
theorem ki_380 : kd_wok 3 67972 (.iinc 9 1) = true := by decide +kernel
theorem ki_381 : kd_wok 3 11861927 (.goto (-76)) = true := by decide +kernel
theorem ki_382 : kd_wok 3 458908 (.ifCond .ge 7) = true := by decide +kernel
theorem ki_383 : kd_wok 3 983207 (.goto 15) = true := by decide +kernel
theorem ki_384 : kd_wok 2 15376 (.bipush 60) = true := by decide +kernel
theorem ki_385 : kd_wok 2 3004 (.newarray .long) = true := by decide +kernel
theorem ki_386 : kd_wok 3 15794087 (.goto (-16)) = true := by decide +kernel
theorem ki_387 : kd_wok 2 62736 (.bipush (-11)) = true := by decide +kernel
theorem ki_388 : kd_wok 3 393370 (.ifCond .ne 6) = true := by decide +kernel
theorem ki_389 : kd_wok 2 62480 (.bipush (-12)) = true := by decide +kernel
theorem ki_390 : kd_wok 2 62224 (.bipush (-13)) = true := by decide +kernel
theorem ki_391 : kd_wok 3 1900699 (.ifCond .lt 29) = true := by decide +kernel
theorem ki_392 : kd_wok 3 1114275 (.if_icmp .gt 17) = true := by decide +kernel
theorem ki_393 : kd_wok 1 173 (.lreturn) = true := by decide +kernel
theorem ki_394 : kd_wok 3 917657 (.ifCond .eq 14) = true := by decide +kernel
theorem ki_395 : kd_wok 3 2425014 (.invokevirtual 37) = true := by decide +kernel
theorem ki_396 : kd_wok 1 31 (.lload_n 1) = true := by decide +kernel
theorem ki_397 : kd_wok 1 136 (.l2i) = true := by decide +kernel
theorem ki_398 : kd_wok 1 145 (.i2b) = true := by decide +kernel
theorem ki_399 : kd_wok 1 133 (.i2l) = true := by decide +kernel
theorem ki_400 : kd_wok 1 147 (.i2s) = true := by decide +kernel
theorem ki_401 : kd_wok 3 1835161 (.ifCond .eq 28) = true := by decide +kernel
theorem ki_402 : kd_wok 3 1179811 (.if_icmp .gt 18) = true := by decide +kernel
theorem ki_403 : kd_wok 3 1376410 (.ifCond .ne 21) = true := by decide +kernel
theorem ki_404 : kd_wok 3 15139601 (.sipush 999) = true := by decide +kernel
theorem ki_405 : kd_wok 3 1310880 (.if_icmp .ne 20) = true := by decide +kernel
theorem ki_406 : kd_wok 3 917659 (.ifCond .lt 14) = true := by decide +kernel
theorem ki_407 : kd_wok 3 983194 (.ifCond .ne 15) = true := by decide +kernel
theorem ki_408 : kd_wok 3 1573031 (.goto 24) = true := by decide +kernel
theorem ki_409 : kd_wok 3 1310887 (.goto 20) = true := by decide +kernel
theorem ki_410 : kd_wok 2 40208 (.bipush (-99)) = true := by decide +kernel
theorem ki_411 : kd_wok 2 25360 (.bipush 99) = true := by decide +kernel
theorem ki_412 : kd_wok 3 2162841 (.ifCond .eq 33) = true := by decide +kernel
theorem ki_413 : kd_wok 3 852121 (.ifCond .eq 13) = true := by decide +kernel
theorem ki_414 : kd_wok 3 655514 (.ifCond .ne 10) = true := by decide +kernel
theorem ki_415 : kd_wok 3 655520 (.if_icmp .ne 10) = true := by decide +kernel
theorem ki_416 : kd_wok 3 458919 (.goto 7) = true := by decide +kernel
theorem ki_417 : kd_wok 1 176 (.areturn) = true := by decide +kernel
theorem ki_418 : kd_wok 3 1704098 (.if_icmp .ge 26) = true := by decide +kernel
theorem ki_419 : kd_wok 3 2687158 (.invokevirtual 41) = true := by decide +kernel
theorem ki_420 : kd_wok 3 15073191 (.goto (-27)) = true := by decide +kernel
theorem ki_421 : kd_wok 3 15335335 (.goto (-23)) = true := by decide +kernel
theorem ki_422 : kd_wok 3 1376409 (.ifCond .eq 21) = true := by decide +kernel
theorem ki_423 : kd_wok 3 5177507 (.if_icmp .gt 79) = true := by decide +kernel
theorem ki_424 : kd_wok 3 1114274 (.if_icmp .ge 17) = true := by decide +kernel
theorem ki_425 : kd_wok 3 393380 (.if_icmp .le 6) = true := by decide +kernel
theorem ki_426 : kd_wok 3 1507489 (.if_icmp .lt 23) = true := by decide +kernel
theorem ki_427 : kd_wok 3 852132 (.if_icmp .le 13) = true := by decide +kernel
theorem ki_428 : kd_wok 3 11468711 (.goto (-82)) = true := by decide +kernel
theorem ki_429 : kd_wok 3 1704099 (.if_icmp .gt 26) = true := by decide +kernel
theorem ki_430 : kd_wok 3 327842 (.if_icmp .ge 5) = true := by decide +kernel
theorem ki_431 : kd_wok 3 3735734 (.invokevirtual 57) = true := by decide +kernel
theorem ki_432 : kd_wok 3 1573017 (.ifCond .eq 24) = true := by decide +kernel
theorem ki_433 : kd_wok 3 2490532 (.if_icmp .le 38) = true := by decide +kernel
theorem ki_434 : kd_wok 3 4194486 (.invokevirtual 64) = true := by decide +kernel
theorem ki_435 : kd_wok 3 2031770 (.ifCond .ne 31) = true := by decide +kernel
theorem ki_436 : kd_wok 3 4456630 (.invokevirtual 68) = true := by decide +kernel
theorem ki_437 : kd_wok 3 1376414 (.ifCond .le 21) = true := by decide +kernel
theorem ki_438 : kd_wok 3 4718774 (.invokevirtual 72) = true := by decide +kernel
theorem ki_439 : kd_wok 3 4915384 (.invokestatic 75) = true := by decide +kernel
theorem ki_440 : kd_wok 3 721051 (.ifCond .lt 11) = true := by decide +kernel
theorem ki_441 : kd_wok 3 262308 (.if_icmp .le 4) = true := by decide +kernel
theorem ki_442 : kd_wok 3 3735716 (.if_icmp .le 57) = true := by decide +kernel
theorem ki_443 : kd_wok 3 13107111 (.goto (-57)) = true := by decide +kernel
theorem ki_444 : kd_wok 3 3342498 (.if_icmp .ge 51) = true := by decide +kernel
theorem ki_445 : kd_wok 3 13369255 (.goto (-53)) = true := by decide +kernel
theorem ki_446 : kd_wok 2 30736 (.bipush 120) = true := by decide +kernel
theorem ki_447 : kd_wok 3 2883746 (.if_icmp .ge 44) = true := by decide +kernel
theorem ki_448 : kd_wok 3 2293922 (.if_icmp .ge 35) = true := by decide +kernel
theorem ki_449 : kd_wok 3 16711697 (.sipush 255) = true := by decide +kernel
theorem ki_450 : kd_wok 3 14024615 (.goto (-43)) = true := by decide +kernel
theorem ki_451 : kd_wok 3 1114293 (.putfield 17) = true := by decide +kernel
theorem ki_452 : kd_wok 3 1310901 (.putfield 20) = true := by decide +kernel
theorem ki_453 : kd_wok 3 1310900 (.getfield 20) = true := by decide +kernel
theorem ki_454 : kd_wok 3 1573046 (.invokevirtual 24) = true := by decide +kernel
theorem ki_455 : kd_wok 3 3604643 (.if_icmp .gt 55) = true := by decide +kernel
theorem ki_456 : kd_wok 3 524442 (.ifCond .ne 8) = true := by decide +kernel
theorem ki_457 : kd_wok 3 1114292 (.getfield 17) = true := by decide +kernel
theorem ki_458 : kd_wok 3 524447 (.if_icmp .eq 8) = true := by decide +kernel
theorem ki_459 : kd_wok 3 2162848 (.if_icmp .ne 33) = true := by decide +kernel
theorem ki_460 : kd_wok 3 3211448 (.invokestatic 49) = true := by decide +kernel
theorem ki_461 : kd_wok 3 3539097 (.ifCond .eq 54) = true := by decide +kernel
theorem ki_462 : kd_wok 2 31760 (.bipush 124) = true := by decide +kernel
theorem ki_463 : kd_wok 2 9744 (.bipush 38) = true := by decide +kernel
theorem ki_464 : kd_wok 3 983199 (.if_icmp .eq 15) = true := by decide +kernel
theorem ki_465 : kd_wok 2 15632 (.bipush 61) = true := by decide +kernel
theorem ki_466 : kd_wok 2 15888 (.bipush 62) = true := by decide +kernel
theorem ki_467 : kd_wok 2 11024 (.bipush 43) = true := by decide +kernel
theorem ki_468 : kd_wok 2 11536 (.bipush 45) = true := by decide +kernel
theorem ki_469 : kd_wok 2 10768 (.bipush 42) = true := by decide +kernel
theorem ki_470 : kd_wok 2 12048 (.bipush 47) = true := by decide +kernel
theorem ki_471 : kd_wok 2 9488 (.bipush 37) = true := by decide +kernel
theorem ki_472 : kd_wok 3 589977 (.ifCond .eq 9) = true := by decide +kernel
theorem ki_473 : kd_wok 3 1507483 (.ifCond .lt 23) = true := by decide +kernel
theorem ki_474 : kd_wok 3 1114271 (.if_icmp .eq 17) = true := by decide +kernel
theorem ki_475 : kd_wok 3 721055 (.if_icmp .eq 11) = true := by decide +kernel
theorem ki_476 : kd_wok 3 327839 (.if_icmp .eq 5) = true := by decide +kernel
theorem ki_477 : kd_wok 3 852128 (.if_icmp .ne 13) = true := by decide +kernel
theorem ki_478 : kd_wok 3 4063414 (.invokevirtual 62) = true := by decide +kernel
theorem ki_479 : kd_wok 3 4260022 (.invokevirtual 65) = true := by decide +kernel
theorem ki_480 : kd_wok 3 2752674 (.if_icmp .ge 42) = true := by decide +kernel
theorem ki_481 : kd_wok 3 2097305 (.ifCond .eq 32) = true := by decide +kernel
theorem ki_482 : kd_wok 2 12304 (.bipush 48) = true := by decide +kernel
theorem ki_483 : kd_wok 2 14608 (.bipush 57) = true := by decide +kernel
theorem ki_484 : kd_wok 3 590013 (.anewarray 9) = true := by decide +kernel
theorem ki_485 : kd_wok 3 590011 (.new 9) = true := by decide +kernel
theorem ki_486 : kd_wok 3 983223 (.invokespecial 15) = true := by decide +kernel
theorem ki_487 : kd_wok 3 1310907 (.new 20) = true := by decide +kernel
theorem ki_488 : kd_wok 3 1441975 (.invokespecial 22) = true := by decide +kernel
theorem ki_489 : kd_wok 3 1769659 (.new 27) = true := by decide +kernel
theorem ki_490 : kd_wok 3 1900727 (.invokespecial 29) = true := by decide +kernel
theorem ki_491 : kd_wok 3 1966261 (.putfield 30) = true := by decide +kernel
theorem ki_492 : kd_wok 3 2228411 (.new 34) = true := by decide +kernel
theorem ki_493 : kd_wok 3 2359479 (.invokespecial 36) = true := by decide +kernel
theorem ki_494 : kd_wok 3 2425013 (.putfield 37) = true := by decide +kernel
theorem ki_495 : kd_wok 3 2687163 (.new 41) = true := by decide +kernel
theorem ki_496 : kd_wok 3 2818231 (.invokespecial 43) = true := by decide +kernel
theorem ki_497 : kd_wok 3 2883765 (.putfield 44) = true := by decide +kernel
theorem ki_498 : kd_wok 3 3145915 (.new 48) = true := by decide +kernel
theorem ki_499 : kd_wok 3 3276983 (.invokespecial 50) = true := by decide +kernel
theorem ki_500 : kd_wok 3 3342517 (.putfield 51) = true := by decide +kernel
theorem ki_501 : kd_wok 3 3604667 (.new 55) = true := by decide +kernel
theorem ki_502 : kd_wok 3 3735735 (.invokespecial 57) = true := by decide +kernel
theorem ki_503 : kd_wok 3 3801269 (.putfield 58) = true := by decide +kernel
theorem ki_504 : kd_wok 3 4063419 (.new 62) = true := by decide +kernel
theorem ki_505 : kd_wok 3 4194487 (.invokespecial 64) = true := by decide +kernel
theorem ki_506 : kd_wok 3 4260021 (.putfield 65) = true := by decide +kernel
theorem ki_507 : kd_wok 3 4522173 (.anewarray 69) = true := by decide +kernel
theorem ki_508 : kd_wok 3 4653237 (.putfield 71) = true := by decide +kernel
theorem ki_509 : kd_wok 3 4915387 (.new 75) = true := by decide +kernel
theorem ki_510 : kd_wok 3 5046455 (.invokespecial 77) = true := by decide +kernel
theorem ki_511 : kd_wok 3 5111989 (.putfield 78) = true := by decide +kernel
theorem ki_512 : kd_wok 3 5374141 (.anewarray 82) = true := by decide +kernel
theorem ki_513 : kd_wok 3 5505205 (.putfield 84) = true := by decide +kernel
theorem ki_514 : kd_wok 3 1441954 (.if_icmp .ge 22) = true := by decide +kernel
theorem ki_515 : kd_wok 1 83 (.aastore) = true := by decide +kernel
theorem ki_516 : kd_wok 3 4653236 (.getfield 71) = true := by decide +kernel
theorem ki_517 : kd_wok 3 4522171 (.new 69) = true := by decide +kernel
theorem ki_518 : kd_wok 3 5767351 (.invokespecial 88) = true := by decide +kernel
theorem ki_519 : kd_wok 3 5505204 (.getfield 84) = true := by decide +kernel
theorem ki_520 : kd_wok 3 5374139 (.new 82) = true := by decide +kernel
theorem ki_521 : kd_wok 3 5832887 (.invokespecial 89) = true := by decide +kernel
theorem ki_522 : kd_wok 3 5898420 (.getfield 90) = true := by decide +kernel
theorem ki_523 : kd_wok 3 5898421 (.putfield 90) = true := by decide +kernel
theorem ki_524 : kd_wok 3 6160566 (.invokevirtual 94) = true := by decide +kernel
theorem ki_525 : kd_wok 2 1082 (.astore 4) = true := by decide +kernel
theorem ki_526 : kd_wok 2 1049 (.aload 4) = true := by decide +kernel
theorem ki_527 : kd_wok 3 458950 (.ifnull 7) = true := by decide +kernel
theorem ki_528 : kd_wok 3 327836 (.ifCond .ge 5) = true := by decide +kernel
theorem ki_529 : kd_wok 3 6422710 (.invokevirtual 98) = true := by decide +kernel
theorem ki_530 : kd_wok 3 6684854 (.invokevirtual 102) = true := by decide +kernel
theorem ki_531 : kd_wok 3 6946998 (.invokevirtual 106) = true := by decide +kernel
theorem ki_532 : kd_wok 3 7209142 (.invokevirtual 110) = true := by decide +kernel
theorem ki_533 : kd_wok 3 7471286 (.invokevirtual 114) = true := by decide +kernel
theorem ki_534 : kd_wok 3 1376454 (.ifnull 21) = true := by decide +kernel
theorem ki_535 : kd_wok 3 1048774 (.ifnull 16) = true := by decide +kernel
theorem ki_536 : kd_wok 3 655521 (.if_icmp .lt 10) = true := by decide +kernel
theorem ki_537 : kd_wok 2 5136 (.bipush 20) = true := by decide +kernel
theorem ki_538 : kd_wok 3 7733430 (.invokevirtual 118) = true := by decide +kernel
theorem ki_539 : kd_wok 3 327833 (.ifCond .eq 5) = true := by decide +kernel
theorem ki_540 : kd_wok 3 7930038 (.invokevirtual 121) = true := by decide +kernel
theorem ki_541 : kd_wok 3 15138727 (.goto (-26)) = true := by decide +kernel
theorem ki_542 : kd_wok 1 1 (.aconst_null) = true := by decide +kernel
theorem ki_543 : kd_wok 3 2228422 (.ifnull 34) = true := by decide +kernel
theorem ki_544 : kd_wok 3 8388790 (.invokevirtual 128) = true := by decide +kernel
theorem ki_545 : kd_wok 3 1310875 (.ifCond .lt 20) = true := by decide +kernel
theorem ki_546 : kd_wok 3 983203 (.if_icmp .gt 15) = true := by decide +kernel
theorem ki_547 : kd_wok 3 8650934 (.invokevirtual 132) = true := by decide +kernel
theorem ki_548 : kd_wok 2 34578 (.ldc 135) = true := by decide +kernel
theorem ki_549 : kd_wok 3 8913078 (.invokevirtual 136) = true := by decide +kernel
theorem ki_550 : kd_wok 3 1573023 (.if_icmp .eq 24) = true := by decide +kernel
theorem ki_551 : kd_wok 3 9175222 (.invokevirtual 140) = true := by decide +kernel
theorem ki_552 : kd_wok 3 9371830 (.invokevirtual 143) = true := by decide +kernel
theorem ki_553 : kd_wok 1 78 (.astore_n 3) = true := by decide +kernel
theorem ki_554 : kd_wok 1 45 (.aload_n 3) = true := by decide +kernel
theorem ki_555 : kd_wok 3 393372 (.ifCond .ge 6) = true := by decide +kernel
theorem ki_556 : kd_wok 3 2293923 (.if_icmp .gt 35) = true := by decide +kernel
theorem ki_557 : kd_wok 3 1507495 (.goto 23) = true := by decide +kernel
theorem ki_558 : kd_wok 3 917664 (.if_icmp .ne 14) = true := by decide +kernel
theorem ki_559 : kd_wok 3 9633974 (.invokevirtual 147) = true := by decide +kernel
theorem ki_560 : kd_wok 3 9896118 (.invokevirtual 151) = true := by decide +kernel
theorem ki_561 : kd_wok 3 1245345 (.if_icmp .lt 19) = true := by decide +kernel
theorem ki_562 : kd_wok 3 15991057 (.sipush 500) = true := by decide +kernel
theorem ki_563 : kd_wok 3 9437457 (.sipush 400) = true := by decide +kernel
theorem ki_564 : kd_wok 3 2359494 (.ifnull 36) = true := by decide +kernel
theorem ki_565 : kd_wok 3 10092726 (.invokevirtual 154) = true := by decide +kernel
theorem ki_566 : kd_wok 3 10289336 (.invokestatic 157) = true := by decide +kernel
theorem ki_567 : kd_wok 3 10485944 (.invokestatic 160) = true := by decide +kernel
theorem ki_568 : kd_wok 3 1966260 (.getfield 30) = true := by decide +kernel
theorem ki_569 : kd_wok 3 10682550 (.invokevirtual 163) = true := by decide +kernel
theorem ki_570 : kd_wok 3 10944694 (.invokevirtual 167) = true := by decide +kernel
theorem ki_571 : kd_wok 3 1966278 (.ifnull 30) = true := by decide +kernel
theorem ki_572 : kd_wok 3 589979 (.ifCond .lt 9) = true := by decide +kernel
theorem ki_573 : kd_wok 3 11141302 (.invokevirtual 170) = true := by decide +kernel
theorem ki_574 : kd_wok 3 852135 (.goto 13) = true := by decide +kernel
theorem ki_575 : kd_wok 3 1704134 (.ifnull 26) = true := by decide +kernel
theorem ki_576 : kd_wok 3 11337910 (.invokevirtual 173) = true := by decide +kernel
theorem ki_577 : kd_wok 3 1245382 (.ifnull 19) = true := by decide +kernel
theorem ki_578 : kd_wok 3 11600056 (.invokestatic 177) = true := by decide +kernel
theorem ki_579 : kd_wok 3 2425012 (.getfield 37) = true := by decide +kernel
theorem ki_580 : kd_wok 3 11796662 (.invokevirtual 180) = true := by decide +kernel
theorem ki_581 : kd_wok 3 852122 (.ifCond .ne 13) = true := by decide +kernel
theorem ki_582 : kd_wok 3 12058806 (.invokevirtual 184) = true := by decide +kernel
theorem ki_583 : kd_wok 3 1966247 (.goto 30) = true := by decide +kernel
theorem ki_584 : kd_wok 3 12255414 (.invokevirtual 187) = true := by decide +kernel
theorem ki_585 : kd_wok 3 12452022 (.invokevirtual 190) = true := by decide +kernel
theorem ki_586 : kd_wok 3 1638598 (.ifnull 25) = true := by decide +kernel
theorem ki_587 : kd_wok 3 993041 (.sipush 9999) = true := by decide +kernel
theorem ki_588 : kd_wok 3 524449 (.if_icmp .lt 8) = true := by decide +kernel
theorem ki_589 : kd_wok 3 393378 (.if_icmp .ge 6) = true := by decide +kernel
theorem ki_590 : kd_wok 3 2883764 (.getfield 44) = true := by decide +kernel
theorem ki_591 : kd_wok 3 12648630 (.invokevirtual 193) = true := by decide +kernel
theorem ki_592 : kd_wok 3 1769628 (.ifCond .ge 27) = true := by decide +kernel
theorem ki_593 : kd_wok 3 12845238 (.invokevirtual 196) = true := by decide +kernel
theorem ki_594 : kd_wok 3 13041846 (.invokevirtual 199) = true := by decide +kernel
theorem ki_595 : kd_wok 3 13238454 (.invokevirtual 202) = true := by decide +kernel
theorem ki_596 : kd_wok 3 2359451 (.ifCond .lt 36) = true := by decide +kernel
theorem ki_597 : kd_wok 3 3342516 (.getfield 51) = true := by decide +kernel
theorem ki_598 : kd_wok 3 13303990 (.invokevirtual 203) = true := by decide +kernel
theorem ki_599 : kd_wok 3 13566134 (.invokevirtual 207) = true := by decide +kernel
theorem ki_600 : kd_wok 3 3670178 (.if_icmp .ge 56) = true := by decide +kernel
theorem ki_601 : kd_wok 3 13697206 (.invokevirtual 209) = true := by decide +kernel
theorem ki_602 : kd_wok 3 1179804 (.ifCond .ge 18) = true := by decide +kernel
theorem ki_603 : kd_wok 3 13893816 (.invokestatic 212) = true := by decide +kernel
theorem ki_604 : kd_wok 3 393376 (.if_icmp .ne 6) = true := by decide +kernel
theorem ki_605 : kd_wok 3 13041575 (.goto (-58)) = true := by decide +kernel
theorem ki_606 : kd_wok 3 786630 (.ifnull 12) = true := by decide +kernel
theorem ki_607 : kd_wok 3 14221494 (.invokevirtual 217) = true := by decide +kernel
theorem ki_608 : kd_wok 3 721050 (.ifCond .ne 11) = true := by decide +kernel
theorem ki_609 : kd_wok 3 1638567 (.goto 25) = true := by decide +kernel
theorem ki_610 : kd_wok 3 14418102 (.invokevirtual 220) = true := by decide +kernel
theorem ki_611 : kd_wok 3 14614710 (.invokevirtual 223) = true := by decide +kernel
theorem ki_612 : kd_wok 1 77 (.astore_n 2) = true := by decide +kernel
theorem ki_613 : kd_wok 1 44 (.aload_n 2) = true := by decide +kernel
theorem ki_614 : kd_wok 3 458951 (.ifnonnull 7) = true := by decide +kernel
theorem ki_615 : kd_wok 3 14811318 (.invokevirtual 226) = true := by decide +kernel
theorem ki_616 : kd_wok 3 721094 (.ifnull 11) = true := by decide +kernel
theorem ki_617 : kd_wok 3 1179806 (.ifCond .le 18) = true := by decide +kernel
theorem ki_618 : kd_wok 3 2293915 (.ifCond .lt 35) = true := by decide +kernel
theorem ki_619 : kd_wok 3 15007928 (.invokestatic 229) = true := by decide +kernel
theorem ki_620 : kd_wok 3 917663 (.if_icmp .eq 14) = true := by decide +kernel
theorem ki_621 : kd_wok 3 655515 (.ifCond .lt 10) = true := by decide +kernel
theorem ki_622 : kd_wok 3 3801268 (.getfield 58) = true := by decide +kernel
theorem ki_623 : kd_wok 3 15204534 (.invokevirtual 232) = true := by decide +kernel
theorem ki_624 : kd_wok 3 524441 (.ifCond .eq 8) = true := by decide +kernel
theorem ki_625 : kd_wok 3 917671 (.goto 14) = true := by decide +kernel
theorem ki_626 : kd_wok 3 15270070 (.invokevirtual 233) = true := by decide +kernel
theorem ki_627 : kd_wok 3 15532214 (.invokevirtual 237) = true := by decide +kernel
theorem ki_628 : kd_wok 3 2162886 (.ifnull 33) = true := by decide +kernel
theorem ki_629 : kd_wok 3 1507491 (.if_icmp .gt 23) = true := by decide +kernel
theorem ki_630 : kd_wok 3 1179809 (.if_icmp .lt 18) = true := by decide +kernel
theorem ki_631 : kd_wok 3 1048731 (.ifCond .lt 16) = true := by decide +kernel
theorem ki_632 : kd_wok 3 15728822 (.invokevirtual 240) = true := by decide +kernel
theorem ki_633 : kd_wok 3 15925430 (.invokevirtual 243) = true := by decide +kernel
theorem ki_634 : kd_wok 2 64528 (.bipush (-4)) = true := by decide +kernel
theorem ki_635 : kd_wok 2 64272 (.bipush (-5)) = true := by decide +kernel
theorem ki_636 : kd_wok 3 16122038 (.invokevirtual 246) = true := by decide +kernel
theorem ki_637 : kd_wok 3 524444 (.ifCond .ge 8) = true := by decide +kernel
theorem ki_638 : kd_wok 3 16384182 (.invokevirtual 250) = true := by decide +kernel
theorem ki_639 : kd_wok 3 4260020 (.getfield 65) = true := by decide +kernel
theorem ki_640 : kd_wok 3 16580790 (.invokevirtual 253) = true := by decide +kernel
theorem ki_641 : kd_wok 3 983193 (.ifCond .eq 15) = true := by decide +kernel
theorem ki_642 : kd_wok 3 438 (.invokevirtual 256) = true := by decide +kernel
theorem ki_643 : kd_wok 3 197044 (.getfield 259) = true := by decide +kernel
theorem ki_644 : kd_wok 3 393377 (.if_icmp .lt 6) = true := by decide +kernel
theorem ki_645 : kd_wok 3 393654 (.invokevirtual 262) = true := by decide +kernel
theorem ki_646 : kd_wok 3 655798 (.invokevirtual 266) = true := by decide +kernel
theorem ki_647 : kd_wok 3 1114272 (.if_icmp .ne 17) = true := by decide +kernel
theorem ki_648 : kd_wok 3 197045 (.putfield 259) = true := by decide +kernel
theorem ki_649 : kd_wok 2 39952 (.bipush (-100)) = true := by decide +kernel
theorem ki_650 : kd_wok 3 786870 (.invokevirtual 268) = true := by decide +kernel
theorem ki_651 : kd_wok 3 1049016 (.invokestatic 272) = true := by decide +kernel
theorem ki_652 : kd_wok 3 1245622 (.invokevirtual 275) = true := by decide +kernel
theorem ki_653 : kd_wok 3 2621638 (.ifnull 40) = true := by decide +kernel
theorem ki_654 : kd_wok 3 1114273 (.if_icmp .lt 17) = true := by decide +kernel
theorem ki_655 : kd_wok 3 327879 (.ifnonnull 5) = true := by decide +kernel
theorem ki_656 : kd_wok 3 917660 (.ifCond .ge 14) = true := by decide +kernel
theorem ki_657 : kd_wok 3 1507766 (.invokevirtual 279) = true := by decide +kernel
theorem ki_658 : kd_wok 3 1114279 (.goto 17) = true := by decide +kernel
theorem ki_659 : kd_wok 3 1769910 (.invokevirtual 283) = true := by decide +kernel
theorem ki_660 : kd_wok 3 1179846 (.ifnull 18) = true := by decide +kernel
theorem ki_661 : kd_wok 3 917702 (.ifnull 14) = true := by decide +kernel
theorem ki_662 : kd_wok 3 2032054 (.invokevirtual 287) = true := by decide +kernel
theorem ki_663 : kd_wok 3 2228662 (.invokevirtual 290) = true := by decide +kernel
theorem ki_664 : kd_wok 3 2425270 (.invokevirtual 293) = true := by decide +kernel
theorem ki_665 : kd_wok 1 76 (.astore_n 1) = true := by decide +kernel
theorem ki_666 : kd_wok 3 2031814 (.ifnull 31) = true := by decide +kernel
theorem ki_667 : kd_wok 3 2621878 (.invokevirtual 296) = true := by decide +kernel
theorem ki_668 : kd_wok 3 2818486 (.invokevirtual 299) = true := by decide +kernel
theorem ki_669 : kd_wok 3 3015094 (.invokevirtual 302) = true := by decide +kernel
theorem ki_670 : kd_wok 3 3211702 (.invokevirtual 305) = true := by decide +kernel
theorem ki_671 : kd_wok 3 3408310 (.invokevirtual 308) = true := by decide +kernel
theorem ki_672 : kd_wok 3 3604918 (.invokevirtual 311) = true := by decide +kernel
theorem ki_673 : kd_wok 3 3801528 (.invokestatic 314) = true := by decide +kernel
theorem ki_674 : kd_wok 3 5111988 (.getfield 78) = true := by decide +kernel
theorem ki_675 : kd_wok 3 3998134 (.invokevirtual 317) = true := by decide +kernel
theorem ki_676 : kd_wok 3 4063670 (.invokevirtual 318) = true := by decide +kernel
theorem ki_677 : kd_wok 3 4194742 (.invokevirtual 320) = true := by decide +kernel
theorem ki_678 : kd_wok 3 4391350 (.invokevirtual 323) = true := by decide +kernel
theorem ki_679 : kd_wok 3 1048735 (.if_icmp .eq 16) = true := by decide +kernel
theorem ki_680 : kd_wok 3 4587958 (.invokevirtual 326) = true := by decide +kernel
theorem ki_681 : kd_wok 3 4653494 (.invokevirtual 327) = true := by decide +kernel
theorem ki_682 : kd_wok 3 4850102 (.invokevirtual 330) = true := by decide +kernel
theorem ki_683 : kd_wok 3 5112248 (.invokestatic 334) = true := by decide +kernel
theorem ki_684 : kd_wok 2 61968 (.bipush (-14)) = true := by decide +kernel
theorem ki_685 : kd_wok 3 5308854 (.invokevirtual 337) = true := by decide +kernel
theorem ki_686 : kd_wok 3 5570998 (.invokevirtual 341) = true := by decide +kernel
theorem ki_687 : kd_wok 1 33 (.lload_n 3) = true := by decide +kernel
theorem ki_688 : kd_wok 3 5767606 (.invokevirtual 344) = true := by decide +kernel
theorem ki_689 : kd_wok 3 6095124 (.ldc2_w 349) = true := by decide +kernel
theorem ki_690 : kd_wok 3 6226358 (.invokevirtual 351) = true := by decide +kernel
theorem ki_691 : kd_wok 2 1850 (.astore 7) = true := by decide +kernel
theorem ki_692 : kd_wok 3 524486 (.ifnull 8) = true := by decide +kernel
theorem ki_693 : kd_wok 2 1817 (.aload 7) = true := by decide +kernel
theorem ki_694 : kd_wok 3 6488502 (.invokevirtual 355) = true := by decide +kernel
theorem ki_695 : kd_wok 3 6750646 (.invokevirtual 359) = true := by decide +kernel
theorem ki_696 : kd_wok 3 6947254 (.invokevirtual 362) = true := by decide +kernel
theorem ki_697 : kd_wok 3 655558 (.ifnull 10) = true := by decide +kernel
theorem ki_698 : kd_wok 3 7209398 (.invokevirtual 366) = true := by decide +kernel
theorem ki_699 : kd_wok 3 7406006 (.invokevirtual 369) = true := by decide +kernel
theorem ki_700 : kd_wok 3 7602614 (.invokevirtual 372) = true := by decide +kernel
theorem ki_701 : kd_wok 3 7799224 (.invokestatic 375) = true := by decide +kernel
theorem ki_702 : kd_wok 3 7995830 (.invokevirtual 378) = true := by decide +kernel
theorem ki_703 : kd_wok 3 8061366 (.invokevirtual 379) = true := by decide +kernel
theorem ki_704 : kd_wok 3 8126902 (.invokevirtual 380) = true := by decide +kernel
theorem ki_705 : kd_wok 3 8192438 (.invokevirtual 381) = true := by decide +kernel
theorem ki_706 : kd_wok 3 8257974 (.invokevirtual 382) = true := by decide +kernel
theorem ki_707 : kd_wok 3 13633297 (.sipush 2000) = true := by decide +kernel
theorem ki_708 : kd_wok 3 1441953 (.if_icmp .lt 22) = true := by decide +kernel
theorem ki_709 : kd_wok 3 8454419 (.ldc_w 385) = true := by decide +kernel
theorem ki_710 : kd_wok 3 458910 (.ifCond .le 7) = true := by decide +kernel
theorem ki_711 : kd_wok 3 8519955 (.ldc_w 386) = true := by decide +kernel
theorem ki_712 : kd_wok 3 3747857 (.sipush 12345) = true := by decide +kernel
theorem ki_713 : kd_wok 3 786586 (.ifCond .ne 12) = true := by decide +kernel
theorem ki_714 : kd_wok 3 13303719 (.goto (-54)) = true := by decide +kernel
theorem ki_715 : kd_wok 3 721060 (.if_icmp .le 11) = true := by decide +kernel
theorem ki_716 : kd_wok 1 30 (.lload_n 0) = true := by decide +kernel
theorem ki_717 : kd_wok 3 458909 (.ifCond .gt 7) = true := by decide +kernel
theorem ki_718 : kd_wok 3 4719377 (.sipush 840) = true := by decide +kernel
theorem ki_719 : kd_wok 3 1835189 (.putfield 28) = true := by decide +kernel
theorem ki_720 : kd_wok 3 2031797 (.putfield 31) = true := by decide +kernel
theorem ki_721 : kd_wok 3 2228405 (.putfield 34) = true := by decide +kernel
theorem ki_722 : kd_wok 3 16121873 (.sipush 246) = true := by decide +kernel
theorem ki_723 : kd_wok 3 2818229 (.putfield 43) = true := by decide +kernel
theorem ki_724 : kd_wok 2 9232 (.bipush 36) = true := by decide +kernel
theorem ki_725 : kd_wok 2 1212 (.newarray .boolean) = true := by decide +kernel
theorem ki_726 : kd_wok 3 3014837 (.putfield 46) = true := by decide +kernel
theorem ki_727 : kd_wok 3 3276981 (.putfield 50) = true := by decide +kernel
theorem ki_728 : kd_wok 3 3473589 (.putfield 53) = true := by decide +kernel
theorem ki_729 : kd_wok 3 3670197 (.putfield 56) = true := by decide +kernel
theorem ki_730 : kd_wok 3 3866805 (.putfield 59) = true := by decide +kernel
theorem ki_731 : kd_wok 3 4063413 (.putfield 62) = true := by decide +kernel
theorem ki_732 : kd_wok 3 4456629 (.putfield 68) = true := by decide +kernel
theorem ki_733 : kd_wok 3 14680337 (.sipush 480) = true := by decide +kernel
theorem ki_734 : kd_wok 3 4849845 (.putfield 74) = true := by decide +kernel
theorem ki_735 : kd_wok 3 5046453 (.putfield 77) = true := by decide +kernel
theorem ki_736 : kd_wok 3 5243061 (.putfield 80) = true := by decide +kernel
theorem ki_737 : kd_wok 3 5439669 (.putfield 83) = true := by decide +kernel
theorem ki_738 : kd_wok 3 5636277 (.putfield 86) = true := by decide +kernel
theorem ki_739 : kd_wok 3 5832885 (.putfield 89) = true := by decide +kernel
theorem ki_740 : kd_wok 3 6816017 (.sipush 360) = true := by decide +kernel
theorem ki_741 : kd_wok 3 6029493 (.putfield 92) = true := by decide +kernel
theorem ki_742 : kd_wok 3 6291637 (.putfield 96) = true := by decide +kernel
theorem ki_743 : kd_wok 3 5636276 (.getfield 86) = true := by decide +kernel
theorem ki_744 : kd_wok 3 6488244 (.getfield 99) = true := by decide +kernel
theorem ki_745 : kd_wok 3 5046432 (.if_icmp .ne 77) = true := by decide +kernel
theorem ki_746 : kd_wok 3 3735714 (.if_icmp .ge 57) = true := by decide +kernel
theorem ki_747 : kd_wok 3 6488245 (.putfield 99) = true := by decide +kernel
theorem ki_748 : kd_wok 3 6750389 (.putfield 103) = true := by decide +kernel
theorem ki_749 : kd_wok 3 6750388 (.getfield 103) = true := by decide +kernel
theorem ki_750 : kd_wok 3 6946996 (.getfield 106) = true := by decide +kernel
theorem ki_751 : kd_wok 3 7143608 (.invokestatic 109) = true := by decide +kernel
theorem ki_752 : kd_wok 3 1573137 (.sipush 280) = true := by decide +kernel
theorem ki_753 : kd_wok 3 3146257 (.sipush 560) = true := by decide +kernel
theorem ki_754 : kd_wok 3 7405750 (.invokevirtual 113) = true := by decide +kernel
theorem ki_755 : kd_wok 3 7667894 (.invokevirtual 117) = true := by decide +kernel
theorem ki_756 : kd_wok 3 14876583 (.goto (-30)) = true := by decide +kernel
theorem ki_757 : kd_wok 3 6946997 (.putfield 106) = true := by decide +kernel
theorem ki_758 : kd_wok 3 7864340 (.ldc2_w 120) = true := by decide +kernel
theorem ki_759 : kd_wok 3 3145881 (.ifCond .eq 48) = true := by decide +kernel
theorem ki_760 : kd_wok 3 2359449 (.ifCond .eq 36) = true := by decide +kernel
theorem ki_761 : kd_wok 3 7995412 (.ldc2_w 122) = true := by decide +kernel
theorem ki_762 : kd_wok 3 8126484 (.ldc2_w 124) = true := by decide +kernel
theorem ki_763 : kd_wok 3 524445 (.ifCond .gt 8) = true := by decide +kernel
theorem ki_764 : kd_wok 3 8257718 (.invokevirtual 126) = true := by decide +kernel
theorem ki_765 : kd_wok 3 1900697 (.ifCond .eq 29) = true := by decide +kernel
theorem ki_766 : kd_wok 3 8519862 (.invokevirtual 130) = true := by decide +kernel
theorem ki_767 : kd_wok 3 8782006 (.invokevirtual 134) = true := by decide +kernel
theorem ki_768 : kd_wok 3 1507481 (.ifCond .eq 23) = true := by decide +kernel
theorem ki_769 : kd_wok 3 9044152 (.invokestatic 138) = true := by decide +kernel
theorem ki_770 : kd_wok 3 9240596 (.ldc2_w 141) = true := by decide +kernel
theorem ki_771 : kd_wok 3 1114267 (.ifCond .lt 17) = true := by decide +kernel
theorem ki_772 : kd_wok 2 13072 (.bipush 51) = true := by decide +kernel
theorem ki_773 : kd_wok 3 393375 (.if_icmp .eq 6) = true := by decide +kernel
theorem ki_774 : kd_wok 3 721056 (.if_icmp .ne 11) = true := by decide +kernel
theorem ki_775 : kd_wok 3 458907 (.ifCond .lt 7) = true := by decide +kernel
theorem ki_776 : kd_wok 3 10879129 (.ifCond .eq 166) = true := by decide +kernel
theorem ki_777 : kd_wok 3 10420386 (.if_icmp .ge 159) = true := by decide +kernel
theorem ki_778 : kd_wok 3 5832884 (.getfield 89) = true := by decide +kernel
theorem ki_779 : kd_wok 3 2818201 (.ifCond .eq 43) = true := by decide +kernel
theorem ki_780 : kd_wok 3 6029492 (.getfield 92) = true := by decide +kernel
theorem ki_781 : kd_wok 3 3604633 (.ifCond .eq 55) = true := by decide +kernel
theorem ki_782 : kd_wok 3 6029223 (.goto (-165)) = true := by decide +kernel
theorem ki_783 : kd_wok 3 1638553 (.ifCond .eq 25) = true := by decide +kernel
theorem ki_784 : kd_wok 3 1966235 (.ifCond .lt 30) = true := by decide +kernel
theorem ki_785 : kd_wok 3 9633812 (.ldc2_w 147) = true := by decide +kernel
theorem ki_786 : kd_wok 2 38162 (.ldc 149) = true := by decide +kernel
theorem ki_787 : kd_wok 3 3145895 (.goto 48) = true := by decide +kernel
theorem ki_788 : kd_wok 3 2031783 (.goto 31) = true := by decide +kernel
theorem ki_789 : kd_wok 3 9830582 (.invokevirtual 150) = true := by decide +kernel
theorem ki_790 : kd_wok 3 10027190 (.invokevirtual 153) = true := by decide +kernel
theorem ki_791 : kd_wok 3 10223798 (.invokevirtual 156) = true := by decide +kernel
theorem ki_792 : kd_wok 3 10485780 (.ldc2_w 160) = true := by decide +kernel
theorem ki_793 : kd_wok 3 10616852 (.ldc2_w 162) = true := by decide +kernel
theorem ki_794 : kd_wok 3 13107217 (.sipush 200) = true := by decide +kernel
theorem ki_795 : kd_wok 3 2883857 (.sipush 300) = true := by decide +kernel
theorem ki_796 : kd_wok 3 10748086 (.invokevirtual 164) = true := by decide +kernel
theorem ki_797 : kd_wok 3 589991 (.goto 9) = true := by decide +kernel
theorem ki_798 : kd_wok 3 2031769 (.ifCond .eq 31) = true := by decide +kernel
theorem ki_799 : kd_wok 3 1769627 (.ifCond .lt 27) = true := by decide +kernel
theorem ki_800 : kd_wok 3 1048739 (.if_icmp .gt 16) = true := by decide +kernel
theorem ki_801 : kd_wok 3 10944693 (.putfield 167) = true := by decide +kernel
theorem ki_802 : kd_wok 3 2228387 (.if_icmp .gt 34) = true := by decide +kernel
theorem ki_803 : kd_wok 3 10944692 (.getfield 167) = true := by decide +kernel
theorem ki_804 : kd_wok 3 3932322 (.if_icmp .ge 60) = true := by decide +kernel
theorem ki_805 : kd_wok 3 655522 (.if_icmp .ge 10) = true := by decide +kernel
theorem ki_806 : kd_wok 3 12713895 (.goto (-63)) = true := by decide +kernel
theorem ki_807 : kd_wok 3 2490529 (.if_icmp .lt 38) = true := by decide +kernel
theorem ki_808 : kd_wok 3 11337908 (.getfield 173) = true := by decide +kernel
theorem ki_809 : kd_wok 3 721058 (.if_icmp .ge 11) = true := by decide +kernel
theorem ki_810 : kd_wok 3 11337909 (.putfield 173) = true := by decide +kernel
theorem ki_811 : kd_wok 3 11534518 (.invokevirtual 176) = true := by decide +kernel
theorem ki_812 : kd_wok 3 11730964 (.ldc2_w 179) = true := by decide +kernel
theorem ki_813 : kd_wok 3 11862036 (.ldc2_w 181) = true := by decide +kernel
theorem ki_814 : kd_wok 3 11993108 (.ldc2_w 183) = true := by decide +kernel
theorem ki_815 : kd_wok 3 12124342 (.invokevirtual 185) = true := by decide +kernel
theorem ki_816 : kd_wok 3 12320788 (.ldc2_w 188) = true := by decide +kernel
theorem ki_817 : kd_wok 3 6619298 (.if_icmp .ge 101) = true := by decide +kernel
theorem ki_818 : kd_wok 2 2870 (.istore 11) = true := by decide +kernel
theorem ki_819 : kd_wok 2 2837 (.iload 11) = true := by decide +kernel
theorem ki_820 : kd_wok 2 3126 (.istore 12) = true := by decide +kernel
theorem ki_821 : kd_wok 2 48658 (.ldc 190) = true := by decide +kernel
theorem ki_822 : kd_wok 2 3093 (.iload 12) = true := by decide +kernel
theorem ki_823 : kd_wok 3 68484 (.iinc 11 1) = true := by decide +kernel
theorem ki_824 : kd_wok 3 12976039 (.goto (-59)) = true := by decide +kernel
theorem ki_825 : kd_wok 3 10026919 (.goto (-104)) = true := by decide +kernel
theorem ki_826 : kd_wok 3 12517396 (.ldc2_w 191) = true := by decide +kernel
theorem ki_827 : kd_wok 3 12648468 (.ldc2_w 193) = true := by decide +kernel
theorem ki_828 : kd_wok 3 1835188 (.getfield 28) = true := by decide +kernel
theorem ki_829 : kd_wok 3 2031796 (.getfield 31) = true := by decide +kernel
theorem ki_830 : kd_wok 3 15925403 (.ifCond .lt 243) = true := by decide +kernel
theorem ki_831 : kd_wok 2 49938 (.ldc 195) = true := by decide +kernel
theorem ki_832 : kd_wok 3 13566115 (.if_icmp .gt 207) = true := by decide +kernel
theorem ki_833 : kd_wok 3 12976291 (.if_icmp .gt 198) = true := by decide +kernel
theorem ki_834 : kd_wok 3 10813603 (.if_icmp .gt 165) = true := by decide +kernel
theorem ki_835 : kd_wok 3 1769633 (.if_icmp .lt 27) = true := by decide +kernel
theorem ki_836 : kd_wok 3 12845240 (.invokestatic 196) = true := by decide +kernel
theorem ki_837 : kd_wok 3 3866787 (.if_icmp .gt 59) = true := by decide +kernel
theorem ki_838 : kd_wok 3 2556057 (.ifCond .eq 39) = true := by decide +kernel
theorem ki_839 : kd_wok 3 2228404 (.getfield 34) = true := by decide +kernel
theorem ki_840 : kd_wok 3 5963687 (.goto (-166)) = true := by decide +kernel
theorem ki_841 : kd_wok 3 3211175 (.goto (-208)) = true := by decide +kernel
theorem ki_842 : kd_wok 3 16712836 (.iinc 4 (-1)) = true := by decide +kernel
theorem ki_843 : kd_wok 3 982951 (.goto (-242)) = true := by decide +kernel
theorem ki_844 : kd_wok 3 13041848 (.invokestatic 199) = true := by decide +kernel
theorem ki_845 : kd_wok 3 14548903 (.goto (-35)) = true := by decide +kernel
theorem ki_846 : kd_wok 3 786592 (.if_icmp .ne 12) = true := by decide +kernel
theorem ki_847 : kd_wok 3 1835171 (.if_icmp .gt 28) = true := by decide +kernel
theorem ki_848 : kd_wok 3 2556062 (.ifCond .le 39) = true := by decide +kernel
theorem ki_849 : kd_wok 3 1638564 (.if_icmp .le 25) = true := by decide +kernel
theorem ki_850 : kd_wok 3 16713860 (.iinc 8 (-1)) = true := by decide +kernel
theorem ki_851 : kd_wok 3 9240739 (.if_icmp .gt 141) = true := by decide +kernel
theorem ki_852 : kd_wok 3 8323227 (.ifCond .lt 127) = true := by decide +kernel
theorem ki_853 : kd_wok 3 5046430 (.ifCond .le 77) = true := by decide +kernel
theorem ki_854 : kd_wok 3 4653219 (.if_icmp .gt 71) = true := by decide +kernel
theorem ki_855 : kd_wok 3 2818228 (.getfield 43) = true := by decide +kernel
theorem ki_856 : kd_wok 3 13435064 (.invokestatic 205) = true := by decide +kernel
theorem ki_857 : kd_wok 3 3014818 (.if_icmp .ge 46) = true := by decide +kernel
theorem ki_858 : kd_wok 3 13631670 (.invokevirtual 208) = true := by decide +kernel
theorem ki_859 : kd_wok 3 8585127 (.goto (-126)) = true := by decide +kernel
theorem ki_860 : kd_wok 3 7602087 (.goto (-141)) = true := by decide +kernel
theorem ki_861 : kd_wok 3 13893652 (.ldc2_w 212) = true := by decide +kernel
theorem ki_862 : kd_wok 3 14024886 (.invokevirtual 214) = true := by decide +kernel
theorem ki_863 : kd_wok 3 2818211 (.if_icmp .gt 43) = true := by decide +kernel
theorem ki_864 : kd_wok 3 7143586 (.if_icmp .ge 109) = true := by decide +kernel
theorem ki_865 : kd_wok 3 6684834 (.if_icmp .ge 102) = true := by decide +kernel
theorem ki_866 : kd_wok 3 4456610 (.if_icmp .ge 68) = true := by decide +kernel
theorem ki_867 : kd_wok 3 12058535 (.goto (-73)) = true := by decide +kernel
theorem ki_868 : kd_wok 3 9699239 (.goto (-109)) = true := by decide +kernel
theorem ki_869 : kd_wok 3 2621595 (.ifCond .lt 40) = true := by decide +kernel
theorem ki_870 : kd_wok 3 14287030 (.invokevirtual 218) = true := by decide +kernel
theorem ki_871 : kd_wok 3 3014836 (.getfield 46) = true := by decide +kernel
theorem ki_872 : kd_wok 1 51 (.baload) = true := by decide +kernel
theorem ki_873 : kd_wok 1 84 (.bastore) = true := by decide +kernel
theorem ki_874 : kd_wok 3 14483636 (.getfield 221) = true := by decide +kernel
theorem ki_875 : kd_wok 3 14483637 (.putfield 221) = true := by decide +kernel
theorem ki_876 : kd_wok 1 122 (.ishr) = true := by decide +kernel
theorem ki_877 : kd_wok 3 6750370 (.if_icmp .ge 103) = true := by decide +kernel
theorem ki_878 : kd_wok 3 14680246 (.invokevirtual 224) = true := by decide +kernel
theorem ki_879 : kd_wok 3 589978 (.ifCond .ne 9) = true := by decide +kernel
theorem ki_880 : kd_wok 3 2293920 (.if_icmp .ne 35) = true := by decide +kernel
theorem ki_881 : kd_wok 3 589984 (.if_icmp .ne 9) = true := by decide +kernel
theorem ki_882 : kd_wok 3 15990695 (.goto (-13)) = true := by decide +kernel
theorem ki_883 : kd_wok 3 9961383 (.goto (-105)) = true := by decide +kernel
theorem ki_884 : kd_wok 3 8585378 (.if_icmp .ge 131) = true := by decide +kernel
theorem ki_885 : kd_wok 3 13500327 (.goto (-51)) = true := by decide +kernel
theorem ki_886 : kd_wok 3 1441956 (.if_icmp .le 22) = true := by decide +kernel
theorem ki_887 : kd_wok 3 983204 (.if_icmp .le 15) = true := by decide +kernel
theorem ki_888 : kd_wok 3 7929767 (.goto (-136)) = true := by decide +kernel
theorem ki_889 : kd_wok 3 2621593 (.ifCond .eq 40) = true := by decide +kernel
theorem ki_890 : kd_wok 3 14876692 (.ldc2_w 227) = true := by decide +kernel
theorem ki_891 : kd_wok 3 15007924 (.getfield 229) = true := by decide +kernel
theorem ki_892 : kd_wok 3 3276980 (.getfield 50) = true := by decide +kernel
theorem ki_893 : kd_wok 3 3473588 (.getfield 53) = true := by decide +kernel
theorem ki_894 : kd_wok 3 3670196 (.getfield 56) = true := by decide +kernel
theorem ki_895 : kd_wok 3 15007925 (.putfield 229) = true := by decide +kernel
theorem ki_896 : kd_wok 3 4063387 (.ifCond .lt 62) = true := by decide +kernel
theorem ki_897 : kd_wok 3 15204536 (.invokestatic 232) = true := by decide +kernel
theorem ki_898 : kd_wok 3 3408025 (.ifCond .eq 52) = true := by decide +kernel
theorem ki_899 : kd_wok 3 2752665 (.ifCond .eq 42) = true := by decide +kernel
theorem ki_900 : kd_wok 3 2031775 (.if_icmp .eq 31) = true := by decide +kernel
theorem ki_901 : kd_wok 3 1245337 (.ifCond .eq 19) = true := by decide +kernel
theorem ki_902 : kd_wok 3 15401142 (.invokevirtual 235) = true := by decide +kernel
theorem ki_903 : kd_wok 3 15663124 (.ldc2_w 239) = true := by decide +kernel
theorem ki_904 : kd_wok 3 15794357 (.putfield 241) = true := by decide +kernel
theorem ki_905 : kd_wok 3 5767330 (.if_icmp .ge 88) = true := by decide +kernel
theorem ki_906 : kd_wok 3 1507482 (.ifCond .ne 23) = true := by decide +kernel
theorem ki_907 : kd_wok 3 4063412 (.getfield 62) = true := by decide +kernel
theorem ki_908 : kd_wok 3 3866804 (.getfield 59) = true := by decide +kernel
theorem ki_909 : kd_wok 3 15794356 (.getfield 241) = true := by decide +kernel
theorem ki_910 : kd_wok 3 11075495 (.goto (-88)) = true := by decide +kernel
theorem ki_911 : kd_wok 3 1310876 (.ifCond .ge 20) = true := by decide +kernel
theorem ki_912 : kd_wok 3 2490523 (.ifCond .lt 38) = true := by decide +kernel
theorem ki_913 : kd_wok 3 3342496 (.if_icmp .ne 51) = true := by decide +kernel
theorem ki_914 : kd_wok 3 15990964 (.getfield 244) = true := by decide +kernel
theorem ki_915 : kd_wok 3 14811047 (.goto (-31)) = true := by decide +kernel
theorem ki_916 : kd_wok 3 15990965 (.putfield 244) = true := by decide +kernel
theorem ki_917 : kd_wok 3 8716450 (.if_icmp .ge 133) = true := by decide +kernel
theorem ki_918 : kd_wok 2 63250 (.ldc 247) = true := by decide +kernel
theorem ki_919 : kd_wok 3 8126626 (.if_icmp .ge 124) = true := by decide +kernel
theorem ki_920 : kd_wok 3 2097314 (.if_icmp .ge 32) = true := by decide +kernel
theorem ki_921 : kd_wok 3 16253110 (.invokevirtual 248) = true := by decide +kernel
theorem ki_922 : kd_wok 3 16515254 (.invokevirtual 252) = true := by decide +kernel
theorem ki_923 : kd_wok 3 7798695 (.goto (-138)) = true := by decide +kernel
theorem ki_924 : kd_wok 3 786591 (.if_icmp .eq 12) = true := by decide +kernel
theorem ki_925 : kd_wok 3 917658 (.ifCond .ne 14) = true := by decide +kernel
theorem ki_926 : kd_wok 3 4456628 (.getfield 68) = true := by decide +kernel
theorem ki_927 : kd_wok 3 393652 (.getfield 262) = true := by decide +kernel
theorem ki_928 : kd_wok 3 590260 (.getfield 265) = true := by decide +kernel
theorem ki_929 : kd_wok 3 786868 (.getfield 268) = true := by decide +kernel
theorem ki_930 : kd_wok 3 983196 (.ifCond .ge 15) = true := by decide +kernel
theorem ki_931 : kd_wok 3 983476 (.getfield 271) = true := by decide +kernel
theorem ki_932 : kd_wok 3 655516 (.ifCond .ge 10) = true := by decide +kernel
theorem ki_933 : kd_wok 3 983477 (.putfield 271) = true := by decide +kernel
theorem ki_934 : kd_wok 3 721052 (.ifCond .ge 11) = true := by decide +kernel
theorem ki_935 : kd_wok 3 1180086 (.invokevirtual 274) = true := by decide +kernel
theorem ki_936 : kd_wok 3 393653 (.putfield 262) = true := by decide +kernel
theorem ki_937 : kd_wok 3 1442230 (.invokevirtual 278) = true := by decide +kernel
theorem ki_938 : kd_wok 3 1638838 (.invokevirtual 281) = true := by decide +kernel
theorem ki_939 : kd_wok 3 1835446 (.invokevirtual 284) = true := by decide +kernel
theorem ki_940 : kd_wok 3 1376412 (.ifCond .ge 21) = true := by decide +kernel
theorem ki_941 : kd_wok 3 1441959 (.goto 22) = true := by decide +kernel
theorem ki_942 : kd_wok 3 4456604 (.ifCond .ge 68) = true := by decide +kernel
theorem ki_943 : kd_wok 3 3276960 (.if_icmp .ne 50) = true := by decide +kernel
theorem ki_944 : kd_wok 3 5243036 (.ifCond .ge 80) = true := by decide +kernel
theorem ki_945 : kd_wok 3 4063392 (.if_icmp .ne 62) = true := by decide +kernel
theorem ki_946 : kd_wok 3 1704103 (.goto 26) = true := by decide +kernel
theorem ki_947 : kd_wok 3 327835 (.ifCond .lt 5) = true := by decide +kernel
theorem ki_948 : kd_wok 3 7602336 (.if_icmp .ne 116) = true := by decide +kernel
theorem ki_949 : kd_wok 3 2621876 (.getfield 296) = true := by decide +kernel
theorem ki_950 : kd_wok 3 2621877 (.putfield 296) = true := by decide +kernel
theorem ki_951 : kd_wok 3 786599 (.goto 12) = true := by decide +kernel
theorem ki_952 : kd_wok 3 3211704 (.invokestatic 305) = true := by decide +kernel
theorem ki_953 : kd_wok 3 5046452 (.getfield 77) = true := by decide +kernel
theorem ki_954 : kd_wok 3 3276962 (.if_icmp .ge 50) = true := by decide +kernel
theorem ki_955 : kd_wok 3 2687137 (.if_icmp .lt 41) = true := by decide +kernel
theorem ki_956 : kd_wok 3 2097315 (.if_icmp .gt 32) = true := by decide +kernel
theorem ki_957 : kd_wok 3 13565863 (.goto (-50)) = true := by decide +kernel
theorem ki_958 : kd_wok 3 786869 (.putfield 268) = true := by decide +kernel
theorem ki_959 : kd_wok 3 590261 (.putfield 265) = true := by decide +kernel
theorem ki_960 : kd_wok 3 4718745 (.ifCond .eq 72) = true := by decide +kernel
theorem ki_961 : kd_wok 3 12189607 (.goto (-71)) = true := by decide +kernel
theorem ki_962 : kd_wok 3 1245340 (.ifCond .ge 19) = true := by decide +kernel
theorem ki_963 : kd_wok 3 3408308 (.getfield 308) = true := by decide +kernel
theorem ki_964 : kd_wok 3 4849844 (.getfield 74) = true := by decide +kernel
theorem ki_965 : kd_wok 3 3408309 (.putfield 308) = true := by decide +kernel
theorem ki_966 : kd_wok 3 1573026 (.if_icmp .ge 24) = true := by decide +kernel
theorem ki_967 : kd_wok 3 3801526 (.invokevirtual 314) = true := by decide +kernel
theorem ki_968 : kd_wok 3 15269799 (.goto (-24)) = true := by decide +kernel
theorem ki_969 : kd_wok 3 262304 (.if_icmp .ne 4) = true := by decide +kernel
theorem ki_970 : kd_wok 3 1179812 (.if_icmp .le 18) = true := by decide +kernel
theorem ki_971 : kd_wok 3 786850 (.if_icmp .ge 268) = true := by decide +kernel
theorem ki_972 : kd_wok 3 4980903 (.goto 76) = true := by decide +kernel
theorem ki_973 : kd_wok 3 3932327 (.goto 60) = true := by decide +kernel
theorem ki_974 : kd_wok 3 3539104 (.if_icmp .ne 54) = true := by decide +kernel
theorem ki_975 : kd_wok 3 3211422 (.ifCond .le 49) = true := by decide +kernel
theorem ki_976 : kd_wok 3 524452 (.if_icmp .le 8) = true := by decide +kernel
theorem ki_977 : kd_wok 3 15990439 (.goto (-269)) = true := by decide +kernel
theorem ki_978 : kd_wok 3 2162843 (.ifCond .lt 33) = true := by decide +kernel
theorem ki_979 : kd_wok 3 4391352 (.invokestatic 323) = true := by decide +kernel
theorem ki_980 : kd_wok 3 4784566 (.invokevirtual 329) = true := by decide +kernel
theorem ki_981 : kd_wok 3 1376416 (.if_icmp .ne 21) = true := by decide +kernel
theorem ki_982 : kd_wok 3 12779431 (.goto (-62)) = true := by decide +kernel
theorem ki_983 : kd_wok 3 2424985 (.ifCond .eq 37) = true := by decide +kernel
theorem ki_984 : kd_wok 3 4981012 (.ldc2_w 332) = true := by decide +kernel
theorem ki_985 : kd_wok 3 5112246 (.invokevirtual 334) = true := by decide +kernel
theorem ki_986 : kd_wok 3 2490531 (.if_icmp .gt 38) = true := by decide +kernel
theorem ki_987 : kd_wok 3 1310874 (.ifCond .ne 20) = true := by decide +kernel
theorem ki_988 : kd_wok 3 5308852 (.getfield 337) = true := by decide +kernel
theorem ki_989 : kd_wok 3 5243060 (.getfield 80) = true := by decide +kernel
theorem ki_990 : kd_wok 3 5308853 (.putfield 337) = true := by decide +kernel
theorem ki_991 : kd_wok 3 5505460 (.getfield 340) = true := by decide +kernel
theorem ki_992 : kd_wok 3 5439668 (.getfield 83) = true := by decide +kernel
theorem ki_993 : kd_wok 3 5505461 (.putfield 340) = true := by decide +kernel
theorem ki_994 : kd_wok 3 1179808 (.if_icmp .ne 18) = true := by decide +kernel
theorem ki_995 : kd_wok 2 20496 (.bipush 80) = true := by decide +kernel
theorem ki_996 : kd_wok 3 5702070 (.invokevirtual 343) = true := by decide +kernel
theorem ki_997 : kd_wok 3 5964214 (.invokevirtual 347) = true := by decide +kernel
theorem ki_998 : kd_wok 2 17936 (.bipush 70) = true := by decide +kernel
theorem ki_999 : kd_wok 3 6160820 (.getfield 350) = true := by decide +kernel
theorem ki_1000 : kd_wok 2 7696 (.bipush 30) = true := by decide +kernel
theorem ki_1001 : kd_wok 3 6357430 (.invokevirtual 353) = true := by decide +kernel
theorem ki_1002 : kd_wok 3 6554036 (.getfield 356) = true := by decide +kernel
theorem ki_1003 : kd_wok 2 20752 (.bipush 81) = true := by decide +kernel
theorem ki_1004 : kd_wok 2 2832 (.bipush 11) = true := by decide +kernel
theorem ki_1005 : kd_wok 3 7143862 (.invokevirtual 365) = true := by decide +kernel
theorem ki_1006 : kd_wok 3 6554037 (.putfield 356) = true := by decide +kernel
theorem ki_1007 : kd_wok 3 6160821 (.putfield 350) = true := by decide +kernel
theorem ki_1008 : kd_wok 3 7340308 (.ldc2_w 368) = true := by decide +kernel
theorem ki_1009 : kd_wok 3 3014823 (.goto 46) = true := by decide +kernel
theorem ki_1010 : kd_wok 3 2228391 (.goto 34) = true := by decide +kernel
theorem ki_1011 : kd_wok 3 7471542 (.invokevirtual 370) = true := by decide +kernel
theorem ki_1012 : kd_wok 3 7668152 (.invokestatic 373) = true := by decide +kernel
theorem ki_1013 : kd_wok 3 8061204 (.ldc2_w 379) = true := by decide +kernel
theorem ki_1014 : kd_wok 3 2556059 (.ifCond .lt 39) = true := by decide +kernel
theorem ki_1015 : kd_wok 3 6291636 (.getfield 96) = true := by decide +kernel
theorem ki_1016 : kd_wok 3 721054 (.ifCond .le 11) = true := by decide +kernel
theorem ki_1017 : kd_wok 3 8389048 (.invokestatic 384) = true := by decide +kernel
theorem ki_1018 : kd_wok 3 15925159 (.goto (-14)) = true := by decide +kernel
theorem ki_1019 : kd_wok 3 1048736 (.if_icmp .ne 16) = true := by decide +kernel
theorem ki_1020 : kd_wok 1 59 (.istore_n 0) = true := by decide +kernel
theorem ki_1021 : kd_wok 2 8208 (.bipush 32) = true := by decide +kernel
theorem ki_1022 : kd_wok 3 524563 (.ldc_w 264) = true := by decide +kernel
theorem ki_1023 : kd_wok 3 1048964 (.iinc 1 16) = true := by decide +kernel
theorem ki_1024 : kd_wok 2 4112 (.bipush 16) = true := by decide +kernel
theorem ki_1025 : kd_wok 3 524676 (.iinc 1 8) = true := by decide +kernel
theorem ki_1026 : kd_wok 3 655524 (.if_icmp .le 10) = true := by decide +kernel
theorem ki_1027 : kd_wok 3 262532 (.iinc 1 4) = true := by decide +kernel
theorem ki_1028 : kd_wok 3 131460 (.iinc 1 2) = true := by decide +kernel
theorem ki_1029 : kd_wok 2 7952 (.bipush 31) = true := by decide +kernel
theorem ki_1030 : kd_wok 3 3604920 (.invokestatic 311) = true := by decide +kernel
theorem ki_1031 : kd_wok 3 3801364 (.ldc2_w 314) = true := by decide +kernel
theorem ki_1032 : kd_wok 1 63 (.lstore_n 0) = true := by decide +kernel
theorem ki_1033 : kd_wok 3 3932436 (.ldc2_w 316) = true := by decide +kernel
theorem ki_1034 : kd_wok 1 97 (.ladd) = true := by decide +kernel
theorem ki_1035 : kd_wok 3 4063508 (.ldc2_w 318) = true := by decide +kernel
theorem ki_1036 : kd_wok 2 32528 (.bipush 127) = true := by decide +kernel
theorem ki_1037 : kd_wok 3 458939 (.new 7) = true := by decide +kernel
theorem ki_1038 : kd_wok 3 590007 (.invokespecial 9) = true := by decide +kernel
theorem ki_1039 : kd_wok 3 655547 (.new 10) = true := by decide +kernel
theorem ki_1040 : kd_wok 3 786615 (.invokespecial 12) = true := by decide +kernel
theorem ki_1041 : kd_wok 3 13043107 (.if_icmp .gt 1479) = true := by decide +kernel
theorem ki_1042 : kd_wok 3 852150 (.invokevirtual 13) = true := by decide +kernel
theorem ki_1043 : kd_wok 1 87 (.pop) = true := by decide +kernel
theorem ki_1044 : kd_wok 3 1114294 (.invokevirtual 17) = true := by decide +kernel
theorem ki_1045 : kd_wok 3 722343 (.goto 1291) = true := by decide +kernel
theorem ki_1046 : kd_wok 3 1179830 (.invokevirtual 18) = true := by decide +kernel
theorem ki_1047 : kd_wok 3 1441974 (.invokevirtual 22) = true := by decide +kernel
theorem ki_1048 : kd_wok 3 14681255 (.goto 1248) = true := by decide +kernel
theorem ki_1049 : kd_wok 3 1769654 (.invokevirtual 27) = true := by decide +kernel
theorem ki_1050 : kd_wok 3 11207847 (.goto 1195) = true := by decide +kernel
theorem ki_1051 : kd_wok 3 1835190 (.invokevirtual 28) = true := by decide +kernel
theorem ki_1052 : kd_wok 3 8389799 (.goto 1152) = true := by decide +kernel
theorem ki_1053 : kd_wok 3 6227111 (.goto 1119) = true := by decide +kernel
theorem ki_1054 : kd_wok 3 2621622 (.invokevirtual 40) = true := by decide +kernel
theorem ki_1055 : kd_wok 3 3409063 (.goto 1076) = true := by decide +kernel
theorem ki_1056 : kd_wok 3 16712615 (.goto 1023) = true := by decide +kernel
theorem ki_1057 : kd_wok 3 13239207 (.goto 970) = true := by decide +kernel
theorem ki_1058 : kd_wok 3 10421159 (.goto 927) = true := by decide +kernel
theorem ki_1059 : kd_wok 3 8258471 (.goto 894) = true := by decide +kernel
theorem ki_1060 : kd_wok 3 5440423 (.goto 851) = true := by decide +kernel
theorem ki_1061 : kd_wok 3 3997878 (.invokevirtual 61) = true := by decide +kernel
theorem ki_1062 : kd_wok 3 3933095 (.goto 828) = true := by decide +kernel
theorem ki_1063 : kd_wok 3 2425767 (.goto 805) = true := by decide +kernel
theorem ki_1064 : kd_wok 3 4587702 (.invokevirtual 70) = true := by decide +kernel
theorem ki_1065 : kd_wok 3 16384679 (.goto 762) = true := by decide +kernel
theorem ki_1066 : kd_wok 3 4849846 (.invokevirtual 74) = true := by decide +kernel
theorem ki_1067 : kd_wok 3 14877351 (.goto 739) = true := by decide +kernel
theorem ki_1068 : kd_wok 3 5111990 (.invokevirtual 78) = true := by decide +kernel
theorem ki_1069 : kd_wok 3 12845727 (.if_icmp .eq 708) = true := by decide +kernel
theorem ki_1070 : kd_wok 3 10551975 (.goto 673) = true := by decide +kernel
theorem ki_1071 : kd_wok 3 5636278 (.invokevirtual 86) = true := by decide +kernel
theorem ki_1072 : kd_wok 3 8389287 (.goto 640) = true := by decide +kernel
theorem ki_1073 : kd_wok 3 5898422 (.invokevirtual 90) = true := by decide +kernel
theorem ki_1074 : kd_wok 3 6095030 (.invokevirtual 93) = true := by decide +kernel
theorem ki_1075 : kd_wok 3 7537319 (.goto 627) = true := by decide +kernel
theorem ki_1076 : kd_wok 3 6357174 (.invokevirtual 97) = true := by decide +kernel
theorem ki_1077 : kd_wok 3 4719271 (.goto 584) = true := by decide +kernel
theorem ki_1078 : kd_wok 3 6619318 (.invokevirtual 101) = true := by decide +kernel
theorem ki_1079 : kd_wok 3 2556583 (.goto 551) = true := by decide +kernel
theorem ki_1080 : kd_wok 3 6881462 (.invokevirtual 105) = true := by decide +kernel
theorem ki_1081 : kd_wok 3 1704615 (.goto 538) = true := by decide +kernel
theorem ki_1082 : kd_wok 3 7143606 (.invokevirtual 109) = true := by decide +kernel
theorem ki_1083 : kd_wok 3 15663527 (.goto 495) = true := by decide +kernel
theorem ki_1084 : kd_wok 3 12190119 (.goto 442) = true := by decide +kernel
theorem ki_1085 : kd_wok 3 10682791 (.goto 419) = true := by decide +kernel
theorem ki_1086 : kd_wok 3 9830823 (.goto 406) = true := by decide +kernel
theorem ki_1087 : kd_wok 3 7995574 (.invokevirtual 122) = true := by decide +kernel
theorem ki_1088 : kd_wok 3 8192182 (.invokevirtual 125) = true := by decide +kernel
theorem ki_1089 : kd_wok 3 8978855 (.goto 393) = true := by decide +kernel
theorem ki_1090 : kd_wok 3 8454326 (.invokevirtual 129) = true := by decide +kernel
theorem ki_1091 : kd_wok 3 7471527 (.goto 370) = true := by decide +kernel
theorem ki_1092 : kd_wok 3 8716470 (.invokevirtual 133) = true := by decide +kernel
theorem ki_1093 : kd_wok 3 4653479 (.goto 327) = true := by decide +kernel
theorem ki_1094 : kd_wok 3 8978614 (.invokevirtual 137) = true := by decide +kernel
theorem ki_1095 : kd_wok 3 3146151 (.goto 304) = true := by decide +kernel
theorem ki_1096 : kd_wok 3 9044150 (.invokevirtual 138) = true := by decide +kernel
theorem ki_1097 : kd_wok 3 9240758 (.invokevirtual 141) = true := by decide +kernel
theorem ki_1098 : kd_wok 3 983463 (.goto 271) = true := by decide +kernel
theorem ki_1099 : kd_wok 3 9306294 (.invokevirtual 142) = true := by decide +kernel
theorem ki_1100 : kd_wok 3 9502902 (.invokevirtual 145) = true := by decide +kernel
theorem ki_1101 : kd_wok 3 14942375 (.goto 228) = true := by decide +kernel
theorem ki_1102 : kd_wok 3 9568276 (.ldc2_w 146) = true := by decide +kernel
theorem ki_1103 : kd_wok 1 129 (.lor) = true := by decide +kernel
theorem ki_1104 : kd_wok 3 9699510 (.invokevirtual 148) = true := by decide +kernel
theorem ki_1105 : kd_wok 3 9961654 (.invokevirtual 152) = true := by decide +kernel
theorem ki_1106 : kd_wok 3 10158247 (.goto 155) = true := by decide +kernel
theorem ki_1107 : kd_wok 1 88 (.pop2) = true := by decide +kernel
theorem ki_1108 : kd_wok 3 10289334 (.invokevirtual 157) = true := by decide +kernel
theorem ki_1109 : kd_wok 3 7995559 (.goto 122) = true := by decide +kernel
theorem ki_1110 : kd_wok 3 10354870 (.invokevirtual 158) = true := by decide +kernel
theorem ki_1111 : kd_wok 3 10617014 (.invokevirtual 162) = true := by decide +kernel
theorem ki_1112 : kd_wok 3 3866791 (.goto 59) = true := by decide +kernel
theorem ki_1113 : kd_wok 3 10879158 (.invokevirtual 166) = true := by decide +kernel
theorem ki_1114 : kd_wok 3 394116 (.iinc 3 6) = true := by decide +kernel
theorem ki_1115 : kd_wok 3 3603111 (.goto (-1482)) = true := by decide +kernel
noncomputable def nbX0_init : Nat := 14026170985059529234120297199402
theorem kbX0_init : kd_nb cX0_init nbX0_init 13 = true := by decide +kernel
noncomputable def nbX0_size : Nat := 738986079274
theorem kbX0_size : kd_nb cX0_size nbX0_size 5 = true := by decide +kernel
noncomputable def nbX0_isTold : Nat := 19917603359255129748733940619815176889730555285612553364447685875929362951354395
theorem kbX0_isTold : kd_nb cX0_isTold nbX0_isTold 33 = true := by decide +kernel
noncomputable def nbX0_tell : Nat := 1735540275252206263864565502708143978088228924610906796363228337932858961653494627567480208053058580924760440272068851739
theorem kbX0_tell : kd_nb cX0_tell nbX0_tell 50 = true := by decide +kernel
noncomputable def nbX0_leastFree : Nat := 369509619815140032587353559695062055072198061072274079572814166593072011261773557986720463498001667
theorem kbX0_leastFree : kd_nb cX0_leastFree nbX0_leastFree 41 = true := by decide +kernel
noncomputable def nbX0_isStreetNumber : Nat := 228642873346908414640705603515543755546
theorem kbX0_isStreetNumber : kd_nb cX0_isStreetNumber nbX0_isStreetNumber 16 = true := by decide +kernel
noncomputable def nbX1_init : Nat := 88063128920069797907484710611684390041096433253391652727764951525631829168802914315056938
theorem kbX1_init : kd_nb cX1_init nbX1_init 37 = true := by decide +kernel
noncomputable def nbX1_undoable : Nat := 739103519786
theorem kbX1_undoable : kd_nb cX1_undoable nbX1_undoable 5 = true := by decide +kernel
noncomputable def nbX1_redoable : Nat := 814093294926111684211754
theorem kbX1_redoable : kd_nb cX1_redoable nbX1_redoable 10 = true := by decide +kernel
noncomputable def nbX1_remember : Nat := 43802603224215537816761359894695979768491826983957417237325684623128895920133652581538438124970917096809873144854374791726238215436441129201278234084162340025948201590190027818
theorem kbX1_remember : kd_nb cX1_remember nbX1_remember 73 = true := by decide +kernel
noncomputable def nbX1_forgetOldest : Nat := 188114150269613922583389976020165861388154231074523907750479800464042813608057429960929542181355563925161047926499614383062186810759324852882998574863065329666965113422478654731206736900
theorem kbX1_forgetOldest : kd_nb cX1_forgetOldest nbX1_forgetOldest 77 = true := by decide +kernel
noncomputable def nbX1_stepBack : Nat := 64384997148775936057097784179607730935671740426138666
theorem kbX1_stepBack : kd_nb cX1_stepBack nbX1_stepBack 22 = true := by decide +kernel
noncomputable def nbX1_stepOn : Nat := 304588462969503198080360718988014488908263029947052578502167075177113891882
theorem kbX1_stepOn : kd_nb cX1_stepOn nbX1_stepOn 31 = true := by decide +kernel
noncomputable def nbX1_lastPlot : Nat := 3175146023837039340074
theorem kbX1_lastPlot : kd_nb cX1_lastPlot nbX1_lastPlot 9 = true := by decide +kernel
noncomputable def nbX1_lastWhat : Nat := 3175146023854219209258
theorem kbX1_lastWhat : kd_nb cX1_lastWhat nbX1_lastWhat 9 = true := by decide +kernel
noncomputable def nbX1_lastBefore : Nat := 3175146023867104111146
theorem kbX1_lastBefore : kd_nb cX1_lastBefore nbX1_lastBefore 9 = true := by decide +kernel
noncomputable def nbX1_lastAfter : Nat := 3175146023879989013034
theorem kbX1_lastAfter : kd_nb cX1_lastAfter nbX1_lastAfter 9 = true := by decide +kernel
noncomputable def nbX1_last : Nat := 4637428410178886523602380628040930312647424081267597071225133140587562
theorem kbX1_last : kd_nb cX1_last nbX1_last 29 = true := by decide +kernel
noncomputable def nbX2_init : Nat := 808229275831329919741295212997538961017103905149960725939368424495561950497805382963312815688430569603953308624279262599659194692431857801825295217886252561793064115882811755078510813784938952490
theorem kbX2_init : kd_nb cX2_init nbX2_init 81 = true := by decide +kernel
noncomputable def nbX2_isName : Nat := 228642873346908414640706166465497176858
theorem kbX2_isName : kd_nb cX2_isName nbX2_isName 16 = true := by decide +kernel
noncomputable def nbX2_size : Nat := 739422286890
theorem kbX2_size : kd_nb cX2_size nbX2_size 5 = true := by decide +kernel
noncomputable def nbX2_isFull : Nat := 893136224011360994689979187053245482
theorem kbX2_isFull : kd_nb cX2_isFull nbX2_isFull 15 = true := by decide +kernel
noncomputable def nbX2_write : Nat := 113807505975774481231390175535047545528959556877003600836652448283223931141349961769751639876288252932538371624662406682162730
theorem kbX2_write : kd_nb cX2_write nbX2_write 52 = true := by decide +kernel
noncomputable def nbX2_clear : Nat := 53264256316470059847502574634
theorem kbX2_clear : kd_nb cX2_clear nbX2_clear 12 = true := by decide +kernel
noncomputable def nbX2_mention : Nat := 1435242585817004331536684602609504044873528829043937087566820485375824442340910035561105114021123
theorem kbX2_mention : kd_nb cX2_mention nbX2_mention 40 = true := by decide +kernel
noncomputable def nbX2_gatherNames : Nat := 29140009977575985256482809246370405040839805475754896140753665285991302192106231525178055678644246554541381802995094055636239146
theorem kbX2_gatherNames : kd_nb cX2_gatherNames nbX2_gatherNames 53 = true := by decide +kernel
noncomputable def nbX2_putTogether : Nat := 571286062834194688629337875948721490235719141147924909515744002742911897474657210779576410443471820488034394223684092187643771372447031661240411048841146329866495165682520885415288838282330378546104274894064338757373916236724228487576990174068414871817222372879137582825532932962886529404448287050496681569858901174551661598092074
theorem kbX2_putTogether : kd_nb cX2_putTogether nbX2_putTogether 137 = true := by decide +kernel
noncomputable def nbX2_foundPlot : Nat := 208153890282480210966262826
theorem kbX2_foundPlot : kd_nb cX2_foundPlot nbX2_foundPlot 11 = true := by decide +kernel
noncomputable def nbX2_seat : Nat := 19917603359257657243787588813132088865366669260057055793345833599486788599068699
theorem kbX2_seat : kd_nb cX2_seat nbX2_seat 33 = true := by decide +kernel
noncomputable def nbX2_openAll : Nat := 5095711072639520149394919541828771811379134137419650539849472824192268316760005913282672311932609850033471891992852549667429966986875494582335672603105158806639558750450681383077052625515516722397712180022034652960167478824748593669520958703488893987338
theorem kbX2_openAll : kd_nb cX2_openAll nbX2_openAll 105 = true := by decide +kernel
noncomputable def nbX2_keepPlace : Nat := 920669236187180144085404568711640106
theorem kbX2_keepPlace : kd_nb cX2_keepPlace nbX2_keepPlace 15 = true := by decide +kernel
noncomputable def nbX2_keepDistance : Nat := 103199006671235477137480563840071731518976168994912927401706291164675916029059592099518962297208021689142998846184886457770387902758879621261828265616989967874699565231914103382068894454096533070635058834897148834902872900568270704542661769331839204576193939831256932160061474972152874
theorem kbX2_keepDistance : kd_nb cX2_keepDistance nbX2_keepDistance 118 = true := by decide +kernel
noncomputable def nbX2_search : Nat := 207632103871701708079482304418744814516634728799263962085091136555376040508872914745666245262958390103936575864487918749931276359026820460699820597307838524266645608997076514298994305384675351472667
theorem kbX2_search : kd_nb cX2_search nbX2_search 82 = true := by decide +kernel
noncomputable def nbX2_narrow : Nat := 9009350731357943296634141933637274019534198761319047119671096820828276995021527823871630035049132609555674120904698270262389787020295133056669820108407835
theorem kbX2_narrow : kd_nb cX2_narrow nbX2_narrow 64 = true := by decide +kernel
noncomputable def nbX2_countWays : Nat := 608473176555637667112425525536706507396897708281936853767240904567165557546874357760957296311312176382121648429668475723185330993650572982150837691125881418794
theorem kbX2_countWays : kd_nb cX2_countWays nbX2_countWays 66 = true := by decide +kernel
noncomputable def nbX3_init : Nat := 88067014257854251132473824938465703872361597368143235475424024337977973398146292184561450
theorem kbX3_init : kd_nb cX3_init nbX3_init 37 = true := by decide +kernel
noncomputable def nbX3_isWidthAndSlack : Nat := 3835990873001725404645974267900431403680207130
theorem kbX3_isWidthAndSlack : kd_nb cX3_isWidthAndSlack nbX3_isWidthAndSlack 19 = true := by decide +kernel
noncomputable def nbX3_canPart : Nat := 68365158468012093270176258360946227384208408255247899129458768680744828336928710857907727784776015653211728236059849133176468434161396060321814416926475987773972637483753932303066689879647346569781416243789826161201028301145548657833515
theorem kbX3_canPart : kd_nb cX3_canPart nbX3_canPart 98 = true := by decide +kernel
noncomputable def nbX3_chooseGroup : Nat := 19878901677865936444599195835441497112033272349066017306736938438374048750523019028412064812720906904981164193061950285375808679313585744014548033272235346352278921357344496771565518884965955658978945472734055630633502960631399372010230617574106772522
theorem kbX3_chooseGroup : kd_nb cX3_chooseGroup nbX3_chooseGroup 104 = true := by decide +kernel
noncomputable def nbX3_offer : Nat := 6749735355834284171916752394188980778284615711104864693853726434072928144335734983078435778931495863421415497857041518943214616959780526880935908934073928841041339169238706783007036955956398766714725106961892679485133456120574728562399770839916829251100621444692552415005242081050334600219
theorem kbX3_offer : kd_nb cX3_offer nbX3_offer 120 = true := by decide +kernel
noncomputable def nbX3_cost : Nat := 48464286565053482
theorem kbX3_cost : kd_nb cX3_cost nbX3_cost 7 = true := by decide +kernel
noncomputable def nbX3_groups : Nat := 48464286665716778
theorem kbX3_groups : kd_nb cX3_groups nbX3_groups 7 = true := by decide +kernel
noncomputable def nbX3_firstOnesAhead : Nat := 38715951975389140094431984230486824053761490403399011538765338609135035024540074771490957166667880679351460426531767967043539843130853531446128301372092022744366339
theorem kbX3_firstOnesAhead : kd_nb cX3_firstOnesAhead nbX3_firstOnesAhead 68 = true := by decide +kernel
noncomputable def nbX4_init : Nat := 80098249715544186527974797732443940399414335018369148601766572277082712225578
theorem kbX4_init : kd_nb cX4_init nbX4_init 32 = true := by decide +kernel
noncomputable def nbX4_nameOf : Nat := 1193949979770934036093364379871607985065611201808435024420659304611920899
theorem kbX4_nameOf : kd_nb cX4_nameOf nbX4_nameOf 30 = true := by decide +kernel
noncomputable def nbX4_clear : Nat := 194720944161578
theorem kbX4_clear : kd_nb cX4_clear nbX4_clear 6 = true := by decide +kernel
noncomputable def nbX4_append : Nat := 18672817884613826522299167980913765691601220012254064782240760509482
theorem kbX4_append : kd_nb cX4_append nbX4_append 28 = true := by decide +kernel
noncomputable def nbX4_lay : Nat := 6765183223187074653507317171969259253404891254453806782581908697195077595941096653990248010862288714656892305123080323834719482259046458418409431085434248650813974427711168359312367791594260848236831953517714983050662090646852954422109538445446083922919769387365258095541922648589527463467
theorem kbX4_lay : kd_nb cX4_lay nbX4_lay 120 = true := by decide +kernel
noncomputable def nbX4_changeTown : Nat := 29955752912727120047228038044570210761813789250549039370523746013597213190585367053451428862126035783561419263004850742496373276
theorem kbX4_changeTown : kd_nb cX4_changeTown nbX4_changeTown 53 = true := by decide +kernel
noncomputable def nbX4_learn : Nat := 227702722135276792088361708057312300944346120068449446816950879216608618508361821518148769335605827378314341258989007066465153594856172067385593363223604679192773250345239632953327599107674115429280211118634026
theorem kbX4_learn : kd_nb cX4_learn nbX4_learn 87 = true := by decide +kernel
noncomputable def nbX4_gives : Nat := 14477114001540458241398263758132755679371940940092680668160964786655244947418791731717024957370412952992309981069375929233939920616897510900133142323005692875412071105504513383520819261201168708878470464889957974826
theorem kbX4_gives : kd_nb cX4_gives nbX4_gives 89 = true := by decide +kernel
noncomputable def nbX4_work : Nat := 5583974602629754232639263233494006656386298307775455154373708133999225982766571631281702445136642909625797376652607917044505376926066670826639482368410467879577483933840402763623565016895193958479049880212030701301883121951133656962501129205341895161905815186641179
theorem kbX4_work : kd_nb cX4_work nbX4_work 110 = true := by decide +kernel
noncomputable def nbX4_join : Nat := 29875678387679538758918468905140035918449201161422667818756777834742353638727822323232448320026519958767913337007412240906543019106997909623365315395322828941463002733748572526319127768536769434048876492481569110448986524301028356671673843038748968979022772772919075651623150238608056835442685084872001875882724944637879540783283559448481422161623723295909956423727480535471891658111668185295333835436080912698194670319478112205942481530727172214496545034702685230525848008827906842
theorem kbX4_join : kd_nb cX4_join nbX4_join 200 = true := by decide +kernel
noncomputable def nbX4_quotient : Nat := 53362113661732644364071508507
theorem kbX4_quotient : kd_nb cX4_quotient nbX4_quotient 12 = true := by decide +kernel
noncomputable def nbX4_truth : Nat := 812302663699811996309786
theorem kbX4_truth : kd_nb cX4_truth nbX4_truth 10 = true := by decide +kernel
noncomputable def nbX4_push : Nat := 72940696112289121199300876072438092031558324981540836653163131946
theorem kbX4_push : kd_nb cX4_push nbX4_push 27 = true := by decide +kernel
noncomputable def nbX4_pop : Nat := 18114954727261266498419462635652792150774961625424540454341606159402
theorem kbX4_pop : kd_nb cX4_pop nbX4_pop 28 = true := by decide +kernel
noncomputable def nbX5_init : Nat := 258771440440108771238911450916557846196441468417834
theorem kbX5_init : kd_nb cX5_init nbX5_init 21 = true := by decide +kernel
noncomputable def nbX5_isKind : Nat := 228642873346908414640706166465497176858
theorem kbX5_isKind : kd_nb cX5_isKind nbX5_isKind 16 = true := by decide +kernel
noncomputable def nbX5_isUnder : Nat := 21900071641174292675031259997167166976902673510433578738048768480710451244964032326026870042
theorem kbX5_isUnder : kd_nb cX5_isUnder nbX5_isUnder 38 = true := by decide +kernel
noncomputable def nbX5_size : Nat := 739153851434
theorem kbX5_size : kd_nb cX5_size nbX5_size 5 = true := by decide +kernel
noncomputable def nbX5_isFull : Nat := 893136224011360994690023167249921066
theorem kbX5_isFull : kd_nb cX5_isFull nbX5_isFull 15 = true := by decide +kernel
noncomputable def nbX5_has : Nat := 14984339347662989861893631810589717302385435
theorem kbX5_has : kd_nb cX5_has nbX5_has 18 = true := by decide +kernel
noncomputable def nbX5_append : Nat := 77841986022803395448824752583317324835571188714399530623101645384102029866538
theorem kbX5_append : kd_nb cX5_append nbX5_append 32 = true := by decide +kernel
noncomputable def nbX5_kindOf : Nat := 3835903760716647093373948629763985341043579690
theorem kbX5_kindOf : kd_nb cX5_kindOf nbX5_kindOf 19 = true := by decide +kernel
noncomputable def nbX5_bodiesThatRan : Nat := 739338400810
theorem kbX5_bodiesThatRan : kd_nb cX5_bodiesThatRan nbX5_bodiesThatRan 5 = true := by decide +kernel
noncomputable def nbX5_traced : Nat := 4637323097887210978489237622305980157239914523336263636940858088004379
theorem kbX5_traced : kd_nb cX5_traced nbX5_traced 29 = true := by decide +kernel
noncomputable def nbX5_perform : Nat := 5610888635654187958912671364810926387211191111620096762175742757924859872733801932050757124906
theorem kbX5_perform : kd_nb cX5_perform nbX5_perform 39 = true := by decide +kernel
noncomputable def nbX5_call : Nat := 41146830913870535598084197276014686893156086446642930761597416553488652513344132151532664150785026655853637742543345688376038550559157772767745425220591225611724023862696770531604971390058380475830754748112802092996357556731133746795275313131654609777569052202847887800569957506268662844741749095519169432887602938806434271283340292783206176273948
theorem kbX5_call : kd_nb cX5_call nbX5_call 144 = true := by decide +kernel
noncomputable def nbX5_runLine : Nat := 3716778861533244176772451060027758376908934902755332818490568954867970084146515153760097605695422451483117789574456645795001799885204158795995565455393351847413248817868169619101652700159684985584143087466513079606058
theorem kbX5_runLine : kd_nb cX5_runLine nbX5_runLine 90 = true := by decide +kernel
noncomputable def nbX5_runUnder : Nat := 332066471717623900350493719867250961024716701167301625483386905523694193349736613688670461570986926609380787427240237708041190727085077432488446184309523244471364275307192369207637599369712502107297868004341188504086522157607271318085262086344118329359895162416610972590824856244978311884928824463577533755096846175701041677047151237639854879290374130985830155913670390380503658562268289314980274339005465471606047931986434054831938736631721327644652641787758217556478456697370458078171049574371997871391429187753912990726397707549515749316364030031881805355634462425563341106652532872805748757412808041558317866
theorem kbX5_runUnder : kd_nb cX5_runUnder nbX5_runUnder 254 = true := by decide +kernel
noncomputable def nbX6_init : Nat := 6346177129617641056786032631579775521738167512143479309066802938080557300296950504972113574698612858861354
theorem kbX6_init : kd_nb cX6_init nbX6_init 44 = true := by decide +kernel
noncomputable def nbX6_divide : Nat := 19822094136344912325382395859626437768966310068082092760168377289985322494007826773421325494941308595190623459109021471112952119788707166157742906991250252940570449439917753257255159839332658567438744057127922735005649766215923581647367503618481405443
theorem kbX6_divide : kd_nb cX6_divide nbX6_divide 104 = true := by decide +kernel
noncomputable def nbX6_sum : Nat := 53287047369292778911379272746
theorem kbX6_sum : kd_nb cX6_sum nbX6_sum 12 = true := by decide +kernel
noncomputable def nbX6_howMany : Nat := 739405509674
theorem kbX6_howMany : kd_nb cX6_howMany nbX6_howMany 5 = true := by decide +kernel
noncomputable def nbX6_begin : Nat := 4217620787937640654019917724835677468747442136252132924187
theorem kbX6_begin : kd_nb cX6_begin nbX6_begin 24 = true := by decide +kernel
noncomputable def nbX6_workOutSpreads : Nat := 19871909757963761308012511027061127136045204628674902533243306072799477671042956939694854212132547852559789853882180956670978677941102399014079226383526072772238672061344442506983648571195979170997435626489533176543276390543035214770946172619589682204
theorem kbX6_workOutSpreads : kd_nb cX6_workOutSpreads nbX6_workOutSpreads 104 = true := by decide +kernel
noncomputable def nbX6_sortIn : Nat := 503418174983620229422890738419564571004472040045366302023215335817468455014094926477600771103114743455378102734087015670876490014403100
theorem kbX6_sortIn : kd_nb cX6_sortIn nbX6_sortIn 56 = true := by decide +kernel
noncomputable def nbX6_workOutSums : Nat := 5086761415164970676646348383135288747907786388320311734580242777563013319292370229376418676867064180913715705042569963274599582012738306221928888080225409842559518556362417769164231085646222173600549207484264997677395651099206625437672718498864876568067
theorem kbX6_workOutSums : kd_nb cX6_workOutSums nbX6_workOutSums 105 = true := by decide +kernel
noncomputable def nbX6_findBreaks : Nat := 303261287352398637407336833885091432413884691707828941523330330326701618529047504331777147924499514060989131344019660699947169195380307592438538774602388550761019539162190812280176761096026661682850203486169197257161126300488435149404861930452010
theorem kbX6_findBreaks : kd_nb cX6_findBreaks nbX6_findBreaks 102 = true := by decide +kernel
noncomputable def nbX7_init : Nat := 14026170985059538804269505361706
theorem kbX7_init : kd_nb cX7_init nbX7_init 13 = true := by decide +kernel
noncomputable def nbX7_isRod : Nat := 3835990873001725404646210071985081161718698010
theorem kbX7_isRod : kd_nb cX7_isRod nbX7_isRod 19 = true := by decide +kernel
noncomputable def nbX7_isParts : Nat := 228642873346908414640777953519337538586
theorem kbX7_isParts : kd_nb cX7_isParts nbX7_isParts 16 = true := by decide +kernel
noncomputable def nbX7_lookAt : Nat := 1972407844823831172254770578648752987998976902205376656208505442379166264464261506276571350628974680730701351503554047834789413978922
theorem kbX7_lookAt : kd_nb cX7_lookAt nbX7_lookAt 55 = true := by decide +kernel
noncomputable def nbX7_misfitBy : Nat := 137795249935938953017925690852317016573845934969840882324462296029935813739004709409616032344401177932639659093786979102453502074781795526273369415195
theorem kbX7_misfitBy : kd_nb cX7_misfitBy nbX7_misfitBy 62 = true := by decide +kernel
noncomputable def nbX7_err : Nat := 4640165179513297674869040608976581042771778658901854793024919524384027
theorem kbX7_err : kd_nb cX7_err nbX7_err 29 = true := by decide +kernel
noncomputable def nbX7_bestRod : Nat := 103478850333311459416793250681627416817058270884752902987278284517143926432766028543289775004570075989507011586064
theorem kbX7_bestRod : kd_nb cX7_bestRod nbX7_bestRod 47 = true := by decide +kernel
noncomputable def nbX7_byChance : Nat := 5417069407862124295838057621793144358886793380897446874119569504760465537211892035185407450044312882714935734693294796712429006678531011978745792391534224555109259731783292721627412188008530961000353014061962266460969192051887929375419372649465446731053249700047658
theorem kbX7_byChance : kd_nb cX7_byChance nbX7_byChance 110 = true := by decide +kernel
noncomputable def nbX7_drawnWidth : Nat := 251928850782552408808055737213772925865342630140954
theorem kbX7_drawnWidth : kd_nb cX7_drawnWidth nbX7_drawnWidth 21 = true := by decide +kernel
noncomputable def nbX8_init : Nat := 15423979785275004935431156884220339577468714
theorem kbX8_init : kd_nb cX8_init nbX8_init 18 = true := by decide +kernel
noncomputable def nbX8_isSort : Nat := 893136224011360994690538880934910746
theorem kbX8_isSort : kd_nb cX8_isSort nbX8_isSort 15 = true := by decide +kernel
noncomputable def nbX8_isEmpty : Nat := 3488813375044378885506597308642346
theorem kbX8_isEmpty : kd_nb cX8_isEmpty nbX8_isEmpty 14 = true := by decide +kernel
noncomputable def nbX8_holdsLine : Nat := 893136224011360994689965992477504554
theorem kbX8_holdsLine : kd_nb cX8_holdsLine nbX8_holdsLine 15 = true := by decide +kernel
noncomputable def nbX8_holdsShorts : Nat := 3488813375044378885506605898576938
theorem kbX8_holdsShorts : kd_nb cX8_holdsShorts nbX8_holdsShorts 14 = true := by decide +kernel
noncomputable def nbX8_holdsRowLike : Nat := 70761541903348507349758585354963191532124241266238411597452194858
theorem kbX8_holdsRowLike : kd_nb cX8_holdsRowLike nbX8_holdsRowLike 27 = true := by decide +kernel
noncomputable def nbX8_line : Nat := 739120297002
theorem kbX8_line : kd_nb cX8_line nbX8_line 5 = true := by decide +kernel
noncomputable def nbX8_holdNothing : Nat := 194677994488362
theorem kbX8_holdNothing : kd_nb cX8_holdNothing nbX8_holdNothing 6 = true := by decide +kernel
noncomputable def nbX8_holdLine : Nat := 54806655373047284460506976298
theorem kbX8_holdLine : kd_nb cX8_holdLine nbX8_holdLine 12 = true := by decide +kernel
noncomputable def nbX8_holdRow : Nat := 80485181942521247027400999557527865814213020582078425943118318462188437969706
theorem kbX8_holdRow : kd_nb cX8_holdRow nbX8_holdRow 32 = true := by decide +kernel
noncomputable def nbX8_refusal : Nat := 5636868457653163428503472645070981537231994062100195024943470633480069656696045227705999865386
theorem kbX8_refusal : kd_nb cX8_refusal nbX8_refusal 39 = true := by decide +kernel
noncomputable def nbX8_spans : Nat := 77803138122090350581234672989375287890825235456048887554842968520482965461787
theorem kbX8_spans : kd_nb cX8_spans nbX8_spans 32 = true := by decide +kernel
noncomputable def nbX8_read : Nat := 987856458730680402086813277952915296879556959018
theorem kbX8_read : kd_nb cX8_read nbX8_read 20 = true := by decide +kernel
noncomputable def nbX8_write : Nat := 259143334258782214017487866735106749164346495212330
theorem kbX8_write : kd_nb cX8_write nbX8_write 21 = true := by decide +kernel
noncomputable def nbX8_cut : Nat := 38943437765791550129086176684920377623403444661924154571054391247770316791954594071279432577278798918618221584672372454076335736129645516516478904159198648878543914
theorem kbX8_cut : kd_nb cX8_cut nbX8_cut 68 = true := by decide +kernel
noncomputable def nbX8_copyTo : Nat := 344163545796315547770410159384704204133686097217464054743675582106808097643710723202090
theorem kbX8_copyTo : kd_nb cX8_copyTo nbX8_copyTo 36 = true := by decide +kernel
noncomputable def nbX9_init : Nat := 4773806472258867885121287059950180422043714591876918154452038202734378
theorem kbX9_init : kd_nb cX9_init nbX9_init 29 = true := by decide +kernel
noncomputable def nbX9_size : Nat := 739086742570
theorem kbX9_size : kd_nb cX9_size nbX9_size 5 = true := by decide +kernel
noncomputable def nbX9_isFull : Nat := 893136224011360994690012172066534442
theorem kbX9_isFull : kd_nb cX9_isFull nbX9_isFull 15 = true := by decide +kernel
noncomputable def nbX9_clear : Nat := 194703764292394
theorem kbX9_clear : kd_nb cX9_clear nbX9_clear 6 = true := by decide +kernel
noncomputable def nbX9_has : Nat := 14984339347662989861893558023613422464178971
theorem kbX9_has : kd_nb cX9_has nbX9_has 18 = true := by decide +kernel
noncomputable def nbX9_hasRow : Nat := 77803138122090350580982280256721495653374221646189914038335222474789428960027
theorem kbX9_hasRow : kd_nb cX9_hasRow nbX9_hasRow 32 = true := by decide +kernel
noncomputable def nbX9_allows : Nat := 46777339636009819316297247425097895898612571372106211483164651320368570740788379440153388109566155688812813220632704076989167033203781407756742744825048828412613823955475090515099501238811
theorem kbX9_allows : kd_nb cX9_allows nbX9_allows 78 = true := by decide +kernel
noncomputable def nbX9_wouldTake : Nat := 1578035115841722717061808567967245346453863234035756066189175507370573703682282930182244165033695959128343338
theorem kbX9_wouldTake : kd_nb cX9_wouldTake nbX9_wouldTake 45 = true := by decide +kernel
noncomputable def nbX9_append : Nat := 54818744649830362645657823786
theorem kbX9_append : kd_nb cX9_append nbX9_append 12 = true := by decide +kernel
noncomputable def nbX9_fact : Nat := 982013663488660208869216561530834220569796680746
theorem kbX9_fact : kd_nb cX9_fact nbX9_fact 20 = true := by decide +kernel
noncomputable def nbX9_tell : Nat := 60335139104121144965031106972015931038762
theorem kbX9_tell : kd_nb cX9_tell nbX9_tell 17 = true := by decide +kernel
noncomputable def nbX9_width : Nat := 3835990873002578853001625234020797701896411946
theorem kbX9_width : kd_nb cX9_width nbX9_width 19 = true := by decide +kernel
noncomputable def nbX9_aside : Nat := 3835990873002578855786990322412903320419441450
theorem kbX9_aside : kd_nb cX9_aside nbX9_aside 19 = true := by decide +kernel
noncomputable def nbX9_facts : Nat := 18542369235082830370043237853621708907718653572515845764976056769051
theorem kbX9_facts : kd_nb cX9_facts nbX9_facts 28 = true := by decide +kernel
noncomputable def nbX9_begin : Nat := 5101904387762794793584099534681544325176902327876683637149741700536792182673325315
theorem kbX9_begin : kd_nb cX9_begin nbX9_begin 34 = true := by decide +kernel
noncomputable def nbX9_length : Nat := 984180058947758955462961309815810506147274693418
theorem kbX9_length : kd_nb cX9_length nbX9_length 20 = true := by decide +kernel
noncomputable def nbX9_endsAt : Nat := 334168632911866411243505263242307863689205006178505660486216873538513193105550695677187
theorem kbX9_endsAt : kd_nb cX9_endsAt nbX9_endsAt 36 = true := by decide +kernel
noncomputable def nbX9_kinks : Nat := 77847129826343605629152687697983178781872920454377933301562252859040183041027
theorem kbX9_kinks : kd_nb cX9_kinks nbX9_kinks 32 = true := by decide +kernel
noncomputable def nbX9_turns : Nat := 488653400622606339290626508080389916636892719971325434635534008052099441581586397747978259402878470441071271756797186425350105008913411
theorem kbX9_turns : kd_nb cX9_turns nbX9_turns 56 = true := by decide +kernel
noncomputable def nbX9_longestAbove : Nat := 68405008430198444875884514287545867131854832673418128260162410837302195098146517542450905308060271400154523691764356762737474149098719162655312004420530354231070908559119097517321229674724792605897399795425731123163728040995171520609808
theorem kbX9_longestAbove : kd_nb cX9_longestAbove nbX9_longestAbove 98 = true := by decide +kernel
noncomputable def nbX9_leastDeep : Nat := 1436058036781280760090706229511189590412399931994916525844351724714326152337698679157025658900507
theorem kbX9_leastDeep : kd_nb cX9_leastDeep nbX9_leastDeep 40 = true := by decide +kernel
noncomputable def nbX9_join : Nat := 7678318913421480119743856344245785206975555027512309974515263788833764841439797474370561400618274282563779301153452748967710694186
theorem kbX9_join : kd_nb cX9_join nbX9_join 54 = true := by decide +kernel
noncomputable def nbX9_part : Nat := 106494669938465091671109885235616991258682969631732697485354385587319484753283658415258331735005245772020932025130
theorem kbX9_part : kd_nb cX9_part nbX9_part 47 = true := by decide +kernel
noncomputable def nbX9_stepAside : Nat := 16978674782040490773022293692213640580656440142691606043
theorem kbX9_stepAside : kd_nb cX9_stepAside nbX9_stepAside 23 = true := by decide +kernel
noncomputable def nbX9_insert : Nat := 26332399073217785239834624902545204262070364383727577364311484413439071647172057815296890403175641301081031125187349639430300457752519498546587241956639881413878936474863655034864373699610524168406203869624936866132031823748836232635716704927856133849830550557795705513620201474336273962
theorem kbX9_insert : kd_nb cX9_insert nbX9_insert 119 = true := by decide +kernel
noncomputable def nbX9_remove : Nat := 3155962114663701100690002639829216186353652058604950663530167263784638587766226968000473063032612418627765091883863405159540697975986059199380967271983408014021718479381172264535742068313955114
theorem kbX9_remove : kd_nb cX9_remove nbX9_remove 80 = true := by decide +kernel
noncomputable def nbX10_init : Nat := 14026170985059561322267608659754
theorem kbX10_init : kd_nb cX10_init nbX10_init 13 = true := by decide +kernel
noncomputable def nbX10_size : Nat := 738952524842
theorem kbX10_size : kd_nb cX10_size nbX10_size 5 = true := by decide +kernel
noncomputable def nbX10_hasRoomFor : Nat := 58532575576808554148047295886799386227754
theorem kbX10_hasRoomFor : kd_nb cX10_hasRoomFor nbX10_hasRoomFor 17 = true := by decide +kernel
noncomputable def nbX10_take : Nat := 29116211962698766736487088637707816790072371091481221546843411770326355797908952916052413470832116658272706861350118775225925123
theorem kbX10_take : kd_nb cX10_take nbX10_take 53 = true := by decide +kernel
noncomputable def nbX10_clear : Nat := 194669404554026
theorem kbX10_clear : kd_nb cX10_clear nbX10_clear 6 = true := by decide +kernel
noncomputable def nbX10_readInto : Nat := 13170832789234748053541082898916918199646012080587127130117325814677240217319730208942202462201794256676254039758938816553861333603366957426365219604031006954534745151530901537925710440467955486911955754
theorem kbX10_readInto : kd_nb cX10_readInto nbX10_readInto 84 = true := by decide +kernel
noncomputable def nbX10_next : Nat := 77801371275042866064548681664425761573849051714100949343757081609785332249642
theorem kbX10_next : kd_nb cX10_next nbX10_next 32 = true := by decide +kernel
noncomputable def nbX10_readLine : Nat := 536991481106109743840349662280412262823537680061174429248606187991732958341396677280518908934663597889258401677541045546093130979602777713309582122
theorem kbX10_readLine : kd_nb cX10_readLine nbX10_readLine 61 = true := by decide +kernel
noncomputable def nbX10_readChain : Nat := 1043210618482784910354539696900654745730285182337192244349765232652419550315301125324211309713622086940520041094257938790557550770621595942290018140833691526078777894743955095616546910391730231758844382723660053100517801646880786459
theorem kbX10_readChain : kd_nb cX10_readChain nbX10_readChain 96 = true := by decide +kernel
noncomputable def nbX10_joins : Nat := 429135054859544144363101484304569406455716152274040547088535615536269727945374539003048907455936317357540700655443995675854536613444511695655045937198692831786404835049073065127757497179716177441713158182436746253887399885411264024153341531107238327630994698379770312277209018321400954129263130
theorem kbX10_joins : kd_nb cX10_joins nbX10_joins 122 = true := by decide +kernel
noncomputable def nbX10_readOperand : Nat := 82764747622972112899221332504924688430005250831941493087733157191573178052129886040172757269699767302778872263577463713795686449642191731758882422934032436071137117727505938908501701658541886346323640573938932604605261003564276181279663545457649680892215473706
theorem kbX10_readOperand : kd_nb cX10_readOperand nbX10_readOperand 108 = true := by decide +kernel
noncomputable def nbX10_readInner : Nat := 77804994693369851212979215344487504612031115205526116370870477951817016345386
theorem kbX10_readInner : kd_nb cX10_readInner nbX10_readInner 32 = true := by decide +kernel
noncomputable def nbX10_readSigned : Nat := 77805160335399846970288624150235620138378112250828744828280892742234541530154
theorem kbX10_readSigned : kd_nb cX10_readSigned nbX10_readSigned 32 = true := by decide +kernel
noncomputable def nbX10_readNumber : Nat := 553049494881915189316560579344313338658529655765166749240767435626470486024344423119436116615053016665068726505618151629951659944745133532709600259
theorem kbX10_readNumber : kd_nb cX10_readNumber nbX10_readNumber 61 = true := by decide +kernel
noncomputable def nbX10_isDigit : Nat := 14984339347662989861898945582425304497917978
theorem kbX10_isDigit : kd_nb cX10_isDigit nbX10_isDigit 18 = true := by decide +kernel
noncomputable def nbX11_init : Nat := 45158925079304476569497035366009299293708698472924067848602273552748176737230029064930377656399086140253223343576574042975751829180420628680048556683189914646446661436829520282722648106137077483809313511106071575221693262643497654709727249214664738877412320082454967324147864528077471879964921360081401560576083203594876538042504404541020105912378946449785825247677724126468982872046812479982720551786619182613288334482672730915347057838597651665416882665361226568968304114241833077506834290474305715329583302500471819817866802986
theorem kbX11_init : kd_nb cX11_init nbX11_init 220 = true := by decide +kernel
noncomputable def nbX11_street : Nat := 4663761426599077967674110835756852949523569988413492527349213138301994
theorem kbX11_street : kd_nb cX11_street nbX11_street 29 = true := by decide +kernel
noncomputable def nbX11_plot : Nat := 12001377837844837329863345996431923842449365913626834683558141444871620474107599068045236193441630935309440523049860549552678312862357697807124849338888098840997894066123232442370135558593322
theorem kbX11_plot : kd_nb cX11_plot nbX11_plot 79 = true := by decide +kernel
noncomputable def nbX11_plots : Nat := 4075257604961613179466614429866016680327451974434137361538313352144076297072977898215959784197295900159758729630785659637131001098093001358251352094261729339719768486673736913077096451209232871603111296951774159491066962065627946
theorem kbX11_plots : kd_nb cX11_plots nbX11_plots 95 = true := by decide +kernel
noncomputable def nbX11_mend : Nat := 75173524769448391341902928901331860933931342972120478234703471626996155068686433623460264482379553857222054886076414839865214501156813347562156437179778226393487247960663906639024830414650554799302354703596755392824756522740568234805793282513214491
theorem kbX11_mend : kd_nb cX11_mend nbX11_mend 103 = true := by decide +kernel
noncomputable def nbX11_of : Nat := 23333714318455185006835447021052351934032142129302075021320759714754497017612245642768325735722008688515304073605809012411036095391921244130891728807205985706862872858187567195528191194689425429843611026632941058668331501344767219496283485504800918001716954743788383147268906
theorem kbX11_of : kd_nb cX11_of nbX11_of 114 = true := by decide +kernel
noncomputable def nbX11_misfit : Nat := 42702176184463268223710161913618261544779745576961345171852640642822934638585219093582575580602094959477847097299684691565225358896435024542615812313411626789205693261950622506
theorem kbX11_misfit : kd_nb cX11_misfit nbX11_misfit 73 = true := by decide +kernel
noncomputable def nbX11_rod : Nat := 201655325536528261663353248233338612853488930920581694070610445325263941278882496371434318570977748809372251584969382596771064981181549702580276362475910379916015217687920417417274200464903248419626
theorem kbX11_rod : kd_nb cX11_rod nbX11_rod 82 = true := by decide +kernel
noncomputable def nbX11_chance : Nat := 183429347247011992553414910551913166522636509060229590745728535979368196178937345167012763311085768688717875749242511370722886072129494002114330029912772878810456827267023192805757819690
theorem kbX11_chance : kd_nb cX11_chance nbX11_chance 77 = true := by decide +kernel
noncomputable def nbX11_first : Nat := 4092184269392412724962016894122171370261206273336937769915125155235465556032385237978340818660987041014129985980226290730060712302659121925768752473486984587825015337853737989149670525437533464063568346317665753925586108546423594
theorem kbX11_first : kd_nb cX11_first nbX11_first 95 = true := by decide +kernel
noncomputable def nbX11_led : Nat := 183765706144931684613266843320819079124592551225557758204778456901669165226565478379662353571656942451166835172682025014340450207917080049508548870541855252052863504720507466320682458139
theorem kbX11_led : kd_nb cX11_led nbX11_led 77 = true := by decide +kernel
noncomputable def nbX11_pieces : Nat := 5416322882267043540576912502514726731668973370612254298206530282198186529691099604940648879723009218110095212865514709770125594374525545593309395457836977669724660907572178784117520223596610496771820274896434262802271001142680846389635862010135096014716046612503338
theorem kbX11_pieces : kd_nb cX11_pieces nbX11_pieces 110 = true := by decide +kernel
noncomputable def nbX11_bend : Nat := 8231582808032775339768133261402235610780161359590109890101919038738034081295756665997916616119777602588785809874735614734451034661221351165979
theorem kbX11_bend : kd_nb cX11_bend nbX11_bend 59 = true := by decide +kernel
noncomputable def nbX11_order : Nat := 202052544198307080385118543747070675759696754997202019784587771562542121771853933844938292771609944118444532002762853632237354616636694128833429613753259275264965651313056853454062621135383746970139
theorem kbX11_order : kd_nb cX11_order nbX11_order 82 = true := by decide +kernel
noncomputable def nbX11_wall : Nat := 10945607604128322905790278317278361546427077636257649580156830638004682502104254416950928367898194358300244690025399174560861411653377655796353355871690785916642316726495822093098
theorem kbX11_wall : kd_nb cX11_wall nbX11_wall 74 = true := by decide +kernel
noncomputable def nbX11_furrow : Nat := 3855415792915943319270174952745452002499500842
theorem kbX11_furrow : kd_nb cX11_furrow nbX11_furrow 19 = true := by decide +kernel
noncomputable def nbX11_market : Nat := 113706831505101872520446828250267353989020687590800113726183297950701706598202349568580915151135379154040632565853977956457258
theorem kbX11_market : kd_nb cX11_market nbX11_market 52 = true := by decide +kernel
noncomputable def nbX11_deed : Nat := 717493430418220367993274934940627167830199111150974214727280000686878969336501507648817803389876925186818630880454242489982777624105415158285236817249719596514488661292280503264219163
theorem kbX11_deed : kd_nb cX11_deed nbX11_deed 76 = true := by decide +kernel
noncomputable def nbX11_stands : Nat := 1586276915779741243500896284371374777327020230791344687698524315954150884841706398401932694173956119350786075
theorem kbX11_stands : kd_nb cX11_stands nbX11_stands 45 = true := by decide +kernel
noncomputable def nbX11_burn : Nat := 12460616526661202986
theorem kbX11_burn : kd_nb cX11_burn nbX11_burn 8 = true := by decide +kernel
noncomputable def nbX11_all : Nat := 83111970268832544803835717090473117431218843703782403371240830616936232893982394461456852282429328441315325504767470056452792414708804050651921731006568048445355375655911186431018736224209790909793192854516550732799399815580864724045087460995584646731808512810
theorem kbX11_all : kd_nb cX11_all nbX11_all 108 = true := by decide +kernel
noncomputable def nbX11_feed : Nat := 22023990645071766142726362940177348976205136903563357957511791058821636983991830576491463707
theorem kbX11_feed : kd_nb cX11_feed nbX11_feed 38 = true := by decide +kernel
noncomputable def nbX11_law : Nat := 35268951988061444495706144555345632145759743139529294046906300112633736425728029010871589019497209506056860257771608515160121370643780675609795179426858
theorem kbX11_law : kd_nb cX11_law nbX11_law 63 = true := by decide +kernel
noncomputable def nbX11_town : Nat := 56662043653779164884261099322361427720561689793323398708453490772924693964613067300867327703227217470645470401834706839303352191390543932966506732245230452942943438908582662147888766731425837742221242779362696220
theorem kbX11_town : kd_nb cX11_town nbX11_town 88 = true := by decide +kernel
noncomputable def nbX11_story : Nat := 243014159926990155659805455741232109454713008336817474137428725529578409952014650511434964817968927770838992826202699832439997524233187532969146564404264850811172794073635717125863426852446903627735213833921218974949186346
theorem kbX11_story : kd_nb cX11_story nbX11_story 92 = true := by decide +kernel
noncomputable def nbX11_dig : Nat := 1049116799898157720120190969791722417610639791276807285864752236704766456630584462102150146626585239709039954442057822772897442663045404975168101238812554854175786340033174476398790291300662654010888541042820192767062380622657920027
theorem kbX11_dig : kd_nb cX11_dig nbX11_dig 96 = true := by decide +kernel
noncomputable def nbX11_undo : Nat := 38731084435518962963729632228368758525178792904452906034799354893201380762049313736008201354892781597128017321934166429938433494386421238295614847316676493644444714
theorem kbX11_undo : kd_nb cX11_undo nbX11_undo 68 = true := by decide +kernel
noncomputable def nbX11_redo : Nat := 2537217321806363133217356750505271437482664726079510176418478392926699598557305028580569170619944565566088294365013261154624158103421356497969055826899137274348642022442
theorem kbX11_redo : kd_nb cX11_redo nbX11_redo 70 = true := by decide +kernel
noncomputable def nbX11_body : Nat := 19944285769131581231476265172439278466090925589620323243471704568282532263606299
theorem kbX11_body : kd_nb cX11_body nbX11_body 33 = true := by decide +kernel
noncomputable def nbX11_act : Nat := 208237503998039741878547498
theorem kbX11_act : kd_nb cX11_act nbX11_act 11 = true := by decide +kernel
noncomputable def nbX11_trace : Nat := 3177668321181949801514
theorem kbX11_trace : kd_nb cX11_trace nbX11_trace 9 = true := by decide +kernel
noncomputable def nbX11_keep : Nat := 103421100111947272342886983900440888986463318546616924663852642862613196577209280333534383164231702976943724305194
theorem kbX11_keep : kd_nb cX11_keep nbX11_keep 47 = true := by decide +kernel
noncomputable def nbX11_row : Nat := 24079616258365342052008871151838541581873875851322182583337877130126951697536569758932918647482192632618
theorem kbX11_row : kd_nb cX11_row nbX11_row 43 = true := by decide +kernel
noncomputable def nbX11_put : Nat := 5606476033636159906004595827792371880265493069603796761551003986751547497770418424901822454570
theorem kbX11_put : kd_nb cX11_put nbX11_put 39 = true := by decide +kernel
noncomputable def nbX11_element : Nat := 1196563493156172803718159149566871601907472054278328360328198721606392618
theorem kbX11_element : kd_nb cX11_element nbX11_element 30 = true := by decide +kernel
noncomputable def nbX11_shift : Nat := 17502302488805451838502105725393581772851799803492193964395809296052716195181796987413417262499068630087193851902701091723242970465345896072896787246489549776600964278223098081458755014981043921598254959412240749442641252657465106978183978
theorem kbX11_shift : kd_nb cX11_shift nbX11_shift 99 = true := by decide +kernel
noncomputable def nbX11_taken : Nat := 2549685615266835861744804528352672706316200071100022888161248417395324991461248519282461318616757672981778764581144232800014217588375824451217122150996113837232743652138
theorem kbX11_taken : kd_nb cX11_taken nbX11_taken 70 = true := by decide +kernel
noncomputable def nbX11_count : Nat := 82647763646807311457895807276765720064044219411421329946358080273741923131649767440342879370712962214281037392110602721213376363969856071302267547582798428559961999339274438697112764245627525334959100390802127456957602291502538846076578430176467999990833261083
theorem kbX11_count : kd_nb cX11_count nbX11_count 108 = true := by decide +kernel
noncomputable def nbX11_knownStreet : Nat := 79608855822312814872297920872509299204161931138689510925952930763013722512155
theorem kbX11_knownStreet : kd_nb cX11_knownStreet nbX11_knownStreet 32 = true := by decide +kernel
noncomputable def nbX11_knownLaw : Nat := 79608855822312815248924024995710145054726238546405803698291939199943192910619
theorem kbX11_knownLaw : kd_nb cX11_knownLaw nbX11_knownLaw 32 = true := by decide +kernel
noncomputable def nbX11_knownShelf : Nat := 4315604721581842646639223042553912777439258304156914457371
theorem kbX11_knownShelf : kd_nb cX11_knownShelf nbX11_knownShelf 24 = true := by decide +kernel
noncomputable def nbX11_isTown : Nat := 18114954727257217881528963191399041524378565691612705618346700640538
theorem kbX11_isTown : kd_nb cX11_isTown nbX11_isTown 28 = true := by decide +kernel
noncomputable def nbX11_drawAfter : Nat := 814022043297454693094170
theorem kbX11_drawAfter : kd_nb cX11_drawAfter nbX11_drawAfter 10 = true := by decide +kernel
noncomputable def nbX11_plotCame : Nat := 2535885193431129513438923952923689029405595380501390556417961608511897188176545221923919876470745124684615635464847270558524307844634536878439992519467274661854992971306
theorem kbX11_plotCame : kd_nb cX11_plotCame nbX11_plotCame 70 = true := by decide +kernel
noncomputable def nbX11_storySeeds : Nat := 42545741971102919976084979440836361609272372057359955745454764391367593751611477562443259459718641903113341069450288874239658532575628760643490186699463493488961008235530617881
theorem kbX11_storySeeds : kd_nb cX11_storySeeds nbX11_storySeeds 73 = true := by decide +kernel
noncomputable def nbX11_likeliestLaw : Nat := 125027859652544232534459892058333087426149103795100559963969352787494090018049768603452749479661281893025073456238924171946660297890346499
theorem kbX11_likeliestLaw : kd_nb cX11_likeliestLaw nbX11_likeliestLaw 57 = true := by decide +kernel
noncomputable def nbX12_within : Nat := 3835990873001725404639306027888771831547830302
theorem kbX12_within : kd_nb cX12_within nbX12_within 19 = true := by decide +kernel
noncomputable def nbX12_size : Nat := 208058096336381099926133786
theorem kbX12_size : kd_nb cX12_size nbX12_size 11 = true := by decide +kernel
noncomputable def nbX12_init : Nat := 24698352607054597912698460372449298356091778657926291066249245541588489606808399893625132073493549507622691166308608153748814693230809281981531750340858390744359262796803920472542093986909888856281525636721556952823025721376182722992656320127209451513044313650129952092632289014875910487599747873716098840459208431770828604453791103289018939797538676044946734491448249365376105814192018355942250767971406870432250775675060085663518215357372100773044864603168490480231824250637551735817493445900219512584289063245505920810199656657518401117440034523712858155906192422119068558187123120976626616861632693679839565021555474053510954
theorem kbX12_init : kd_nb cX12_init nbX12_init 261 = true := by decide +kernel
noncomputable def nbX12_becomes : Nat := 49720114821676902282519437810822353044465260887249465052843889309642564482110181604905768738201376024729245848985407043542983896578830282327333967991912519244297686644768679916601716935595468884912773126621060013464338816296647853755358660891968636832081138577587333284659348146045757993891790934285699916850481556983484521595862367318397557634569277372084884914432947242
theorem kbX12_becomes : kd_nb cX12_becomes nbX12_becomes 154 = true := by decide +kernel
noncomputable def nbX12_undo : Nat := 26532746029255556834189010342193311004270400301298800015727955903200294625254401635684897193318933534403051705644074
theorem kbX12_undo : kd_nb cX12_undo nbX12_undo 48 = true := by decide +kernel
noncomputable def nbX12_redo : Nat := 125301279963210717830169091483774678645425210248561009486906973423556210754533271097350252735660928899295544369985949044485536837787497514
theorem kbX12_redo : kd_nb cX12_redo nbX12_redo 57 = true := by decide +kernel
noncomputable def nbX12_isStreet : Nat := 3497210544614412669504922908722459
theorem kbX12_isStreet : kd_nb cX12_isStreet nbX12_isStreet 14 = true := by decide +kernel
noncomputable def nbX12_width : Nat := 53287486148166447966225216554
theorem kbX12_width : kd_nb cX12_width nbX12_width 12 = true := by decide +kernel
noncomputable def nbX12_depth : Nat := 228868010290045050641142895292060841002
theorem kbX12_depth : kd_nb cX12_depth nbX12_depth 16 = true := by decide +kernel
noncomputable def nbX12_aside : Nat := 228868010290045050641149651791013524522
theorem kbX12_aside : kd_nb cX12_aside nbX12_aside 16 = true := by decide +kernel
noncomputable def nbX12_atOf : Nat := 4640262790170821712937825934509658877934669464251468501293942660349443
theorem kbX12_atOf : kd_nb cX12_atOf nbX12_atOf 29 = true := by decide +kernel
noncomputable def nbX12_kinksOf : Nat := 5609600711530405149531499261703719121233794416485656105748637340418811631504669467569450859779
theorem kbX12_kinksOf : kd_nb cX12_kinksOf nbX12_kinksOf 39 = true := by decide +kernel
noncomputable def nbX12_street : Nat := 5618656676945785073210007711147190439854333955337064636919555280429433701131581542682375271466
theorem kbX12_street : kd_nb cX12_street nbX12_street 39 = true := by decide +kernel
noncomputable def nbX12_sets : Nat := 106602743010667602351829449011789107537820817795037213742961961570077884296919150088750447115738571757138965738538
theorem kbX12_sets : kd_nb cX12_sets nbX12_sets 47 = true := by decide +kernel
noncomputable def nbX12_mayCome : Nat := 8193626774642619667853058117470525788164869842617957926034049511676226295524446878964723386294431047585452500663298893892481260605397468349724
theorem kbX12_mayCome : kd_nb cX12_mayCome nbX12_mayCome 59 = true := by decide +kernel
noncomputable def nbX12_plot : Nat := 15952567057621423145336666026869930018038231344074364457233949313130288622478206127785927563132922143038451731061714535076028273367820118213189132032311697241072907547805348816938951798739439224443299111665218455723696689912618
theorem kbX12_plot : kd_nb cX12_plot nbX12_plot 94 = true := by decide +kernel
noncomputable def nbX12_plots : Nat := 301363034380199846982563762256355524133764658056579560660224604843912187318857153334063648282967022491584667536488799442311439188523933489663813805947092785282859693523606675388310539370786197177909621170591588330785860407836965637120280630684451112516917069148778043388792222439139638739101767436910472297129409436193673508241331135689431619908662490477242482855085204279454741866695841774044689441368379450911312631303171147993690725898852700571473651929555348370253482271365422724929173768310614300399766022321590820378224609738913602652762244683477245525596314848491441283970543208887465419348778
theorem kbX12_plots : kd_nb cX12_plots nbX12_plots 249 = true := by decide +kernel
noncomputable def nbX12_isPlot : Nat := 77803138122090350580990325861353932611827658075590194695525385232491205761834
theorem kbX12_isPlot : kd_nb cX12_isPlot nbX12_isPlot 32 = true := by decide +kernel
noncomputable def nbX12_mend : Nat := 8732761914285830182985350069379778125481184276208637867704313880456269811620529451433335383931452514856622166423079701539931017876539856303685136279033146814756479644212657797499614937787009586181821501070363547332930057834531945533341147694447572010788225678515567323397408811526800627115211522323229154088828924437895093019
theorem kbX12_mend : kd_nb cX12_mend nbX12_mend 135 = true := by decide +kernel
noncomputable def nbX12_of : Nat := 2971869385264486732857109895844067920577299101110583694375827445616636804409146119789389671247020500394218343845319777393778968721579903741195014206115972115561691707373462259269410412691535984684820467567908983309492004703195451346582486189142513747811790447912733142527462795199909532221186029456265116730905443713682701276813042119995671170876257535777809242922
theorem kbX12_of : kd_nb cX12_of nbX12_of 151 = true := by decide +kernel
noncomputable def nbX12_looks : Nat := 14477492844336102283511037896584169503549732095225822850194534034229345923066199341232389407390354881636261934138210058338764725488717813039119912175745733142431998589494422807962084225800441693402345806594154306346
theorem kbX12_looks : kd_nb cX12_looks nbX12_looks 89 = true := by decide +kernel
noncomputable def nbX12_misfitOf : Nat := 13198163573448917807728294023394171498907928348560128847860636337977829130240065882167198819378950378390214853947336805288522082481138607723814811869402109179754122375981487963395167482453468870223281667
theorem kbX12_misfitOf : kd_nb cX12_misfitOf nbX12_misfitOf 84 = true := by decide +kernel
noncomputable def nbX12_bestRod : Nat := 6781586328091594846618491029289428036045157501289248257800682282154008661768979851123725001818004514723160951637490947
theorem kbX12_bestRod : kd_nb cX12_bestRod nbX12_bestRod 49 = true := by decide +kernel
noncomputable def nbX12_misfit : Nat := 29219997772699414796876670194311044945504929959852176696689190825626261091221798683291211362301119021424953928846863443884251946
theorem kbX12_misfit : kd_nb cX12_misfit nbX12_misfit 53 = true := by decide +kernel
noncomputable def nbX12_rod : Nat := 490263485803683958344564935050731803879228686204957869435959822461785953554366901870048265004513639141233688023424549350653855172139818
theorem kbX12_rod : kd_nb cX12_rod nbX12_rod 56 = true := by decide +kernel
noncomputable def nbX12_chance : Nat := 20444280408878162472888350958670057878283270435342547687917522707547463289520444601067234545869819735796626091943232685973037890093754153292314449752561691080981664651806748643918268530883828141863797588028349138217436121863231339551854486017534837450000852481695945628041187591252938235171006622148283260911670219204186816608426895603105730642206428172632233237918006028665276507337950113453878547302188848861052706101268739803323178
theorem kbX12_chance : kd_nb cX12_chance nbX12_chance 180 = true := by decide +kernel
noncomputable def nbX12_isWs : Nat := 53363198011717394423155557658
theorem kbX12_isWs : kd_nb cX12_isWs nbX12_isWs 12 = true := by decide +kernel
noncomputable def nbX12_findFirsts : Nat := 2514364487058642742918278885805323414285729485955940896969595903253047852540480883987954604066729060133718746044665778586718530820691570243778066935127905547827693162644958224426256106885042006643885792340486307739683181238157157792309197876816939730935845380573880328609813797179815130367937743763690424203899939966497771386813102893479388067186250565378028989272894985663527553157158579939483568094723525780116545784845014985424250549775867569764328663922638919884427004013268743015414363684982676814106362895648637249244014702321781607448404790233694140867081731917794566307845143045913071449183583717040657275897551603438181664243495486287041872352677879023702407009127076181735781125108778
theorem kbX12_findFirsts : kd_nb cX12_findFirsts nbX12_findFirsts 288 = true := by decide +kernel
noncomputable def nbX12_first : Nat := 5955589465619750326595044172426599456409860055595393399717270255222569301996579064674338109604969942166557909484461159363255447159348385049455133981451035157090000385023191889696399278008602418454951212455529986633126340502753144268124926412432766307991653293151946659732003626
theorem kbX12_first : kd_nb cX12_first nbX12_first 115 = true := by decide +kernel
noncomputable def nbX12_led : Nat := 243029851257912863827794125909314195906513733121377131963881415687991995815892298850318765619051678052393739629765580653347682326488265035000781041511401097150601966385142460028332709900516084665909237671340600488288623387
theorem kbX12_led : kd_nb cX12_led nbX12_led 92 = true := by decide +kernel
noncomputable def nbX12_costOf : Nat := 2962055036713666518233764498766839487522143284934497670349331734469904347759389410936155161134657819000887355059842484160082264163266897328870980032035626695350729943695289877600559543727123315449336665160242536065232708524650372505544988275629783288813231127418362957901951045088784166983377715384666643310358150955099718839080864201970269735434518908897765701123
theorem kbX12_costOf : kd_nb cX12_costOf nbX12_costOf 151 = true := by decide +kernel
noncomputable def nbX12_pieceAt : Nat := 48519366821161232
theorem kbX12_pieceAt : kd_nb cX12_pieceAt nbX12_pieceAt 7 = true := by decide +kernel
noncomputable def nbX12_findPieces : Nat := 13123156161907686907854506836539844707650112637616684512944295935907231866637742189873170737869340331202667226054818457334341017676681101867942086535605038168440595310920536250836973565809514568320500890521798861601760574820612599355951675451455264174312742431868620389883112309314979145528515568432862281319911153511788591337172644555210526971552574564961145510421961159722
theorem kbX12_findPieces : kd_nb cX12_findPieces nbX12_findPieces 155 = true := by decide +kernel
noncomputable def nbX12_pieces : Nat := 21713982400803370547756574627029831443455389993027373514666076306816694943301594629734137947089146297373050374857884161160044327843635429982388751835588301819115456109632402522273662317267601538669555359142749226798852841585347549741053497143858649332462691667233443422449786065788608427440693635000749235620009824658680115400973695428785554585390798598084977853502474403622740088461935982205596553248134305491272662997195134416594372782002574631103272435082282858401995077944560160909991342112907209242806299083167942442454147758851198519489197881639349465517358409496157299430406590739289702647819200861686208011050
theorem kbX12_pieces : kd_nb cX12_pieces nbX12_pieces 256 = true := by decide +kernel
noncomputable def nbX12_areTwo : Nat := 24078904965846599076308499448675072688808715002837222125475083782081277119122791334408240222014019771163
theorem kbX12_areTwo : kd_nb cX12_areTwo nbX12_areTwo 43 = true := by decide +kernel
noncomputable def nbX12_bend : Nat := 35365567277887406573373177586809219627409156966590660906426365953185733055266046959824763786156918076155160490924001817238863115638440007650533155674922
theorem kbX12_bend : kd_nb cX12_bend nbX12_bend 63 = true := by decide +kernel
noncomputable def nbX12_isFree : Nat := 94062177403740400592229314860807720871048395898423661226879925306517875253380311898939072791657135619
theorem kbX12_isFree : kd_nb cX12_isFree nbX12_isFree 42 = true := by decide +kernel
noncomputable def nbX12_order : Nat := 431581607993441147931522363681424229064344900807554422026904444881055749171259746136265611767650614120867342595007895160975902557922424476757042587807534629738024464228067418827061073738159087613703650885015171847412751127850618678607166001169892936172988731013587972821967039281554766952530459
theorem kbX12_order : kd_nb cX12_order nbX12_order 122 = true := by decide +kernel
noncomputable def nbX12_wall : Nat := 8409715820872227745615224357032685959512199124494433233667060251384490738783594067513444464721701181700882770977818994305906519567006067195989813047683586147930224068495514888777921630469337266652006640206317841372295545951624744217711755075206749764369033419690659290000670398951084382950985311343994759621823025023866904590134674390508717732158049470150906270386476176719346569748826165004301549335681174786809934818637369263444094956347116722656220773725320732145896688474486811661120352688938
theorem kbX12_wall : kd_nb cX12_wall nbX12_wall 206 = true := by decide +kernel
noncomputable def nbX12_furrow : Nat := 221028836151356415748659232308366421976736240651267748160191451162345858468586159038343967800662439816302262446738954883202522757320471652337343635374110686929345093212918387557106555977387978038745870904990506
theorem kbX12_furrow : kd_nb cX12_furrow nbX12_furrow 87 = true := by decide +kernel
noncomputable def nbX12_market : Nat := 6793859776531155659992629810832391314746062405187534353437662515473984966783398381938155653352819315503872680885230378
theorem kbX12_market : kd_nb cX12_market nbX12_market 49 = true := by decide +kernel
noncomputable def nbX12_isName : Nat := 814257782198598508315930
theorem kbX12_isName : kd_nb cX12_isName nbX12_isName 10 = true := by decide +kernel
noncomputable def nbX12_told : Nat := 125666448336829511913387612248592635668973070139650113975209710088829402530326346589301606151868818804013036080692422396989238214786069546
theorem kbX12_told : kd_nb cX12_told nbX12_told 57 = true := by decide +kernel
noncomputable def nbX12_deed : Nat := 2306248531321429061104898241401174429629362000873838929157562062891142875903595243386678105115427359817605687023081018300278115155751789560556833865920977691
theorem kbX12_deed : kd_nb cX12_deed nbX12_deed 65 = true := by decide +kernel
noncomputable def nbX12_stands : Nat := 303911606543439804592332103469722967983804845430783533209262603282818316315
theorem kbX12_stands : kd_nb cX12_stands nbX12_stands 31 = true := by decide +kernel
noncomputable def nbX12_burn : Nat := 53265144121368839343956866090
theorem kbX12_burn : kd_nb cX12_burn nbX12_burn 12 = true := by decide +kernel
noncomputable def nbX12_findNames : Nat := 18076178751398919140149374261913995913862465684639273443767157215148390035207974262011196313243833636590137098256531146273671708900908100945311759839845953954955033913780968777390521129828386641629370782641949690764497031545683684443357994
theorem kbX12_findNames : kd_nb cX12_findNames nbX12_findNames 99 = true := by decide +kernel
noncomputable def nbX12_mayBe : Nat := 4926228835226626758959085081682438412613600484732896788784246206884010774074809904469702054991709486561972519433372422905400411246926105128343922504822528697042836368839840455504528211966279755390170101940931855558155707416964754501854535484605361861674
theorem kbX12_mayBe : kd_nb cX12_mayBe nbX12_mayBe 105 = true := by decide +kernel
noncomputable def nbX12_puts : Nat := 624600766687696142724385314160464494147661120528236712398716686125928306324205804070902266359978665456733646440657237617003678052757661099409670023553192772676563158213231698616617564688210956756382346978610072892579885009009570348723233423732511653912584794189503660346401640388653339253835021173669246134393974983484696821319957585231720243080033206539528615284773670207883416104567644278680436495158767923889599597655190097939240255695801764810129202894252844054453316933461480751477265673332859591644920687133
theorem kbX12_puts : kd_nb cX12_puts nbX12_puts 213 = true := by decide +kernel
noncomputable def nbX12_all : Nat := 917524049246463249298449210178957911878001080591109844477327076842312866491703041474762870461629660394901526824360113958353289680947388907709768125395227465402323943579301485336041547176601391775330349925437762601939613815635628025832795899976158337303643875038054207896530229477703503505748101425426723331792362282968472770024772104229934634460600664575600000386679396751899888581871016746
theorem kbX12_all : kd_nb cX12_all nbX12_all 162 = true := by decide +kernel
noncomputable def nbX12_feed : Nat := 2788146143986588147945902195608608025378226980806113112997090477828096285042055387188764940107396527024268471984153538875539644235891395039646132409984287341267119346769124798399771
theorem kbX12_feed : kd_nb cX12_feed nbX12_feed 75 = true := by decide +kernel
noncomputable def nbX12_byteAt : Nat := 6777609214481288152085068162046139314992276279937955032711983341950950267057962408676442367698566524256866124565689386
theorem kbX12_byteAt : kd_nb cX12_byteAt nbX12_byteAt 49 = true := by decide +kernel
noncomputable def nbX12_wrong : Nat := 4217720686038289469477290855035114487344332709016246692394
theorem kbX12_wrong : kd_nb cX12_wrong nbX12_wrong 24 = true := by decide +kernel
noncomputable def nbX12_takes : Nat := 4637534546918868012124573838486695317704126009943741362321390817096746
theorem kbX12_takes : kd_nb cX12_takes nbX12_takes 29 = true := by decide +kernel
noncomputable def nbX12_either : Nat := 21912009341523851286862890547208092244964640467545776269382290045112089520258808278035838506
theorem kbX12_either : kd_nb cX12_either nbX12_either 38 = true := by decide +kernel
noncomputable def nbX12_both : Nat := 21912009341523851286862890547208092245347762891261133826784549159694713837080535511460853290
theorem kbX12_both : kd_nb cX12_both nbX12_both 38 = true := by decide +kernel
noncomputable def nbX12_compared : Nat := 948757162666681492655102560674068114614462857081872548123042592238280738322264738607511223183281673538497704588590100050563471897372018870131711323389508266068404888622241870199029222195947861845883543560238487870486058
theorem kbX12_compared : kd_nb cX12_compared nbX12_compared 91 = true := by decide +kernel
noncomputable def nbX12_sums : Nat := 11981721025109655938358239488026981100151923217385068531344047178376004735224212871132837837625254662568125343085547698589447542019472024391595525056750804050592916397060177193241695823705642
theorem kbX12_sums : kd_nb cX12_sums nbX12_sums 79 = true := by decide +kernel
noncomputable def nbX12_product : Nat := 1043753997446466801165327267498675801225959334890643348067134595232236410318473033700528061914305107195228990098875916224744833310051428692626751281865053746818088591549938611352903990578662535555208277976684619919881244237426177578
theorem kbX12_product : kd_nb cX12_product nbX12_product 96 = true := by decide +kernel
noncomputable def nbX12_nameOf : Nat := 518788399231159254251656999159859466765279773701444519798530106427448934796480983335886211977231691011909606622763554849411538084656248312402380511084532378657908925665383492167429706779399920439333692773092223919951066586540981594791654030040276226482507458301491153441117775427587412733187413389770898759615546173978
theorem kbX12_nameOf : kd_nb cX12_nameOf nbX12_nameOf 132 = true := by decide +kernel
noncomputable def nbX12_one : Nat := 1071238428846383424159143984862767994342923698316009418245300731319474432337809750521845534499228693190081223817478676877933798459447018469418088567924074855092319717279746421673361633123259757522016565973681588411992997831043520931740442271225305877712302082817275983822196791616541439072883109492269080153549944061481249121536526754234419676558647959350712334770869507481574659740765453581877935238246258524565177670729651377262899251156550875110217575235223060805034129612080543327411829358021173886539916435494428095333448934941292732970436893617038478669281309108368085754849637418
theorem kbX12_one : kd_nb cX12_one nbX12_one 243 = true := by decide +kernel
noncomputable def nbX12_workOut : Nat := 132814090872950781734147083061055187879121637063713590110514254040875594866594506978138225317712446631662774486366079982755250989165001713600890897669867353928398481757176887529475836200832061097695371868399754601686140956380235182071116693801400484763911242766392787610558550037221213306215505490973650643798530639338282
theorem kbX12_workOut : kd_nb cX12_workOut nbX12_workOut 133 = true := by decide +kernel
noncomputable def nbX12_law : Nat := 1263892577939658749007128816081272596631808914882257821637249045946054790482112159697215631067096352500697609508458449199434838034619809430399251912143295914518800540100939160710158746265234407072357741025451307933296688719052380471732619917958697126573098
theorem kbX12_law : kd_nb cX12_law nbX12_law 106 = true := by decide +kernel
noncomputable def nbX12_isLaw : Nat := 3497210544614412654306373677974811
theorem kbX12_isLaw : kd_nb cX12_isLaw nbX12_isLaw 14 = true := by decide +kernel
noncomputable def nbX12_copies : Nat := 1114332745868343000184413872006382064182050179147485083933482
theorem kbX12_copies : kd_nb cX12_copies nbX12_copies 25 = true := by decide +kernel
noncomputable def nbX12_joins : Nat := 21809704286656196711474024763805951630603623278606105022271894692732806417144329802797868400469072280939010344026491155935775979910923017941560404720280207243100059273334809999122157753707449265791113325523085684258416047145037273875756971856424813250704494822428
theorem kbX12_joins : kd_nb cX12_joins nbX12_joins 109 = true := by decide +kernel
noncomputable def nbX12_parts : Nat := 5583282375459678184134091456845537571393772192800585413323118926669115064523030697012129863262555709326930578316201280799677583874005757034757956220142645520052949799334932527723553928667237408438658333444744727046837542928274748440983884955369170777916885585107754
theorem kbX12_parts : kd_nb cX12_parts nbX12_parts 110 = true := by decide +kernel
noncomputable def nbX12_lays : Nat := 364128067610205176534965025266235691558515563542155924793090644632879126409491576162293431553090278906661795509707064627479931228179218488304345709130924590322088697738063518052427885168253343065462524717790141097234616516721762262824429066902726343642819061845078450039137714950003912145748117909919084103951447529070202671621894811758638396763841212220254104993644506694486622394352094360207889637597638591207090205098280859185849252242951060712077904306437533751927797519696800694751857999338088700001713396049422101022208602051805192648691836299830014050387966560224987643056259398983970234015937582425953417990901718803525584754733847059192194662480308573338874097048703049942971772268793025768271178873491606559558191366782637647024310664261912969109852980421236409198567780933741811119146
theorem kbX12_lays : kd_nb cX12_lays nbX12_lays 330 = true := by decide +kernel
noncomputable def nbX12_isNw : Nat := 334161933760548910903056216124278406200921071931947669038036364329018181104014242913050
theorem kbX12_isNw : kd_nb cX12_isNw nbX12_isNw 36 = true := by decide +kernel
noncomputable def nbX12_town : Nat := 3072352722239144421782677527422130680481153569925766297913120846193679399010928454601541693383127227862803817251373513075576444555356640499367585127036183532057129834801126137649008850040371227
theorem kbX12_town : kd_nb cX12_town nbX12_town 80 = true := by decide +kernel
noncomputable def nbX12_seedsOf : Nat := 10891709914410648115305480109124112451042358538964166162921912066929774318413166551484170520586685647350919164334667136830910993190349297517047028751724000559805004490670269085187
theorem kbX12_seedsOf : kd_nb cX12_seedsOf nbX12_seedsOf 74 = true := by decide +kernel
noncomputable def nbX12_story : Nat := 109863737627079710785626358303801737439357544208958561065773616757713693994831583717621837947634221883685882617069961569387979116432212709269289123916819194268397448586960444549445189169515036049159212334580042981861916645747603371184135759307543613714535454029493874865742677794902516141085039402
theorem kbX12_story : kd_nb cX12_story nbX12_story 123 = true := by decide +kernel
noncomputable def nbX12_dig : Nat := 83119594972747695340794652637037579929161372737725678694432644036036923195219728588992883474947171731636389513898704605463790394358575953808168485730980903218953329132766945330683947517303909617246347782763143443896400947274509994755210032495936477283652868906
theorem kbX12_dig : kd_nb cX12_dig nbX12_dig 108 = true := by decide +kernel
noncomputable def nbX12_isBody : Nat := 3497210544614412662469148002583835
theorem kbX12_isBody : kd_nb cX12_isBody nbX12_isBody 14 = true := by decide +kernel
noncomputable def nbX12_kindOf : Nat := 48464390835450922
theorem kbX12_kindOf : kd_nb cX12_kindOf nbX12_kindOf 7 = true := by decide +kernel
noncomputable def nbX12_body : Nat := 29173733160757895988596913216006925695519602164611349856456937672475646685649277339763310959779941922525905761831690770777212187
theorem kbX12_body : kd_nb cX12_body nbX12_body 53 = true := by decide +kernel
noncomputable def nbX12_above : Nat := 276412273059955106834991772251233074410087032564217012826408730
theorem kbX12_above : kd_nb cX12_above nbX12_above 26 = true := by decide +kernel
noncomputable def nbX12_begins : Nat := 1223873918827636551953532741190236059558624021475042730663082398838797354
theorem kbX12_begins : kd_nb cX12_begins nbX12_begins 30 = true := by decide +kernel
noncomputable def nbX12_runsAs : Nat := 12000385222685828409111787191250224653291442636742741657365103065961937710381947593427255205002773898692479507748008372802314081229540690732652686113994022710344582891395443908005730460307483
theorem kbX12_runsAs : kd_nb cX12_runsAs nbX12_runsAs 79 = true := by decide +kernel
noncomputable def nbX12_breaksAs : Nat := 151492426569208794049912072813834015193280981566888549843003005730210799239944647559516043787856699713145036586513623652087029026893193613928326460648780875171099
theorem kbX12_breaksAs : kd_nb cX12_breaksAs nbX12_breaksAs 67 = true := by decide +kernel
noncomputable def nbX12_leadsAs : Nat := 13204729229817112035068387547620180131177513815484691982325595172544900572768005786307616276454451195474516655873926874721842132394077061735400582273802835893184818251947976861949299195648767559093716763
theorem kbX12_leadsAs : kd_nb cX12_leadsAs nbX12_leadsAs 84 = true := by decide +kernel
noncomputable def nbX12_tellsAs : Nat := 103646826245720009103442837857392426305951421911329805149356025679125142444728282421717802388608716694353461905179
theorem kbX12_tellsAs : kd_nb cX12_tellsAs nbX12_tellsAs 47 = true := by decide +kernel
noncomputable def nbX12_act : Nat := 293630506409799179159968437717819795247277006696544390202697757691209112083561441674279763819639379982174787272029675479434326054116712459132415511203796149341009084284118993678495962120825240743894934443362684895318067932186561675956788185596714
theorem kbX12_act : kd_nb cX12_act nbX12_act 102 = true := by decide +kernel
noncomputable def nbX12_trace : Nat := 4637323097887211003931058124962338157329660091262203958884463892536091
theorem kbX12_trace : kd_nb cX12_trace nbX12_trace 29 = true := by decide +kernel
noncomputable def nbX12_isShelf : Nat := 814257782072158966088986
theorem kbX12_isShelf : kd_nb cX12_isShelf nbX12_isShelf 10 = true := by decide +kernel
noncomputable def nbX12_keep : Nat := 21900279532960162222396206353332517734900792381018511389301446895162151957283852455837218843
theorem kbX12_keep : kd_nb cX12_keep nbX12_keep 38 = true := by decide +kernel
noncomputable def nbX12_row : Nat := 3370807864494474660273931739250817348624971271052895996505724711966923246740865897586182873665804138138768988043809015950822366665749939411063281239274183279374828995030711068160890669767446089109589768219
theorem kbX12_row : kd_nb cX12_row nbX12_row 85 = true := by decide +kernel
noncomputable def nbX12_refusal : Nat := 491040496842802748152863076255770631513419057115412709191695756936850439003360788968864916791412085419785843945208074377650546143180827
theorem kbX12_refusal : kd_nb cX12_refusal nbX12_refusal 56 = true := by decide +kernel
noncomputable def nbX12_asSort : Nat := 1920031117567332520919704477231245356439622455080887740209710302544290517821379814637233037382291809314128504680457396949451987261978
theorem kbX12_asSort : kd_nb cX12_asSort nbX12_asSort 55 = true := by decide +kernel
noncomputable def nbX12_put : Nat := 6777927273726996821896967496571478983028719226400372784660701638007402209964570054847684118227719101232288610551339818
theorem kbX12_put : kd_nb cX12_put nbX12_put 49 = true := by decide +kernel
noncomputable def nbX12_element : Nat := 71244201490518343993863756976917088583099102846835741563809438506
theorem kbX12_element : kd_nb cX12_element nbX12_element 27 = true := by decide +kernel
noncomputable def nbX12_shift : Nat := 377096165281769802207071470365524976221061315588577963576302899303598791967508965907333982326326679364748409021457396172307374671679868251690423249918130082210142758736937947484203449163937631876805680098484073262332084655672861546962054936539409195247083189367588644920500461490834261302496365859676756256708009105465073856744921068691238392299524194445953206526419464756352320058078494065080299613489389451738470927072193432058897366769317801678125083
theorem kbX12_shift : kd_nb cX12_shift nbX12_shift 188 = true := by decide +kernel
noncomputable def nbX12_taken : Nat := 1048879824914478007054387822071506537713974350883455172573893501843960324271945599712232923222492376654518673439625317431276774254782194919963565325460658012694862752505958686637696186271587100686007774003982863347888601565090592795
theorem kbX12_taken : kd_nb cX12_taken nbX12_taken 96 = true := by decide +kernel
noncomputable def nbX12_count : Nat := 3706053842963866621682582579702227858624856991088742850367943848999993189961818454292016974855166939021221157376428736128674422443903421706426451609804612393711577031683272943230538987700143406326723414242160352995867
theorem kbX12_count : kd_nb cX12_count nbX12_count 90 = true := by decide +kernel
noncomputable def nbJ6_numberOfTrailingZeros_0f7a4 : Nat := 3072106777834703133858885661473380502564996591348130696875289034417336099705160407228005971377746888244633337063476874140937092001538898486019615510076802115738445534579438736943484621209862682
theorem kbJ6_numberOfTrailingZeros_0f7a4 : kd_nb cJ6_numberOfTrailingZeros_0f7a4 nbJ6_numberOfTrailingZeros_0f7a4 80 = true := by decide +kernel
noncomputable def nbJ6_signum_0f7a4 : Nat := 208541993518205344491180058
theorem kbJ6_signum_0f7a4 : kd_nb cJ6_signum_0f7a4 nbJ6_signum_0f7a4 11 = true := by decide +kernel
noncomputable def nbJ13_numberOfTrailingZeros_95d88 : Nat := 276738626362106246627627227015233713429718212767525679115634718
theorem kbJ13_numberOfTrailingZeros_95d88 : kd_nb cJ13_numberOfTrailingZeros_95d88 nbJ13_numberOfTrailingZeros_95d88 26 = true := by decide +kernel
noncomputable def nbJ13_bitCount_95d88 : Nat := 538483288876061377277728753799083549320779351443006344844418046681218167329356480007281326676309229420904943641106479001155473338575261365545737758
theorem kbJ13_bitCount_95d88 : kd_nb cJ13_bitCount_95d88 nbJ13_bitCount_95d88 61 = true := by decide +kernel
noncomputable def nbL_law : Nat := 1692301910734884158539589367525565635372531532591641185012280085040435708166297560151706007031575007632563174036650764550660550194867496956120176508255555025550502412761160525024575437371156074258416599831898685826735511356233549062409459865299397677212800976630107098210507095420169814185579937089725860646814410254981298963466721085830868738814870139945999940403999861228404118920557155584395129970407761395698707724507828112501282199372887597093519140032626281525469744690263010771379927658768788990974581685735775037648142234970456852792103490462226213243509082549153282617630254330055464863532535174227023924320498634685351303241139464625415152337253650604106223047303666322510427649244548428688864985218735470418711259412645829687355318496779061424575007859199851089720258899867158948189512043800295761685310499966914153061493580492003186986931627389537521145612360217929898646174316518382174643362547695511374707660416493204826439238287855960620364195818845411608276803043696195050842984064740114781005124298573928143776650728722974410807219178721290297849648646385984732681093361640838877789443832487781346862108508662253439590310560549876311163164280307423874004393204199740946746942643470314833927976994388094481201422387948846977783967374068626098640598991891070410654246072508404565587562316491167635275001768720911987352810437688900014850750248948999826328378766255023301859658254045071221813216515802101332926900062192594277103802592222315505066742651739708975742553765248724953226111241153110310162355310550304039974218187625681147507939012721951034083295754666479564352287648275071490137257241750280924946758507777225820171259196541725539774754008436410272337756910908014958107289293738603518619411148621216852604091887129287768915995377618413609646891692817529182719385779513431507678652884348578515500902441885955850213727460779322496159432558145349729426162302417847037949622943346273274426045573089407189745181990351533811533655671868268934205470672474168916713861251465008506289927208794788927800866074393727429956195029349514590265917797334636927112176737895747787190134750301544501320483319722458603561984780513779743778432852824702923354375747168729484281128568379530563648143804134890698763218303822787772486430758536306310860574041088995892365220525343830230234412276686481093242046391734594292743402299501790476692611520304193455588264410074187088534771954074952428196796721125817342336645938440013452381829129239731292777504727278004755345060137705493548447676010275611811184890781906927334446430969992111893999255650195193878906969513616524674274788957819570802790537087802393829837368863952327001716398300012271339464679357846895874543803158243882707247418517324439132356849747195549275979769932682997266545605555709378863295099461787578667710900705972409478186265484921043401808555933258480030146288545693987432904660201667164854314527159557329949455993478749765838829854693473526566530074329506095467229893559146136569418923520530175967063644282177897591619869194886352592690945975180131314754010332028135407833022579523932452019480422089802875764997408459188182380574294204598147450958691118438545827428519640304567681940877466484924260695529862695570734233494561011688847753414686481144671377612239129160598188517939937989946563479602541848020759858224641180483618333269903116634100017691136635092831385784830430070846782804878158167366040027870656150668936956816909653671633837155238087100907263383505872725704441179000120292902343813090565292175691549893694934621289342406478079032153649778907407485030689418087371011259916863492624336177624839245573022533432689788602182377360443040006331
theorem kbL_law : kd_nb cL_law nbL_law 1505 = true := by decide +kernel
