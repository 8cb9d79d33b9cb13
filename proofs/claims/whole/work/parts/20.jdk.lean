set_option maxHeartbeats 4000000 in
set_option maxRecDepth 100000 in
theorem c_ntz (l : Launch) (D : va_G) (x : Int32) : sm_C l yJ6_numberOfTrailingZeros wsJ6_numberOfTrailingZeros ({ frames := 0, cells := 0, slots := 0, locals := 0 } : Room) D vwCl [] [.int x] [] (some (.int (nI (sm_tz x)))) [] := by
  refine sm_start (cc := cJ6_numberOfTrailingZeros) (maxL := 2) (ret := some .int) (lv := [(0, .int x)]) (by decide) rfl (Nat.le_of_ble_eq_true rfl) rfl ?_
  intro p e s m below meth c hx hb hrt hts hown hlocks hml hin hK hP hD hS hA ls hl
  have hw := sm_hw hts
  refine lv_iload_n hx hb dJ6_numberOfTrailingZeros_0 rfl (lv_at hl 0 rfl) ?_
  refine lv_iconst (v := (-1)) hx hb dJ6_numberOfTrailingZeros_1 (by decide) ?_
  refine lv_ixor hx hb dJ6_numberOfTrailingZeros_2 ?_
  refine lv_iload_n hx hb dJ6_numberOfTrailingZeros_3 rfl (lv_at hl 0 rfl) ?_
  refine lv_iconst (v := 1) hx hb dJ6_numberOfTrailingZeros_4 (by decide) ?_
  refine lv_isub hx hb dJ6_numberOfTrailingZeros_5 ?_
  refine lv_iand hx hb dJ6_numberOfTrailingZeros_6 ?_
  refine sm_eqi (y := sm_low (sm_tz x)) (sm_ntz x) ?_
  refine lv_istore_n (lv' := [(0, .int (sm_low (sm_tz x)))]) hx hb dJ6_numberOfTrailingZeros_7 rfl hl (by decide) rfl (fun ls hl => ?_)
  refine lv_iload_n hx hb dJ6_numberOfTrailingZeros_8 rfl (lv_at hl 0 rfl) ?_
  refine lv_if_gt (tgt := 17) hx hb dJ6_numberOfTrailingZeros_9 rfl (fun h9 => ?_) (fun h9 => ?_)
  · refine lv_iconst (v := 1) hx hb dJ6_numberOfTrailingZeros_17 (by decide) ?_
    refine lv_istore_n (lv' := [(1, .int 1), (0, .int (sm_low (sm_tz x)))]) hx hb dJ6_numberOfTrailingZeros_18 rfl hl (by decide) rfl (fun ls hl => ?_)
    refine lv_iload_n hx hb dJ6_numberOfTrailingZeros_19 rfl (lv_at hl 1 rfl) ?_
    refine lv_ldcw (v := 65536) hx hb hown (hw 145 rfl) dJ6_numberOfTrailingZeros_20 ?_
    refine lv_icmp_le (tgt := 34) hx hb dJ6_numberOfTrailingZeros_23 rfl (fun h23 => ?_) (fun h23 => ?_)
    · refine lv_iload_n hx hb dJ6_numberOfTrailingZeros_34 rfl (lv_at hl 1 rfl) ?_
      refine lv_sipush (v := 256) hx hb dJ6_numberOfTrailingZeros_35 (by decide) ?_
      refine lv_icmp_le (tgt := 49) hx hb dJ6_numberOfTrailingZeros_38 rfl (fun h38 => ?_) (fun h38 => ?_)
      · refine lv_iload_n hx hb dJ6_numberOfTrailingZeros_49 rfl (lv_at hl 1 rfl) ?_
        refine lv_bipush (v := 16) hx hb dJ6_numberOfTrailingZeros_50 (by decide) ?_
        refine lv_icmp_le (tgt := 62) hx hb dJ6_numberOfTrailingZeros_52 rfl (fun h52 => ?_) (fun h52 => ?_)
        · refine lv_iload_n hx hb dJ6_numberOfTrailingZeros_62 rfl (lv_at hl 1 rfl) ?_
          refine lv_iconst (v := 4) hx hb dJ6_numberOfTrailingZeros_63 (by decide) ?_
          refine lv_icmp_le (tgt := 74) hx hb dJ6_numberOfTrailingZeros_64 rfl (fun h64 => ?_) (fun h64 => ?_)
          · refine lv_iload_n hx hb dJ6_numberOfTrailingZeros_74 rfl (lv_at hl 0 rfl) ?_
            refine lv_iload_n hx hb dJ6_numberOfTrailingZeros_75 rfl (lv_at hl 1 rfl) ?_
            refine lv_iconst (v := 1) hx hb dJ6_numberOfTrailingZeros_76 (by decide) ?_
            refine lv_iushr (v := sm_ushr (sm_low (sm_tz x)) 1) hx hb dJ6_numberOfTrailingZeros_77 rfl ?_
            refine lv_iadd hx hb dJ6_numberOfTrailingZeros_78 ?_
            refine sm_eqi (y := nI (sm_tz x)) (by have hh := (And.intro h9 (And.intro h23 (And.intro h38 (And.intro h52 h64)))); have ht : sm_tz x < 33 := Nat.lt_succ_of_le (sm_tz_le x); revert hh; generalize sm_tz x = t at ht ⊢; revert t; decide +kernel) ?_
            exact sm_iret hx hb hrt hlocks hS hP hD dJ6_numberOfTrailingZeros_79
          · refine lv_iinc (k := 0) (v := 1 + Int32.ofInt (2)) (lv' := [(1, .int (1 + Int32.ofInt (2))), (0, .int (sm_low (sm_tz x)))]) hx hb dJ6_numberOfTrailingZeros_67 hl rfl (rfl) (by decide) rfl (fun ls hl => ?_)
            refine lv_iload_n hx hb dJ6_numberOfTrailingZeros_70 rfl (lv_at hl 1 rfl) ?_
            refine lv_iconst (v := 2) hx hb dJ6_numberOfTrailingZeros_71 (by decide) ?_
            refine lv_iushr (v := sm_ushr (sm_low (sm_tz x)) 2) hx hb dJ6_numberOfTrailingZeros_72 rfl ?_
            refine lv_istore_n (lv' := [(0, .int (sm_ushr (sm_low (sm_tz x)) 2)), (1, .int (1 + Int32.ofInt (2)))]) hx hb dJ6_numberOfTrailingZeros_73 rfl hl (by decide) rfl (fun ls hl => ?_)
            refine lv_iload_n hx hb dJ6_numberOfTrailingZeros_74 rfl (lv_at hl 1 rfl) ?_
            refine lv_iload_n hx hb dJ6_numberOfTrailingZeros_75 rfl (lv_at hl 0 rfl) ?_
            refine lv_iconst (v := 1) hx hb dJ6_numberOfTrailingZeros_76 (by decide) ?_
            refine lv_iushr (v := sm_ushr (sm_ushr (sm_low (sm_tz x)) 2) 1) hx hb dJ6_numberOfTrailingZeros_77 rfl ?_
            refine lv_iadd hx hb dJ6_numberOfTrailingZeros_78 ?_
            refine sm_eqi (y := nI (sm_tz x)) (by have hh := (And.intro h9 (And.intro h23 (And.intro h38 (And.intro h52 h64)))); have ht : sm_tz x < 33 := Nat.lt_succ_of_le (sm_tz_le x); revert hh; generalize sm_tz x = t at ht ⊢; revert t; decide +kernel) ?_
            exact sm_iret hx hb hrt hlocks hS hP hD dJ6_numberOfTrailingZeros_79
        · refine lv_iinc (k := 0) (v := 1 + Int32.ofInt (4)) (lv' := [(1, .int (1 + Int32.ofInt (4))), (0, .int (sm_low (sm_tz x)))]) hx hb dJ6_numberOfTrailingZeros_55 hl rfl (rfl) (by decide) rfl (fun ls hl => ?_)
          refine lv_iload_n hx hb dJ6_numberOfTrailingZeros_58 rfl (lv_at hl 1 rfl) ?_
          refine lv_iconst (v := 4) hx hb dJ6_numberOfTrailingZeros_59 (by decide) ?_
          refine lv_iushr (v := sm_ushr (sm_low (sm_tz x)) 4) hx hb dJ6_numberOfTrailingZeros_60 rfl ?_
          refine lv_istore_n (lv' := [(0, .int (sm_ushr (sm_low (sm_tz x)) 4)), (1, .int (1 + Int32.ofInt (4)))]) hx hb dJ6_numberOfTrailingZeros_61 rfl hl (by decide) rfl (fun ls hl => ?_)
          refine lv_iload_n hx hb dJ6_numberOfTrailingZeros_62 rfl (lv_at hl 0 rfl) ?_
          refine lv_iconst (v := 4) hx hb dJ6_numberOfTrailingZeros_63 (by decide) ?_
          refine lv_icmp_le (tgt := 74) hx hb dJ6_numberOfTrailingZeros_64 rfl (fun h64 => ?_) (fun h64 => ?_)
          · refine lv_iload_n hx hb dJ6_numberOfTrailingZeros_74 rfl (lv_at hl 1 rfl) ?_
            refine lv_iload_n hx hb dJ6_numberOfTrailingZeros_75 rfl (lv_at hl 0 rfl) ?_
            refine lv_iconst (v := 1) hx hb dJ6_numberOfTrailingZeros_76 (by decide) ?_
            refine lv_iushr (v := sm_ushr (sm_ushr (sm_low (sm_tz x)) 4) 1) hx hb dJ6_numberOfTrailingZeros_77 rfl ?_
            refine lv_iadd hx hb dJ6_numberOfTrailingZeros_78 ?_
            refine sm_eqi (y := nI (sm_tz x)) (by have hh := (And.intro h9 (And.intro h23 (And.intro h38 (And.intro h52 h64)))); have ht : sm_tz x < 33 := Nat.lt_succ_of_le (sm_tz_le x); revert hh; generalize sm_tz x = t at ht ⊢; revert t; decide +kernel) ?_
            exact sm_iret hx hb hrt hlocks hS hP hD dJ6_numberOfTrailingZeros_79
          · refine lv_iinc (k := 1) (v := (1 + Int32.ofInt (4)) + Int32.ofInt (2)) (lv' := [(1, .int ((1 + Int32.ofInt (4)) + Int32.ofInt (2))), (0, .int (sm_ushr (sm_low (sm_tz x)) 4))]) hx hb dJ6_numberOfTrailingZeros_67 hl rfl (rfl) (by decide) rfl (fun ls hl => ?_)
            refine lv_iload_n hx hb dJ6_numberOfTrailingZeros_70 rfl (lv_at hl 1 rfl) ?_
            refine lv_iconst (v := 2) hx hb dJ6_numberOfTrailingZeros_71 (by decide) ?_
            refine lv_iushr (v := sm_ushr (sm_ushr (sm_low (sm_tz x)) 4) 2) hx hb dJ6_numberOfTrailingZeros_72 rfl ?_
            refine lv_istore_n (lv' := [(0, .int (sm_ushr (sm_ushr (sm_low (sm_tz x)) 4) 2)), (1, .int ((1 + Int32.ofInt (4)) + Int32.ofInt (2)))]) hx hb dJ6_numberOfTrailingZeros_73 rfl hl (by decide) rfl (fun ls hl => ?_)
            refine lv_iload_n hx hb dJ6_numberOfTrailingZeros_74 rfl (lv_at hl 1 rfl) ?_
            refine lv_iload_n hx hb dJ6_numberOfTrailingZeros_75 rfl (lv_at hl 0 rfl) ?_
            refine lv_iconst (v := 1) hx hb dJ6_numberOfTrailingZeros_76 (by decide) ?_
            refine lv_iushr (v := sm_ushr (sm_ushr (sm_ushr (sm_low (sm_tz x)) 4) 2) 1) hx hb dJ6_numberOfTrailingZeros_77 rfl ?_
            refine lv_iadd hx hb dJ6_numberOfTrailingZeros_78 ?_
            refine sm_eqi (y := nI (sm_tz x)) (by have hh := (And.intro h9 (And.intro h23 (And.intro h38 (And.intro h52 h64)))); have ht : sm_tz x < 33 := Nat.lt_succ_of_le (sm_tz_le x); revert hh; generalize sm_tz x = t at ht ⊢; revert t; decide +kernel) ?_
            exact sm_iret hx hb hrt hlocks hS hP hD dJ6_numberOfTrailingZeros_79
      · refine lv_iinc (k := 0) (v := 1 + Int32.ofInt (8)) (lv' := [(1, .int (1 + Int32.ofInt (8))), (0, .int (sm_low (sm_tz x)))]) hx hb dJ6_numberOfTrailingZeros_41 hl rfl (rfl) (by decide) rfl (fun ls hl => ?_)
        refine lv_iload_n hx hb dJ6_numberOfTrailingZeros_44 rfl (lv_at hl 1 rfl) ?_
        refine lv_bipush (v := 8) hx hb dJ6_numberOfTrailingZeros_45 (by decide) ?_
        refine lv_iushr (v := sm_ushr (sm_low (sm_tz x)) 8) hx hb dJ6_numberOfTrailingZeros_47 rfl ?_
        refine lv_istore_n (lv' := [(0, .int (sm_ushr (sm_low (sm_tz x)) 8)), (1, .int (1 + Int32.ofInt (8)))]) hx hb dJ6_numberOfTrailingZeros_48 rfl hl (by decide) rfl (fun ls hl => ?_)
        refine lv_iload_n hx hb dJ6_numberOfTrailingZeros_49 rfl (lv_at hl 0 rfl) ?_
        refine lv_bipush (v := 16) hx hb dJ6_numberOfTrailingZeros_50 (by decide) ?_
        refine lv_icmp_le (tgt := 62) hx hb dJ6_numberOfTrailingZeros_52 rfl (fun h52 => ?_) (fun h52 => ?_)
        · refine lv_iload_n hx hb dJ6_numberOfTrailingZeros_62 rfl (lv_at hl 0 rfl) ?_
          refine lv_iconst (v := 4) hx hb dJ6_numberOfTrailingZeros_63 (by decide) ?_
          refine lv_icmp_le (tgt := 74) hx hb dJ6_numberOfTrailingZeros_64 rfl (fun h64 => ?_) (fun h64 => ?_)
          · refine lv_iload_n hx hb dJ6_numberOfTrailingZeros_74 rfl (lv_at hl 1 rfl) ?_
            refine lv_iload_n hx hb dJ6_numberOfTrailingZeros_75 rfl (lv_at hl 0 rfl) ?_
            refine lv_iconst (v := 1) hx hb dJ6_numberOfTrailingZeros_76 (by decide) ?_
            refine lv_iushr (v := sm_ushr (sm_ushr (sm_low (sm_tz x)) 8) 1) hx hb dJ6_numberOfTrailingZeros_77 rfl ?_
            refine lv_iadd hx hb dJ6_numberOfTrailingZeros_78 ?_
            refine sm_eqi (y := nI (sm_tz x)) (by have hh := (And.intro h9 (And.intro h23 (And.intro h38 (And.intro h52 h64)))); have ht : sm_tz x < 33 := Nat.lt_succ_of_le (sm_tz_le x); revert hh; generalize sm_tz x = t at ht ⊢; revert t; decide +kernel) ?_
            exact sm_iret hx hb hrt hlocks hS hP hD dJ6_numberOfTrailingZeros_79
          · refine lv_iinc (k := 1) (v := (1 + Int32.ofInt (8)) + Int32.ofInt (2)) (lv' := [(1, .int ((1 + Int32.ofInt (8)) + Int32.ofInt (2))), (0, .int (sm_ushr (sm_low (sm_tz x)) 8))]) hx hb dJ6_numberOfTrailingZeros_67 hl rfl (rfl) (by decide) rfl (fun ls hl => ?_)
            refine lv_iload_n hx hb dJ6_numberOfTrailingZeros_70 rfl (lv_at hl 1 rfl) ?_
            refine lv_iconst (v := 2) hx hb dJ6_numberOfTrailingZeros_71 (by decide) ?_
            refine lv_iushr (v := sm_ushr (sm_ushr (sm_low (sm_tz x)) 8) 2) hx hb dJ6_numberOfTrailingZeros_72 rfl ?_
            refine lv_istore_n (lv' := [(0, .int (sm_ushr (sm_ushr (sm_low (sm_tz x)) 8) 2)), (1, .int ((1 + Int32.ofInt (8)) + Int32.ofInt (2)))]) hx hb dJ6_numberOfTrailingZeros_73 rfl hl (by decide) rfl (fun ls hl => ?_)
            refine lv_iload_n hx hb dJ6_numberOfTrailingZeros_74 rfl (lv_at hl 1 rfl) ?_
            refine lv_iload_n hx hb dJ6_numberOfTrailingZeros_75 rfl (lv_at hl 0 rfl) ?_
            refine lv_iconst (v := 1) hx hb dJ6_numberOfTrailingZeros_76 (by decide) ?_
            refine lv_iushr (v := sm_ushr (sm_ushr (sm_ushr (sm_low (sm_tz x)) 8) 2) 1) hx hb dJ6_numberOfTrailingZeros_77 rfl ?_
            refine lv_iadd hx hb dJ6_numberOfTrailingZeros_78 ?_
            refine sm_eqi (y := nI (sm_tz x)) (by have hh := (And.intro h9 (And.intro h23 (And.intro h38 (And.intro h52 h64)))); have ht : sm_tz x < 33 := Nat.lt_succ_of_le (sm_tz_le x); revert hh; generalize sm_tz x = t at ht ⊢; revert t; decide +kernel) ?_
            exact sm_iret hx hb hrt hlocks hS hP hD dJ6_numberOfTrailingZeros_79
        · refine lv_iinc (k := 1) (v := (1 + Int32.ofInt (8)) + Int32.ofInt (4)) (lv' := [(1, .int ((1 + Int32.ofInt (8)) + Int32.ofInt (4))), (0, .int (sm_ushr (sm_low (sm_tz x)) 8))]) hx hb dJ6_numberOfTrailingZeros_55 hl rfl (rfl) (by decide) rfl (fun ls hl => ?_)
          refine lv_iload_n hx hb dJ6_numberOfTrailingZeros_58 rfl (lv_at hl 1 rfl) ?_
          refine lv_iconst (v := 4) hx hb dJ6_numberOfTrailingZeros_59 (by decide) ?_
          refine lv_iushr (v := sm_ushr (sm_ushr (sm_low (sm_tz x)) 8) 4) hx hb dJ6_numberOfTrailingZeros_60 rfl ?_
          refine lv_istore_n (lv' := [(0, .int (sm_ushr (sm_ushr (sm_low (sm_tz x)) 8) 4)), (1, .int ((1 + Int32.ofInt (8)) + Int32.ofInt (4)))]) hx hb dJ6_numberOfTrailingZeros_61 rfl hl (by decide) rfl (fun ls hl => ?_)
          refine lv_iload_n hx hb dJ6_numberOfTrailingZeros_62 rfl (lv_at hl 0 rfl) ?_
          refine lv_iconst (v := 4) hx hb dJ6_numberOfTrailingZeros_63 (by decide) ?_
          refine lv_icmp_le (tgt := 74) hx hb dJ6_numberOfTrailingZeros_64 rfl (fun h64 => ?_) (fun h64 => ?_)
          · refine lv_iload_n hx hb dJ6_numberOfTrailingZeros_74 rfl (lv_at hl 1 rfl) ?_
            refine lv_iload_n hx hb dJ6_numberOfTrailingZeros_75 rfl (lv_at hl 0 rfl) ?_
            refine lv_iconst (v := 1) hx hb dJ6_numberOfTrailingZeros_76 (by decide) ?_
            refine lv_iushr (v := sm_ushr (sm_ushr (sm_ushr (sm_low (sm_tz x)) 8) 4) 1) hx hb dJ6_numberOfTrailingZeros_77 rfl ?_
            refine lv_iadd hx hb dJ6_numberOfTrailingZeros_78 ?_
            refine sm_eqi (y := nI (sm_tz x)) (by have hh := (And.intro h9 (And.intro h23 (And.intro h38 (And.intro h52 h64)))); have ht : sm_tz x < 33 := Nat.lt_succ_of_le (sm_tz_le x); revert hh; generalize sm_tz x = t at ht ⊢; revert t; decide +kernel) ?_
            exact sm_iret hx hb hrt hlocks hS hP hD dJ6_numberOfTrailingZeros_79
          · refine lv_iinc (k := 1) (v := ((1 + Int32.ofInt (8)) + Int32.ofInt (4)) + Int32.ofInt (2)) (lv' := [(1, .int (((1 + Int32.ofInt (8)) + Int32.ofInt (4)) + Int32.ofInt (2))), (0, .int (sm_ushr (sm_ushr (sm_low (sm_tz x)) 8) 4))]) hx hb dJ6_numberOfTrailingZeros_67 hl rfl (rfl) (by decide) rfl (fun ls hl => ?_)
            refine lv_iload_n hx hb dJ6_numberOfTrailingZeros_70 rfl (lv_at hl 1 rfl) ?_
            refine lv_iconst (v := 2) hx hb dJ6_numberOfTrailingZeros_71 (by decide) ?_
            refine lv_iushr (v := sm_ushr (sm_ushr (sm_ushr (sm_low (sm_tz x)) 8) 4) 2) hx hb dJ6_numberOfTrailingZeros_72 rfl ?_
            refine lv_istore_n (lv' := [(0, .int (sm_ushr (sm_ushr (sm_ushr (sm_low (sm_tz x)) 8) 4) 2)), (1, .int (((1 + Int32.ofInt (8)) + Int32.ofInt (4)) + Int32.ofInt (2)))]) hx hb dJ6_numberOfTrailingZeros_73 rfl hl (by decide) rfl (fun ls hl => ?_)
            refine lv_iload_n hx hb dJ6_numberOfTrailingZeros_74 rfl (lv_at hl 1 rfl) ?_
            refine lv_iload_n hx hb dJ6_numberOfTrailingZeros_75 rfl (lv_at hl 0 rfl) ?_
            refine lv_iconst (v := 1) hx hb dJ6_numberOfTrailingZeros_76 (by decide) ?_
            refine lv_iushr (v := sm_ushr (sm_ushr (sm_ushr (sm_ushr (sm_low (sm_tz x)) 8) 4) 2) 1) hx hb dJ6_numberOfTrailingZeros_77 rfl ?_
            refine lv_iadd hx hb dJ6_numberOfTrailingZeros_78 ?_
            refine sm_eqi (y := nI (sm_tz x)) (by have hh := (And.intro h9 (And.intro h23 (And.intro h38 (And.intro h52 h64)))); have ht : sm_tz x < 33 := Nat.lt_succ_of_le (sm_tz_le x); revert hh; generalize sm_tz x = t at ht ⊢; revert t; decide +kernel) ?_
            exact sm_iret hx hb hrt hlocks hS hP hD dJ6_numberOfTrailingZeros_79
    · refine lv_iinc (k := 0) (v := 1 + Int32.ofInt (16)) (lv' := [(1, .int (1 + Int32.ofInt (16))), (0, .int (sm_low (sm_tz x)))]) hx hb dJ6_numberOfTrailingZeros_26 hl rfl (rfl) (by decide) rfl (fun ls hl => ?_)
      refine lv_iload_n hx hb dJ6_numberOfTrailingZeros_29 rfl (lv_at hl 1 rfl) ?_
      refine lv_bipush (v := 16) hx hb dJ6_numberOfTrailingZeros_30 (by decide) ?_
      refine lv_iushr (v := sm_ushr (sm_low (sm_tz x)) 16) hx hb dJ6_numberOfTrailingZeros_32 rfl ?_
      refine lv_istore_n (lv' := [(0, .int (sm_ushr (sm_low (sm_tz x)) 16)), (1, .int (1 + Int32.ofInt (16)))]) hx hb dJ6_numberOfTrailingZeros_33 rfl hl (by decide) rfl (fun ls hl => ?_)
      refine lv_iload_n hx hb dJ6_numberOfTrailingZeros_34 rfl (lv_at hl 0 rfl) ?_
      refine lv_sipush (v := 256) hx hb dJ6_numberOfTrailingZeros_35 (by decide) ?_
      refine lv_icmp_le (tgt := 49) hx hb dJ6_numberOfTrailingZeros_38 rfl (fun h38 => ?_) (fun h38 => ?_)
      · refine lv_iload_n hx hb dJ6_numberOfTrailingZeros_49 rfl (lv_at hl 0 rfl) ?_
        refine lv_bipush (v := 16) hx hb dJ6_numberOfTrailingZeros_50 (by decide) ?_
        refine lv_icmp_le (tgt := 62) hx hb dJ6_numberOfTrailingZeros_52 rfl (fun h52 => ?_) (fun h52 => ?_)
        · refine lv_iload_n hx hb dJ6_numberOfTrailingZeros_62 rfl (lv_at hl 0 rfl) ?_
          refine lv_iconst (v := 4) hx hb dJ6_numberOfTrailingZeros_63 (by decide) ?_
          refine lv_icmp_le (tgt := 74) hx hb dJ6_numberOfTrailingZeros_64 rfl (fun h64 => ?_) (fun h64 => ?_)
          · refine lv_iload_n hx hb dJ6_numberOfTrailingZeros_74 rfl (lv_at hl 1 rfl) ?_
            refine lv_iload_n hx hb dJ6_numberOfTrailingZeros_75 rfl (lv_at hl 0 rfl) ?_
            refine lv_iconst (v := 1) hx hb dJ6_numberOfTrailingZeros_76 (by decide) ?_
            refine lv_iushr (v := sm_ushr (sm_ushr (sm_low (sm_tz x)) 16) 1) hx hb dJ6_numberOfTrailingZeros_77 rfl ?_
            refine lv_iadd hx hb dJ6_numberOfTrailingZeros_78 ?_
            refine sm_eqi (y := nI (sm_tz x)) (by have hh := (And.intro h9 (And.intro h23 (And.intro h38 (And.intro h52 h64)))); have ht : sm_tz x < 33 := Nat.lt_succ_of_le (sm_tz_le x); revert hh; generalize sm_tz x = t at ht ⊢; revert t; decide +kernel) ?_
            exact sm_iret hx hb hrt hlocks hS hP hD dJ6_numberOfTrailingZeros_79
          · refine lv_iinc (k := 1) (v := (1 + Int32.ofInt (16)) + Int32.ofInt (2)) (lv' := [(1, .int ((1 + Int32.ofInt (16)) + Int32.ofInt (2))), (0, .int (sm_ushr (sm_low (sm_tz x)) 16))]) hx hb dJ6_numberOfTrailingZeros_67 hl rfl (rfl) (by decide) rfl (fun ls hl => ?_)
            refine lv_iload_n hx hb dJ6_numberOfTrailingZeros_70 rfl (lv_at hl 1 rfl) ?_
            refine lv_iconst (v := 2) hx hb dJ6_numberOfTrailingZeros_71 (by decide) ?_
            refine lv_iushr (v := sm_ushr (sm_ushr (sm_low (sm_tz x)) 16) 2) hx hb dJ6_numberOfTrailingZeros_72 rfl ?_
            refine lv_istore_n (lv' := [(0, .int (sm_ushr (sm_ushr (sm_low (sm_tz x)) 16) 2)), (1, .int ((1 + Int32.ofInt (16)) + Int32.ofInt (2)))]) hx hb dJ6_numberOfTrailingZeros_73 rfl hl (by decide) rfl (fun ls hl => ?_)
            refine lv_iload_n hx hb dJ6_numberOfTrailingZeros_74 rfl (lv_at hl 1 rfl) ?_
            refine lv_iload_n hx hb dJ6_numberOfTrailingZeros_75 rfl (lv_at hl 0 rfl) ?_
            refine lv_iconst (v := 1) hx hb dJ6_numberOfTrailingZeros_76 (by decide) ?_
            refine lv_iushr (v := sm_ushr (sm_ushr (sm_ushr (sm_low (sm_tz x)) 16) 2) 1) hx hb dJ6_numberOfTrailingZeros_77 rfl ?_
            refine lv_iadd hx hb dJ6_numberOfTrailingZeros_78 ?_
            refine sm_eqi (y := nI (sm_tz x)) (by have hh := (And.intro h9 (And.intro h23 (And.intro h38 (And.intro h52 h64)))); have ht : sm_tz x < 33 := Nat.lt_succ_of_le (sm_tz_le x); revert hh; generalize sm_tz x = t at ht ⊢; revert t; decide +kernel) ?_
            exact sm_iret hx hb hrt hlocks hS hP hD dJ6_numberOfTrailingZeros_79
        · refine lv_iinc (k := 1) (v := (1 + Int32.ofInt (16)) + Int32.ofInt (4)) (lv' := [(1, .int ((1 + Int32.ofInt (16)) + Int32.ofInt (4))), (0, .int (sm_ushr (sm_low (sm_tz x)) 16))]) hx hb dJ6_numberOfTrailingZeros_55 hl rfl (rfl) (by decide) rfl (fun ls hl => ?_)
          refine lv_iload_n hx hb dJ6_numberOfTrailingZeros_58 rfl (lv_at hl 1 rfl) ?_
          refine lv_iconst (v := 4) hx hb dJ6_numberOfTrailingZeros_59 (by decide) ?_
          refine lv_iushr (v := sm_ushr (sm_ushr (sm_low (sm_tz x)) 16) 4) hx hb dJ6_numberOfTrailingZeros_60 rfl ?_
          refine lv_istore_n (lv' := [(0, .int (sm_ushr (sm_ushr (sm_low (sm_tz x)) 16) 4)), (1, .int ((1 + Int32.ofInt (16)) + Int32.ofInt (4)))]) hx hb dJ6_numberOfTrailingZeros_61 rfl hl (by decide) rfl (fun ls hl => ?_)
          refine lv_iload_n hx hb dJ6_numberOfTrailingZeros_62 rfl (lv_at hl 0 rfl) ?_
          refine lv_iconst (v := 4) hx hb dJ6_numberOfTrailingZeros_63 (by decide) ?_
          refine lv_icmp_le (tgt := 74) hx hb dJ6_numberOfTrailingZeros_64 rfl (fun h64 => ?_) (fun h64 => ?_)
          · refine lv_iload_n hx hb dJ6_numberOfTrailingZeros_74 rfl (lv_at hl 1 rfl) ?_
            refine lv_iload_n hx hb dJ6_numberOfTrailingZeros_75 rfl (lv_at hl 0 rfl) ?_
            refine lv_iconst (v := 1) hx hb dJ6_numberOfTrailingZeros_76 (by decide) ?_
            refine lv_iushr (v := sm_ushr (sm_ushr (sm_ushr (sm_low (sm_tz x)) 16) 4) 1) hx hb dJ6_numberOfTrailingZeros_77 rfl ?_
            refine lv_iadd hx hb dJ6_numberOfTrailingZeros_78 ?_
            refine sm_eqi (y := nI (sm_tz x)) (by have hh := (And.intro h9 (And.intro h23 (And.intro h38 (And.intro h52 h64)))); have ht : sm_tz x < 33 := Nat.lt_succ_of_le (sm_tz_le x); revert hh; generalize sm_tz x = t at ht ⊢; revert t; decide +kernel) ?_
            exact sm_iret hx hb hrt hlocks hS hP hD dJ6_numberOfTrailingZeros_79
          · refine lv_iinc (k := 1) (v := ((1 + Int32.ofInt (16)) + Int32.ofInt (4)) + Int32.ofInt (2)) (lv' := [(1, .int (((1 + Int32.ofInt (16)) + Int32.ofInt (4)) + Int32.ofInt (2))), (0, .int (sm_ushr (sm_ushr (sm_low (sm_tz x)) 16) 4))]) hx hb dJ6_numberOfTrailingZeros_67 hl rfl (rfl) (by decide) rfl (fun ls hl => ?_)
            refine lv_iload_n hx hb dJ6_numberOfTrailingZeros_70 rfl (lv_at hl 1 rfl) ?_
            refine lv_iconst (v := 2) hx hb dJ6_numberOfTrailingZeros_71 (by decide) ?_
            refine lv_iushr (v := sm_ushr (sm_ushr (sm_ushr (sm_low (sm_tz x)) 16) 4) 2) hx hb dJ6_numberOfTrailingZeros_72 rfl ?_
            refine lv_istore_n (lv' := [(0, .int (sm_ushr (sm_ushr (sm_ushr (sm_low (sm_tz x)) 16) 4) 2)), (1, .int (((1 + Int32.ofInt (16)) + Int32.ofInt (4)) + Int32.ofInt (2)))]) hx hb dJ6_numberOfTrailingZeros_73 rfl hl (by decide) rfl (fun ls hl => ?_)
            refine lv_iload_n hx hb dJ6_numberOfTrailingZeros_74 rfl (lv_at hl 1 rfl) ?_
            refine lv_iload_n hx hb dJ6_numberOfTrailingZeros_75 rfl (lv_at hl 0 rfl) ?_
            refine lv_iconst (v := 1) hx hb dJ6_numberOfTrailingZeros_76 (by decide) ?_
            refine lv_iushr (v := sm_ushr (sm_ushr (sm_ushr (sm_ushr (sm_low (sm_tz x)) 16) 4) 2) 1) hx hb dJ6_numberOfTrailingZeros_77 rfl ?_
            refine lv_iadd hx hb dJ6_numberOfTrailingZeros_78 ?_
            refine sm_eqi (y := nI (sm_tz x)) (by have hh := (And.intro h9 (And.intro h23 (And.intro h38 (And.intro h52 h64)))); have ht : sm_tz x < 33 := Nat.lt_succ_of_le (sm_tz_le x); revert hh; generalize sm_tz x = t at ht ⊢; revert t; decide +kernel) ?_
            exact sm_iret hx hb hrt hlocks hS hP hD dJ6_numberOfTrailingZeros_79
      · refine lv_iinc (k := 1) (v := (1 + Int32.ofInt (16)) + Int32.ofInt (8)) (lv' := [(1, .int ((1 + Int32.ofInt (16)) + Int32.ofInt (8))), (0, .int (sm_ushr (sm_low (sm_tz x)) 16))]) hx hb dJ6_numberOfTrailingZeros_41 hl rfl (rfl) (by decide) rfl (fun ls hl => ?_)
        refine lv_iload_n hx hb dJ6_numberOfTrailingZeros_44 rfl (lv_at hl 1 rfl) ?_
        refine lv_bipush (v := 8) hx hb dJ6_numberOfTrailingZeros_45 (by decide) ?_
        refine lv_iushr (v := sm_ushr (sm_ushr (sm_low (sm_tz x)) 16) 8) hx hb dJ6_numberOfTrailingZeros_47 rfl ?_
        refine lv_istore_n (lv' := [(0, .int (sm_ushr (sm_ushr (sm_low (sm_tz x)) 16) 8)), (1, .int ((1 + Int32.ofInt (16)) + Int32.ofInt (8)))]) hx hb dJ6_numberOfTrailingZeros_48 rfl hl (by decide) rfl (fun ls hl => ?_)
        refine lv_iload_n hx hb dJ6_numberOfTrailingZeros_49 rfl (lv_at hl 0 rfl) ?_
        refine lv_bipush (v := 16) hx hb dJ6_numberOfTrailingZeros_50 (by decide) ?_
        refine lv_icmp_le (tgt := 62) hx hb dJ6_numberOfTrailingZeros_52 rfl (fun h52 => ?_) (fun h52 => ?_)
        · refine lv_iload_n hx hb dJ6_numberOfTrailingZeros_62 rfl (lv_at hl 0 rfl) ?_
          refine lv_iconst (v := 4) hx hb dJ6_numberOfTrailingZeros_63 (by decide) ?_
          refine lv_icmp_le (tgt := 74) hx hb dJ6_numberOfTrailingZeros_64 rfl (fun h64 => ?_) (fun h64 => ?_)
          · refine lv_iload_n hx hb dJ6_numberOfTrailingZeros_74 rfl (lv_at hl 1 rfl) ?_
            refine lv_iload_n hx hb dJ6_numberOfTrailingZeros_75 rfl (lv_at hl 0 rfl) ?_
            refine lv_iconst (v := 1) hx hb dJ6_numberOfTrailingZeros_76 (by decide) ?_
            refine lv_iushr (v := sm_ushr (sm_ushr (sm_ushr (sm_low (sm_tz x)) 16) 8) 1) hx hb dJ6_numberOfTrailingZeros_77 rfl ?_
            refine lv_iadd hx hb dJ6_numberOfTrailingZeros_78 ?_
            refine sm_eqi (y := nI (sm_tz x)) (by have hh := (And.intro h9 (And.intro h23 (And.intro h38 (And.intro h52 h64)))); have ht : sm_tz x < 33 := Nat.lt_succ_of_le (sm_tz_le x); revert hh; generalize sm_tz x = t at ht ⊢; revert t; decide +kernel) ?_
            exact sm_iret hx hb hrt hlocks hS hP hD dJ6_numberOfTrailingZeros_79
          · refine lv_iinc (k := 1) (v := ((1 + Int32.ofInt (16)) + Int32.ofInt (8)) + Int32.ofInt (2)) (lv' := [(1, .int (((1 + Int32.ofInt (16)) + Int32.ofInt (8)) + Int32.ofInt (2))), (0, .int (sm_ushr (sm_ushr (sm_low (sm_tz x)) 16) 8))]) hx hb dJ6_numberOfTrailingZeros_67 hl rfl (rfl) (by decide) rfl (fun ls hl => ?_)
            refine lv_iload_n hx hb dJ6_numberOfTrailingZeros_70 rfl (lv_at hl 1 rfl) ?_
            refine lv_iconst (v := 2) hx hb dJ6_numberOfTrailingZeros_71 (by decide) ?_
            refine lv_iushr (v := sm_ushr (sm_ushr (sm_ushr (sm_low (sm_tz x)) 16) 8) 2) hx hb dJ6_numberOfTrailingZeros_72 rfl ?_
            refine lv_istore_n (lv' := [(0, .int (sm_ushr (sm_ushr (sm_ushr (sm_low (sm_tz x)) 16) 8) 2)), (1, .int (((1 + Int32.ofInt (16)) + Int32.ofInt (8)) + Int32.ofInt (2)))]) hx hb dJ6_numberOfTrailingZeros_73 rfl hl (by decide) rfl (fun ls hl => ?_)
            refine lv_iload_n hx hb dJ6_numberOfTrailingZeros_74 rfl (lv_at hl 1 rfl) ?_
            refine lv_iload_n hx hb dJ6_numberOfTrailingZeros_75 rfl (lv_at hl 0 rfl) ?_
            refine lv_iconst (v := 1) hx hb dJ6_numberOfTrailingZeros_76 (by decide) ?_
            refine lv_iushr (v := sm_ushr (sm_ushr (sm_ushr (sm_ushr (sm_low (sm_tz x)) 16) 8) 2) 1) hx hb dJ6_numberOfTrailingZeros_77 rfl ?_
            refine lv_iadd hx hb dJ6_numberOfTrailingZeros_78 ?_
            refine sm_eqi (y := nI (sm_tz x)) (by have hh := (And.intro h9 (And.intro h23 (And.intro h38 (And.intro h52 h64)))); have ht : sm_tz x < 33 := Nat.lt_succ_of_le (sm_tz_le x); revert hh; generalize sm_tz x = t at ht ⊢; revert t; decide +kernel) ?_
            exact sm_iret hx hb hrt hlocks hS hP hD dJ6_numberOfTrailingZeros_79
        · refine lv_iinc (k := 1) (v := ((1 + Int32.ofInt (16)) + Int32.ofInt (8)) + Int32.ofInt (4)) (lv' := [(1, .int (((1 + Int32.ofInt (16)) + Int32.ofInt (8)) + Int32.ofInt (4))), (0, .int (sm_ushr (sm_ushr (sm_low (sm_tz x)) 16) 8))]) hx hb dJ6_numberOfTrailingZeros_55 hl rfl (rfl) (by decide) rfl (fun ls hl => ?_)
          refine lv_iload_n hx hb dJ6_numberOfTrailingZeros_58 rfl (lv_at hl 1 rfl) ?_
          refine lv_iconst (v := 4) hx hb dJ6_numberOfTrailingZeros_59 (by decide) ?_
          refine lv_iushr (v := sm_ushr (sm_ushr (sm_ushr (sm_low (sm_tz x)) 16) 8) 4) hx hb dJ6_numberOfTrailingZeros_60 rfl ?_
          refine lv_istore_n (lv' := [(0, .int (sm_ushr (sm_ushr (sm_ushr (sm_low (sm_tz x)) 16) 8) 4)), (1, .int (((1 + Int32.ofInt (16)) + Int32.ofInt (8)) + Int32.ofInt (4)))]) hx hb dJ6_numberOfTrailingZeros_61 rfl hl (by decide) rfl (fun ls hl => ?_)
          refine lv_iload_n hx hb dJ6_numberOfTrailingZeros_62 rfl (lv_at hl 0 rfl) ?_
          refine lv_iconst (v := 4) hx hb dJ6_numberOfTrailingZeros_63 (by decide) ?_
          refine lv_icmp_le (tgt := 74) hx hb dJ6_numberOfTrailingZeros_64 rfl (fun h64 => ?_) (fun h64 => ?_)
          · refine lv_iload_n hx hb dJ6_numberOfTrailingZeros_74 rfl (lv_at hl 1 rfl) ?_
            refine lv_iload_n hx hb dJ6_numberOfTrailingZeros_75 rfl (lv_at hl 0 rfl) ?_
            refine lv_iconst (v := 1) hx hb dJ6_numberOfTrailingZeros_76 (by decide) ?_
            refine lv_iushr (v := sm_ushr (sm_ushr (sm_ushr (sm_ushr (sm_low (sm_tz x)) 16) 8) 4) 1) hx hb dJ6_numberOfTrailingZeros_77 rfl ?_
            refine lv_iadd hx hb dJ6_numberOfTrailingZeros_78 ?_
            refine sm_eqi (y := nI (sm_tz x)) (by have hh := (And.intro h9 (And.intro h23 (And.intro h38 (And.intro h52 h64)))); have ht : sm_tz x < 33 := Nat.lt_succ_of_le (sm_tz_le x); revert hh; generalize sm_tz x = t at ht ⊢; revert t; decide +kernel) ?_
            exact sm_iret hx hb hrt hlocks hS hP hD dJ6_numberOfTrailingZeros_79
          · refine lv_iinc (k := 1) (v := (((1 + Int32.ofInt (16)) + Int32.ofInt (8)) + Int32.ofInt (4)) + Int32.ofInt (2)) (lv' := [(1, .int ((((1 + Int32.ofInt (16)) + Int32.ofInt (8)) + Int32.ofInt (4)) + Int32.ofInt (2))), (0, .int (sm_ushr (sm_ushr (sm_ushr (sm_low (sm_tz x)) 16) 8) 4))]) hx hb dJ6_numberOfTrailingZeros_67 hl rfl (rfl) (by decide) rfl (fun ls hl => ?_)
            refine lv_iload_n hx hb dJ6_numberOfTrailingZeros_70 rfl (lv_at hl 1 rfl) ?_
            refine lv_iconst (v := 2) hx hb dJ6_numberOfTrailingZeros_71 (by decide) ?_
            refine lv_iushr (v := sm_ushr (sm_ushr (sm_ushr (sm_ushr (sm_low (sm_tz x)) 16) 8) 4) 2) hx hb dJ6_numberOfTrailingZeros_72 rfl ?_
            refine lv_istore_n (lv' := [(0, .int (sm_ushr (sm_ushr (sm_ushr (sm_ushr (sm_low (sm_tz x)) 16) 8) 4) 2)), (1, .int ((((1 + Int32.ofInt (16)) + Int32.ofInt (8)) + Int32.ofInt (4)) + Int32.ofInt (2)))]) hx hb dJ6_numberOfTrailingZeros_73 rfl hl (by decide) rfl (fun ls hl => ?_)
            refine lv_iload_n hx hb dJ6_numberOfTrailingZeros_74 rfl (lv_at hl 1 rfl) ?_
            refine lv_iload_n hx hb dJ6_numberOfTrailingZeros_75 rfl (lv_at hl 0 rfl) ?_
            refine lv_iconst (v := 1) hx hb dJ6_numberOfTrailingZeros_76 (by decide) ?_
            refine lv_iushr (v := sm_ushr (sm_ushr (sm_ushr (sm_ushr (sm_ushr (sm_low (sm_tz x)) 16) 8) 4) 2) 1) hx hb dJ6_numberOfTrailingZeros_77 rfl ?_
            refine lv_iadd hx hb dJ6_numberOfTrailingZeros_78 ?_
            refine sm_eqi (y := nI (sm_tz x)) (by have hh := (And.intro h9 (And.intro h23 (And.intro h38 (And.intro h52 h64)))); have ht : sm_tz x < 33 := Nat.lt_succ_of_le (sm_tz_le x); revert hh; generalize sm_tz x = t at ht ⊢; revert t; decide +kernel) ?_
            exact sm_iret hx hb hrt hlocks hS hP hD dJ6_numberOfTrailingZeros_79
  · refine lv_iload_n hx hb dJ6_numberOfTrailingZeros_12 rfl (lv_at hl 0 rfl) ?_
    refine lv_bipush (v := 32) hx hb dJ6_numberOfTrailingZeros_13 (by decide) ?_
    refine lv_iand hx hb dJ6_numberOfTrailingZeros_15 ?_
    refine sm_eqi (y := nI (sm_tz x)) (by have hh := h9; have ht : sm_tz x < 33 := Nat.lt_succ_of_le (sm_tz_le x); revert hh; generalize sm_tz x = t at ht ⊢; revert t; decide +kernel) ?_
    exact sm_iret hx hb hrt hlocks hS hP hD dJ6_numberOfTrailingZeros_16
set_option maxHeartbeats 4000000 in
set_option maxRecDepth 100000 in
theorem c_bitCount (l : Launch) (D : va_G) (x : Int32) : sm_C l yJ6_bitCount wsJ6_bitCount ({ frames := 0, cells := 0, slots := 0, locals := 0 } : Room) D vwCl [] [.int x] [] (some (.int (nI (sm_pc (bt x) 32)))) [] := by
  refine sm_start (cc := cJ6_bitCount) (maxL := 1) (ret := some .int) (lv := [(0, .int x)]) (by decide) rfl (Nat.le_of_ble_eq_true rfl) rfl ?_
  intro p e s m below meth c hx hb hrt hts hown hlocks hml hin hK hP hD hS hA ls hl
  have hw := sm_hw hts
  refine lv_iload_n hx hb dJ6_bitCount_0 rfl (lv_at hl 0 rfl) ?_
  refine lv_iload_n hx hb dJ6_bitCount_1 rfl (lv_at hl 0 rfl) ?_
  refine lv_iconst (v := 1) hx hb dJ6_bitCount_2 (by decide) ?_
  refine lv_iushr (v := sm_ushr x 1) hx hb dJ6_bitCount_3 rfl ?_
  refine lv_ldcw (v := 1431655765) hx hb hown (hw 36 rfl) dJ6_bitCount_4 ?_
  refine lv_iand hx hb dJ6_bitCount_7 ?_
  refine lv_isub hx hb dJ6_bitCount_8 ?_
  refine lv_istore_n (lv' := [(0, .int (x - ((sm_ushr x 1) &&& 1431655765)))]) hx hb dJ6_bitCount_9 rfl hl (by decide) rfl (fun ls hl => ?_)
  refine lv_iload_n hx hb dJ6_bitCount_10 rfl (lv_at hl 0 rfl) ?_
  refine lv_ldcw (v := 858993459) hx hb hown (hw 37 rfl) dJ6_bitCount_11 ?_
  refine lv_iand hx hb dJ6_bitCount_14 ?_
  refine lv_iload_n hx hb dJ6_bitCount_15 rfl (lv_at hl 0 rfl) ?_
  refine lv_iconst (v := 2) hx hb dJ6_bitCount_16 (by decide) ?_
  refine lv_iushr (v := sm_ushr (x - ((sm_ushr x 1) &&& 1431655765)) 2) hx hb dJ6_bitCount_17 rfl ?_
  refine lv_ldcw (v := 858993459) hx hb hown (hw 37 rfl) dJ6_bitCount_18 ?_
  refine lv_iand hx hb dJ6_bitCount_21 ?_
  refine lv_iadd hx hb dJ6_bitCount_22 ?_
  refine lv_istore_n (lv' := [(0, .int (((x - ((sm_ushr x 1) &&& 1431655765)) &&& 858993459) + ((sm_ushr (x - ((sm_ushr x 1) &&& 1431655765)) 2) &&& 858993459)))]) hx hb dJ6_bitCount_23 rfl hl (by decide) rfl (fun ls hl => ?_)
  refine lv_iload_n hx hb dJ6_bitCount_24 rfl (lv_at hl 0 rfl) ?_
  refine lv_iload_n hx hb dJ6_bitCount_25 rfl (lv_at hl 0 rfl) ?_
  refine lv_iconst (v := 4) hx hb dJ6_bitCount_26 (by decide) ?_
  refine lv_iushr (v := sm_ushr (((x - ((sm_ushr x 1) &&& 1431655765)) &&& 858993459) + ((sm_ushr (x - ((sm_ushr x 1) &&& 1431655765)) 2) &&& 858993459)) 4) hx hb dJ6_bitCount_27 rfl ?_
  refine lv_iadd hx hb dJ6_bitCount_28 ?_
  refine lv_ldcw (v := 252645135) hx hb hown (hw 38 rfl) dJ6_bitCount_29 ?_
  refine lv_iand hx hb dJ6_bitCount_32 ?_
  refine lv_istore_n (lv' := [(0, .int (((((x - ((sm_ushr x 1) &&& 1431655765)) &&& 858993459) + ((sm_ushr (x - ((sm_ushr x 1) &&& 1431655765)) 2) &&& 858993459)) + (sm_ushr (((x - ((sm_ushr x 1) &&& 1431655765)) &&& 858993459) + ((sm_ushr (x - ((sm_ushr x 1) &&& 1431655765)) 2) &&& 858993459)) 4)) &&& 252645135))]) hx hb dJ6_bitCount_33 rfl hl (by decide) rfl (fun ls hl => ?_)
  refine lv_iload_n hx hb dJ6_bitCount_34 rfl (lv_at hl 0 rfl) ?_
  refine lv_iload_n hx hb dJ6_bitCount_35 rfl (lv_at hl 0 rfl) ?_
  refine lv_bipush (v := 8) hx hb dJ6_bitCount_36 (by decide) ?_
  refine lv_iushr (v := sm_ushr (((((x - ((sm_ushr x 1) &&& 1431655765)) &&& 858993459) + ((sm_ushr (x - ((sm_ushr x 1) &&& 1431655765)) 2) &&& 858993459)) + (sm_ushr (((x - ((sm_ushr x 1) &&& 1431655765)) &&& 858993459) + ((sm_ushr (x - ((sm_ushr x 1) &&& 1431655765)) 2) &&& 858993459)) 4)) &&& 252645135) 8) hx hb dJ6_bitCount_38 rfl ?_
  refine lv_iadd hx hb dJ6_bitCount_39 ?_
  refine lv_istore_n (lv' := [(0, .int ((((((x - ((sm_ushr x 1) &&& 1431655765)) &&& 858993459) + ((sm_ushr (x - ((sm_ushr x 1) &&& 1431655765)) 2) &&& 858993459)) + (sm_ushr (((x - ((sm_ushr x 1) &&& 1431655765)) &&& 858993459) + ((sm_ushr (x - ((sm_ushr x 1) &&& 1431655765)) 2) &&& 858993459)) 4)) &&& 252645135) + (sm_ushr (((((x - ((sm_ushr x 1) &&& 1431655765)) &&& 858993459) + ((sm_ushr (x - ((sm_ushr x 1) &&& 1431655765)) 2) &&& 858993459)) + (sm_ushr (((x - ((sm_ushr x 1) &&& 1431655765)) &&& 858993459) + ((sm_ushr (x - ((sm_ushr x 1) &&& 1431655765)) 2) &&& 858993459)) 4)) &&& 252645135) 8)))]) hx hb dJ6_bitCount_40 rfl hl (by decide) rfl (fun ls hl => ?_)
  refine lv_iload_n hx hb dJ6_bitCount_41 rfl (lv_at hl 0 rfl) ?_
  refine lv_iload_n hx hb dJ6_bitCount_42 rfl (lv_at hl 0 rfl) ?_
  refine lv_bipush (v := 16) hx hb dJ6_bitCount_43 (by decide) ?_
  refine lv_iushr (v := sm_ushr ((((((x - ((sm_ushr x 1) &&& 1431655765)) &&& 858993459) + ((sm_ushr (x - ((sm_ushr x 1) &&& 1431655765)) 2) &&& 858993459)) + (sm_ushr (((x - ((sm_ushr x 1) &&& 1431655765)) &&& 858993459) + ((sm_ushr (x - ((sm_ushr x 1) &&& 1431655765)) 2) &&& 858993459)) 4)) &&& 252645135) + (sm_ushr (((((x - ((sm_ushr x 1) &&& 1431655765)) &&& 858993459) + ((sm_ushr (x - ((sm_ushr x 1) &&& 1431655765)) 2) &&& 858993459)) + (sm_ushr (((x - ((sm_ushr x 1) &&& 1431655765)) &&& 858993459) + ((sm_ushr (x - ((sm_ushr x 1) &&& 1431655765)) 2) &&& 858993459)) 4)) &&& 252645135) 8)) 16) hx hb dJ6_bitCount_45 rfl ?_
  refine lv_iadd hx hb dJ6_bitCount_46 ?_
  refine lv_istore_n (lv' := [(0, .int (((((((x - ((sm_ushr x 1) &&& 1431655765)) &&& 858993459) + ((sm_ushr (x - ((sm_ushr x 1) &&& 1431655765)) 2) &&& 858993459)) + (sm_ushr (((x - ((sm_ushr x 1) &&& 1431655765)) &&& 858993459) + ((sm_ushr (x - ((sm_ushr x 1) &&& 1431655765)) 2) &&& 858993459)) 4)) &&& 252645135) + (sm_ushr (((((x - ((sm_ushr x 1) &&& 1431655765)) &&& 858993459) + ((sm_ushr (x - ((sm_ushr x 1) &&& 1431655765)) 2) &&& 858993459)) + (sm_ushr (((x - ((sm_ushr x 1) &&& 1431655765)) &&& 858993459) + ((sm_ushr (x - ((sm_ushr x 1) &&& 1431655765)) 2) &&& 858993459)) 4)) &&& 252645135) 8)) + (sm_ushr ((((((x - ((sm_ushr x 1) &&& 1431655765)) &&& 858993459) + ((sm_ushr (x - ((sm_ushr x 1) &&& 1431655765)) 2) &&& 858993459)) + (sm_ushr (((x - ((sm_ushr x 1) &&& 1431655765)) &&& 858993459) + ((sm_ushr (x - ((sm_ushr x 1) &&& 1431655765)) 2) &&& 858993459)) 4)) &&& 252645135) + (sm_ushr (((((x - ((sm_ushr x 1) &&& 1431655765)) &&& 858993459) + ((sm_ushr (x - ((sm_ushr x 1) &&& 1431655765)) 2) &&& 858993459)) + (sm_ushr (((x - ((sm_ushr x 1) &&& 1431655765)) &&& 858993459) + ((sm_ushr (x - ((sm_ushr x 1) &&& 1431655765)) 2) &&& 858993459)) 4)) &&& 252645135) 8)) 16)))]) hx hb dJ6_bitCount_47 rfl hl (by decide) rfl (fun ls hl => ?_)
  refine lv_iload_n hx hb dJ6_bitCount_48 rfl (lv_at hl 0 rfl) ?_
  refine lv_bipush (v := 63) hx hb dJ6_bitCount_49 (by decide) ?_
  refine lv_iand hx hb dJ6_bitCount_51 ?_
  refine sm_eqi (y := nI (sm_pc (bt x) 32)) (sm_bc_eq x) ?_
  exact sm_iret hx hb hrt hlocks hS hP hD dJ6_bitCount_52
