theorem sd_iconst {l : Launch} {D : va_G} {cy : Nat → ClassId} {A : Nat → Prop} {xi : Nat × Nat × (Nat → Int32)} : cl_iconst (XM l D cy A xi) := by
  intro M pc L rest S k0 n0 P q v h hv kk
  intro p e R s mm args below meth c ls H locs cells slots Q C hH hS hl hc hs hF
  exact lv_iconst C.1 C.2.1 h hv (kk p e R s mm args below meth c ls H locs cells slots Q C hH hS hl hc hs hF)
theorem sd_bipush {l : Launch} {D : va_G} {cy : Nat → ClassId} {A : Nat → Prop} {xi : Nat × Nat × (Nat → Int32)} : cl_bipush (XM l D cy A xi) := by
  intro M pc L rest S k0 n0 P q v h hv kk
  intro p e R s mm args below meth c ls H locs cells slots Q C hH hS hl hc hs hF
  exact lv_bipush C.1 C.2.1 h hv (kk p e R s mm args below meth c ls H locs cells slots Q C hH hS hl hc hs hF)
theorem sd_sipush {l : Launch} {D : va_G} {cy : Nat → ClassId} {A : Nat → Prop} {xi : Nat × Nat × (Nat → Int32)} : cl_sipush (XM l D cy A xi) := by
  intro M pc L rest S k0 n0 P q v h hv kk
  intro p e R s mm args below meth c ls H locs cells slots Q C hH hS hl hc hs hF
  exact lv_sipush C.1 C.2.1 h hv (kk p e R s mm args below meth c ls H locs cells slots Q C hH hS hl hc hs hF)
theorem sd_lconst {l : Launch} {D : va_G} {cy : Nat → ClassId} {A : Nat → Prop} {xi : Nat × Nat × (Nat → Int32)} : cl_lconst (XM l D cy A xi) := by
  intro M pc L rest S k0 n0 P q v h hv kk
  intro p e R s mm args below meth c ls H locs cells slots Q C hH hS hl hc hs hF
  exact lv_lconst C.1 C.2.1 h hv (kk p e R s mm args below meth c ls H locs cells slots Q C hH hS hl hc hs hF)
theorem sd_null {l : Launch} {D : va_G} {cy : Nat → ClassId} {A : Nat → Prop} {xi : Nat × Nat × (Nat → Int32)} : cl_null (XM l D cy A xi) := by
  intro M pc L rest S k0 n0 P h kk
  intro p e R s mm args below meth c ls H locs cells slots Q C hH hS hl hc hs hF
  exact lv_null C.1 C.2.1 h  (kk p e R s mm args below meth c ls H locs cells slots Q C hH hS hl hc hs hF)
theorem sd_iload_n {l : Launch} {D : va_G} {cy : Nat → ClassId} {A : Nat → Prop} {xi : Nat × Nat × (Nat → Int32)} : cl_iload_n (XM l D cy A xi) := by
  intro M pc L rest S k0 n0 P q j x h hj kk
  intro p e R s mm args below meth c ls H locs cells slots Q C hH hS hl hc hs hF
  exact lv_iload_n C.1 C.2.1 h rfl (lv_at hl j hj) (kk p e R s mm args below meth c ls H locs cells slots Q C hH hS hl hc hs hF)
theorem sd_iload {l : Launch} {D : va_G} {cy : Nat → ClassId} {A : Nat → Prop} {xi : Nat × Nat × (Nat → Int32)} : cl_iload (XM l D cy A xi) := by
  intro M pc L rest S k0 n0 P q j x h hj kk
  intro p e R s mm args below meth c ls H locs cells slots Q C hH hS hl hc hs hF
  exact lv_iload C.1 C.2.1 h (lv_at hl j hj) (kk p e R s mm args below meth c ls H locs cells slots Q C hH hS hl hc hs hF)
theorem sd_lload_n {l : Launch} {D : va_G} {cy : Nat → ClassId} {A : Nat → Prop} {xi : Nat × Nat × (Nat → Int32)} : cl_lload_n (XM l D cy A xi) := by
  intro M pc L rest S k0 n0 P q j x h hj kk
  intro p e R s mm args below meth c ls H locs cells slots Q C hH hS hl hc hs hF
  exact lv_lload_n C.1 C.2.1 h rfl (lv_at hl j hj) (kk p e R s mm args below meth c ls H locs cells slots Q C hH hS hl hc hs hF)
theorem sd_lload {l : Launch} {D : va_G} {cy : Nat → ClassId} {A : Nat → Prop} {xi : Nat × Nat × (Nat → Int32)} : cl_lload (XM l D cy A xi) := by
  intro M pc L rest S k0 n0 P q j x h hj kk
  intro p e R s mm args below meth c ls H locs cells slots Q C hH hS hl hc hs hF
  exact lv_lload C.1 C.2.1 h (lv_at hl j hj) (kk p e R s mm args below meth c ls H locs cells slots Q C hH hS hl hc hs hF)
theorem sd_aload_n {l : Launch} {D : va_G} {cy : Nat → ClassId} {A : Nat → Prop} {xi : Nat × Nat × (Nat → Int32)} : cl_aload_n (XM l D cy A xi) := by
  intro M pc L rest S k0 n0 P q j x h hj kk
  intro p e R s mm args below meth c ls H locs cells slots Q C hH hS hl hc hs hF
  exact lv_aload_n C.1 C.2.1 h rfl (lv_at hl j hj) (kk p e R s mm args below meth c ls H locs cells slots Q C hH hS hl hc hs hF)
theorem sd_aload {l : Launch} {D : va_G} {cy : Nat → ClassId} {A : Nat → Prop} {xi : Nat × Nat × (Nat → Int32)} : cl_aload (XM l D cy A xi) := by
  intro M pc L rest S k0 n0 P q j x h hj kk
  intro p e R s mm args below meth c ls H locs cells slots Q C hH hS hl hc hs hF
  exact lv_aload C.1 C.2.1 h (lv_at hl j hj) (kk p e R s mm args below meth c ls H locs cells slots Q C hH hS hl hc hs hF)
theorem sd_aload_nN {l : Launch} {D : va_G} {cy : Nat → ClassId} {A : Nat → Prop} {xi : Nat × Nat × (Nat → Int32)} : cl_aload_nN (XM l D cy A xi) := by
  intro M pc L rest S k0 n0 P q j h hj kk
  intro p e R s mm args below meth c ls H locs cells slots Q C hH hS hl hc hs hF
  exact lv_aload_nN C.1 C.2.1 h rfl (lv_at hl j hj) (kk p e R s mm args below meth c ls H locs cells slots Q C hH hS hl hc hs hF)
theorem sd_aloadN {l : Launch} {D : va_G} {cy : Nat → ClassId} {A : Nat → Prop} {xi : Nat × Nat × (Nat → Int32)} : cl_aloadN (XM l D cy A xi) := by
  intro M pc L rest S k0 n0 P q j h hj kk
  intro p e R s mm args below meth c ls H locs cells slots Q C hH hS hl hc hs hF
  exact lv_aloadN C.1 C.2.1 h (lv_at hl j hj) (kk p e R s mm args below meth c ls H locs cells slots Q C hH hS hl hc hs hF)
theorem sd_istore_n {l : Launch} {D : va_G} {cy : Nat → ClassId} {A : Nat → Prop} {xi : Nat × Nat × (Nat → Int32)} : cl_istore_n (XM l D cy A xi) := by
  intro M pc L rest S k0 n0 P q x ks L' h hn hL kk
  intro p e R s mm args below meth c ls H locs cells slots Q C hH hS hl hc hs hF
  exact lv_istore_n C.1 C.2.1 h rfl hl hn rfl (fun ls' hl' => kk p e R s mm args below meth c ls' H locs cells slots Q C hH hS (lv_sub hl' ks hL) hc hs hF)
theorem sd_istore {l : Launch} {D : va_G} {cy : Nat → ClassId} {A : Nat → Prop} {xi : Nat × Nat × (Nat → Int32)} : cl_istore (XM l D cy A xi) := by
  intro M pc L rest S k0 n0 P q x ks L' h hn hL kk
  intro p e R s mm args below meth c ls H locs cells slots Q C hH hS hl hc hs hF
  exact lv_istore C.1 C.2.1 h hl hn rfl (fun ls' hl' => kk p e R s mm args below meth c ls' H locs cells slots Q C hH hS (lv_sub hl' ks hL) hc hs hF)
theorem sd_lstore_n {l : Launch} {D : va_G} {cy : Nat → ClassId} {A : Nat → Prop} {xi : Nat × Nat × (Nat → Int32)} : cl_lstore_n (XM l D cy A xi) := by
  intro M pc L rest S k0 n0 P q x ks L' h hn hL kk
  intro p e R s mm args below meth c ls H locs cells slots Q C hH hS hl hc hs hF
  exact lv_lstore_n C.1 C.2.1 h rfl hl hn rfl (fun ls' hl' => kk p e R s mm args below meth c ls' H locs cells slots Q C hH hS (lv_sub hl' ks hL) hc hs hF)
theorem sd_lstore {l : Launch} {D : va_G} {cy : Nat → ClassId} {A : Nat → Prop} {xi : Nat × Nat × (Nat → Int32)} : cl_lstore (XM l D cy A xi) := by
  intro M pc L rest S k0 n0 P q x ks L' h hn hL kk
  intro p e R s mm args below meth c ls H locs cells slots Q C hH hS hl hc hs hF
  exact lv_lstore C.1 C.2.1 h hl hn rfl (fun ls' hl' => kk p e R s mm args below meth c ls' H locs cells slots Q C hH hS (lv_sub hl' ks hL) hc hs hF)
theorem sd_astore_n {l : Launch} {D : va_G} {cy : Nat → ClassId} {A : Nat → Prop} {xi : Nat × Nat × (Nat → Int32)} : cl_astore_n (XM l D cy A xi) := by
  intro M pc L rest S k0 n0 P q x ks L' h hn hL kk
  intro p e R s mm args below meth c ls H locs cells slots Q C hH hS hl hc hs hF
  exact lv_astore_n C.1 C.2.1 h rfl hl hn rfl (fun ls' hl' => kk p e R s mm args below meth c ls' H locs cells slots Q C hH hS (lv_sub hl' ks hL) hc hs hF)
theorem sd_astore {l : Launch} {D : va_G} {cy : Nat → ClassId} {A : Nat → Prop} {xi : Nat × Nat × (Nat → Int32)} : cl_astore (XM l D cy A xi) := by
  intro M pc L rest S k0 n0 P q x ks L' h hn hL kk
  intro p e R s mm args below meth c ls H locs cells slots Q C hH hS hl hc hs hF
  exact lv_astore C.1 C.2.1 h hl hn rfl (fun ls' hl' => kk p e R s mm args below meth c ls' H locs cells slots Q C hH hS (lv_sub hl' ks hL) hc hs hF)
theorem sd_astore_nN {l : Launch} {D : va_G} {cy : Nat → ClassId} {A : Nat → Prop} {xi : Nat × Nat × (Nat → Int32)} : cl_astore_nN (XM l D cy A xi) := by
  intro M pc L rest S k0 n0 P q ks L' h hn hL kk
  intro p e R s mm args below meth c ls H locs cells slots Q C hH hS hl hc hs hF
  exact lv_astore_nN C.1 C.2.1 h rfl hl hn rfl (fun ls' hl' => kk p e R s mm args below meth c ls' H locs cells slots Q C hH hS (lv_sub hl' ks hL) hc hs hF)
theorem sd_astoreN {l : Launch} {D : va_G} {cy : Nat → ClassId} {A : Nat → Prop} {xi : Nat × Nat × (Nat → Int32)} : cl_astoreN (XM l D cy A xi) := by
  intro M pc L rest S k0 n0 P q ks L' h hn hL kk
  intro p e R s mm args below meth c ls H locs cells slots Q C hH hS hl hc hs hF
  exact lv_astoreN C.1 C.2.1 h hl hn rfl (fun ls' hl' => kk p e R s mm args below meth c ls' H locs cells slots Q C hH hS (lv_sub hl' ks hL) hc hs hF)
theorem sd_iinc {l : Launch} {D : va_G} {cy : Nat → ClassId} {A : Nat → Prop} {xi : Nat × Nat × (Nat → Int32)} : cl_iinc (XM l D cy A xi) := by
  intro M pc L rest S k0 n0 P q j z x v ks L' h hj hv hn hL kk
  intro p e R s mm args below meth c ls H locs cells slots Q C hH hS hl hc hs hF
  exact lv_iinc C.1 C.2.1 h hl hj hv hn rfl (fun ls' hl' => kk p e R s mm args below meth c ls' H locs cells slots Q C hH hS (lv_sub hl' ks hL) hc hs hF)
theorem sd_iadd {l : Launch} {D : va_G} {cy : Nat → ClassId} {A : Nat → Prop} {xi : Nat × Nat × (Nat → Int32)} : cl_iadd (XM l D cy A xi) := by
  intro M pc L rest S k0 n0 P x y h kk
  intro p e R s mm args below meth c ls H locs cells slots Q C hH hS hl hc hs hF
  exact lv_iadd C.1 C.2.1 h  (kk p e R s mm args below meth c ls H locs cells slots Q C hH hS hl hc hs hF)
theorem sd_isub {l : Launch} {D : va_G} {cy : Nat → ClassId} {A : Nat → Prop} {xi : Nat × Nat × (Nat → Int32)} : cl_isub (XM l D cy A xi) := by
  intro M pc L rest S k0 n0 P x y h kk
  intro p e R s mm args below meth c ls H locs cells slots Q C hH hS hl hc hs hF
  exact lv_isub C.1 C.2.1 h  (kk p e R s mm args below meth c ls H locs cells slots Q C hH hS hl hc hs hF)
theorem sd_imul {l : Launch} {D : va_G} {cy : Nat → ClassId} {A : Nat → Prop} {xi : Nat × Nat × (Nat → Int32)} : cl_imul (XM l D cy A xi) := by
  intro M pc L rest S k0 n0 P x y h kk
  intro p e R s mm args below meth c ls H locs cells slots Q C hH hS hl hc hs hF
  exact lv_imul C.1 C.2.1 h  (kk p e R s mm args below meth c ls H locs cells slots Q C hH hS hl hc hs hF)
theorem sd_iand {l : Launch} {D : va_G} {cy : Nat → ClassId} {A : Nat → Prop} {xi : Nat × Nat × (Nat → Int32)} : cl_iand (XM l D cy A xi) := by
  intro M pc L rest S k0 n0 P x y h kk
  intro p e R s mm args below meth c ls H locs cells slots Q C hH hS hl hc hs hF
  exact lv_iand C.1 C.2.1 h  (kk p e R s mm args below meth c ls H locs cells slots Q C hH hS hl hc hs hF)
theorem sd_ior {l : Launch} {D : va_G} {cy : Nat → ClassId} {A : Nat → Prop} {xi : Nat × Nat × (Nat → Int32)} : cl_ior (XM l D cy A xi) := by
  intro M pc L rest S k0 n0 P x y h kk
  intro p e R s mm args below meth c ls H locs cells slots Q C hH hS hl hc hs hF
  exact lv_ior C.1 C.2.1 h  (kk p e R s mm args below meth c ls H locs cells slots Q C hH hS hl hc hs hF)
theorem sd_ixor {l : Launch} {D : va_G} {cy : Nat → ClassId} {A : Nat → Prop} {xi : Nat × Nat × (Nat → Int32)} : cl_ixor (XM l D cy A xi) := by
  intro M pc L rest S k0 n0 P x y h kk
  intro p e R s mm args below meth c ls H locs cells slots Q C hH hS hl hc hs hF
  exact lv_ixor C.1 C.2.1 h  (kk p e R s mm args below meth c ls H locs cells slots Q C hH hS hl hc hs hF)
theorem sd_ishl {l : Launch} {D : va_G} {cy : Nat → ClassId} {A : Nat → Prop} {xi : Nat × Nat × (Nat → Int32)} : cl_ishl (XM l D cy A xi) := by
  intro M pc L rest S k0 n0 P x y h kk
  intro p e R s mm args below meth c ls H locs cells slots Q C hH hS hl hc hs hF
  exact lv_ishl C.1 C.2.1 h  (kk p e R s mm args below meth c ls H locs cells slots Q C hH hS hl hc hs hF)
theorem sd_ishr {l : Launch} {D : va_G} {cy : Nat → ClassId} {A : Nat → Prop} {xi : Nat × Nat × (Nat → Int32)} : cl_ishr (XM l D cy A xi) := by
  intro M pc L rest S k0 n0 P x y h kk
  intro p e R s mm args below meth c ls H locs cells slots Q C hH hS hl hc hs hF
  exact lv_ishr C.1 C.2.1 h  (kk p e R s mm args below meth c ls H locs cells slots Q C hH hS hl hc hs hF)
theorem sd_iushr {l : Launch} {D : va_G} {cy : Nat → ClassId} {A : Nat → Prop} {xi : Nat × Nat × (Nat → Int32)} : cl_iushr (XM l D cy A xi) := by
  intro M pc L rest S k0 n0 P x y h kk
  intro p e R s mm args below meth c ls H locs cells slots Q C hH hS hl hc hs hF
  exact lv_iushr C.1 C.2.1 h rfl (kk p e R s mm args below meth c ls H locs cells slots Q C hH hS hl hc hs hF)
theorem sd_idiv {l : Launch} {D : va_G} {cy : Nat → ClassId} {A : Nat → Prop} {xi : Nat × Nat × (Nat → Int32)} : cl_idiv (XM l D cy A xi) := by
  intro M pc L rest S k0 n0 P x y h hne kk
  intro p e R s mm args below meth c ls H locs cells slots Q C hH hS hl hc hs hF
  exact lv_idiv C.1 C.2.1 h hne (kk p e R s mm args below meth c ls H locs cells slots Q C hH hS hl hc hs hF)
theorem sd_irem {l : Launch} {D : va_G} {cy : Nat → ClassId} {A : Nat → Prop} {xi : Nat × Nat × (Nat → Int32)} : cl_irem (XM l D cy A xi) := by
  intro M pc L rest S k0 n0 P x y h hne kk
  intro p e R s mm args below meth c ls H locs cells slots Q C hH hS hl hc hs hF
  exact lv_irem C.1 C.2.1 h hne (kk p e R s mm args below meth c ls H locs cells slots Q C hH hS hl hc hs hF)
theorem sd_ineg {l : Launch} {D : va_G} {cy : Nat → ClassId} {A : Nat → Prop} {xi : Nat × Nat × (Nat → Int32)} : cl_ineg (XM l D cy A xi) := by
  intro M pc L rest S k0 n0 P x h kk
  intro p e R s mm args below meth c ls H locs cells slots Q C hH hS hl hc hs hF
  exact lv_ineg C.1 C.2.1 h  (kk p e R s mm args below meth c ls H locs cells slots Q C hH hS hl hc hs hF)
theorem sd_ladd {l : Launch} {D : va_G} {cy : Nat → ClassId} {A : Nat → Prop} {xi : Nat × Nat × (Nat → Int32)} : cl_ladd (XM l D cy A xi) := by
  intro M pc L rest S k0 n0 P x y h kk
  intro p e R s mm args below meth c ls H locs cells slots Q C hH hS hl hc hs hF
  exact lv_ladd C.1 C.2.1 h  (kk p e R s mm args below meth c ls H locs cells slots Q C hH hS hl hc hs hF)
theorem sd_lsub {l : Launch} {D : va_G} {cy : Nat → ClassId} {A : Nat → Prop} {xi : Nat × Nat × (Nat → Int32)} : cl_lsub (XM l D cy A xi) := by
  intro M pc L rest S k0 n0 P x y h kk
  intro p e R s mm args below meth c ls H locs cells slots Q C hH hS hl hc hs hF
  exact lv_lsub C.1 C.2.1 h  (kk p e R s mm args below meth c ls H locs cells slots Q C hH hS hl hc hs hF)
theorem sd_lmul {l : Launch} {D : va_G} {cy : Nat → ClassId} {A : Nat → Prop} {xi : Nat × Nat × (Nat → Int32)} : cl_lmul (XM l D cy A xi) := by
  intro M pc L rest S k0 n0 P x y h kk
  intro p e R s mm args below meth c ls H locs cells slots Q C hH hS hl hc hs hF
  exact lv_lmul C.1 C.2.1 h  (kk p e R s mm args below meth c ls H locs cells slots Q C hH hS hl hc hs hF)
theorem sd_land {l : Launch} {D : va_G} {cy : Nat → ClassId} {A : Nat → Prop} {xi : Nat × Nat × (Nat → Int32)} : cl_land (XM l D cy A xi) := by
  intro M pc L rest S k0 n0 P x y h kk
  intro p e R s mm args below meth c ls H locs cells slots Q C hH hS hl hc hs hF
  exact lv_land C.1 C.2.1 h  (kk p e R s mm args below meth c ls H locs cells slots Q C hH hS hl hc hs hF)
theorem sd_lor {l : Launch} {D : va_G} {cy : Nat → ClassId} {A : Nat → Prop} {xi : Nat × Nat × (Nat → Int32)} : cl_lor (XM l D cy A xi) := by
  intro M pc L rest S k0 n0 P x y h kk
  intro p e R s mm args below meth c ls H locs cells slots Q C hH hS hl hc hs hF
  exact lv_lor C.1 C.2.1 h  (kk p e R s mm args below meth c ls H locs cells slots Q C hH hS hl hc hs hF)
theorem sd_lxor {l : Launch} {D : va_G} {cy : Nat → ClassId} {A : Nat → Prop} {xi : Nat × Nat × (Nat → Int32)} : cl_lxor (XM l D cy A xi) := by
  intro M pc L rest S k0 n0 P x y h kk
  intro p e R s mm args below meth c ls H locs cells slots Q C hH hS hl hc hs hF
  exact lv_lxor C.1 C.2.1 h  (kk p e R s mm args below meth c ls H locs cells slots Q C hH hS hl hc hs hF)
theorem sd_ldiv {l : Launch} {D : va_G} {cy : Nat → ClassId} {A : Nat → Prop} {xi : Nat × Nat × (Nat → Int32)} : cl_ldiv (XM l D cy A xi) := by
  intro M pc L rest S k0 n0 P x y h hne kk
  intro p e R s mm args below meth c ls H locs cells slots Q C hH hS hl hc hs hF
  exact lv_ldiv C.1 C.2.1 h hne (kk p e R s mm args below meth c ls H locs cells slots Q C hH hS hl hc hs hF)
theorem sd_lrem {l : Launch} {D : va_G} {cy : Nat → ClassId} {A : Nat → Prop} {xi : Nat × Nat × (Nat → Int32)} : cl_lrem (XM l D cy A xi) := by
  intro M pc L rest S k0 n0 P x y h hne kk
  intro p e R s mm args below meth c ls H locs cells slots Q C hH hS hl hc hs hF
  exact lv_lrem C.1 C.2.1 h hne (kk p e R s mm args below meth c ls H locs cells slots Q C hH hS hl hc hs hF)
theorem sd_lneg {l : Launch} {D : va_G} {cy : Nat → ClassId} {A : Nat → Prop} {xi : Nat × Nat × (Nat → Int32)} : cl_lneg (XM l D cy A xi) := by
  intro M pc L rest S k0 n0 P x h kk
  intro p e R s mm args below meth c ls H locs cells slots Q C hH hS hl hc hs hF
  exact lv_lneg C.1 C.2.1 h  (kk p e R s mm args below meth c ls H locs cells slots Q C hH hS hl hc hs hF)
theorem sd_lshl {l : Launch} {D : va_G} {cy : Nat → ClassId} {A : Nat → Prop} {xi : Nat × Nat × (Nat → Int32)} : cl_lshl (XM l D cy A xi) := by
  intro M pc L rest S k0 n0 P x y h kk
  intro p e R s mm args below meth c ls H locs cells slots Q C hH hS hl hc hs hF
  exact lv_lshl C.1 C.2.1 h rfl (kk p e R s mm args below meth c ls H locs cells slots Q C hH hS hl hc hs hF)
theorem sd_lshr {l : Launch} {D : va_G} {cy : Nat → ClassId} {A : Nat → Prop} {xi : Nat × Nat × (Nat → Int32)} : cl_lshr (XM l D cy A xi) := by
  intro M pc L rest S k0 n0 P x y h kk
  intro p e R s mm args below meth c ls H locs cells slots Q C hH hS hl hc hs hF
  exact lv_lshr C.1 C.2.1 h rfl (kk p e R s mm args below meth c ls H locs cells slots Q C hH hS hl hc hs hF)
theorem sd_lushr {l : Launch} {D : va_G} {cy : Nat → ClassId} {A : Nat → Prop} {xi : Nat × Nat × (Nat → Int32)} : cl_lushr (XM l D cy A xi) := by
  intro M pc L rest S k0 n0 P x y h kk
  intro p e R s mm args below meth c ls H locs cells slots Q C hH hS hl hc hs hF
  exact lv_lushr C.1 C.2.1 h rfl (kk p e R s mm args below meth c ls H locs cells slots Q C hH hS hl hc hs hF)
theorem sd_i2l {l : Launch} {D : va_G} {cy : Nat → ClassId} {A : Nat → Prop} {xi : Nat × Nat × (Nat → Int32)} : cl_i2l (XM l D cy A xi) := by
  intro M pc L rest S k0 n0 P x h kk
  intro p e R s mm args below meth c ls H locs cells slots Q C hH hS hl hc hs hF
  exact lv_i2l C.1 C.2.1 h rfl (kk p e R s mm args below meth c ls H locs cells slots Q C hH hS hl hc hs hF)
theorem sd_l2i {l : Launch} {D : va_G} {cy : Nat → ClassId} {A : Nat → Prop} {xi : Nat × Nat × (Nat → Int32)} : cl_l2i (XM l D cy A xi) := by
  intro M pc L rest S k0 n0 P x h kk
  intro p e R s mm args below meth c ls H locs cells slots Q C hH hS hl hc hs hF
  exact lv_l2i C.1 C.2.1 h rfl (kk p e R s mm args below meth c ls H locs cells slots Q C hH hS hl hc hs hF)
theorem sd_i2b {l : Launch} {D : va_G} {cy : Nat → ClassId} {A : Nat → Prop} {xi : Nat × Nat × (Nat → Int32)} : cl_i2b (XM l D cy A xi) := by
  intro M pc L rest S k0 n0 P x h kk
  intro p e R s mm args below meth c ls H locs cells slots Q C hH hS hl hc hs hF
  exact lv_i2b C.1 C.2.1 h rfl (kk p e R s mm args below meth c ls H locs cells slots Q C hH hS hl hc hs hF)
theorem sd_lcmp {l : Launch} {D : va_G} {cy : Nat → ClassId} {A : Nat → Prop} {xi : Nat × Nat × (Nat → Int32)} : cl_lcmp (XM l D cy A xi) := by
  intro M pc L rest S k0 n0 P x y h kk
  intro p e R s mm args below meth c ls H locs cells slots Q C hH hS hl hc hs hF
  exact W.lcmp C.1 C.2.1 h  (kk p e R s mm args below meth c ls H locs cells slots Q C hH hS hl hc hs hF)
theorem sd_dup {l : Launch} {D : va_G} {cy : Nat → ClassId} {A : Nat → Prop} {xi : Nat × Nat × (Nat → Int32)} : cl_dup (XM l D cy A xi) := by
  intro M pc L rest S k0 n0 P v h hv kk
  intro p e R s mm args below meth c ls H locs cells slots Q C hH hS hl hc hs hF
  exact lv_dup C.1 C.2.1 h hv (kk p e R s mm args below meth c ls H locs cells slots Q C hH hS hl hc hs hF)
theorem sd_pop {l : Launch} {D : va_G} {cy : Nat → ClassId} {A : Nat → Prop} {xi : Nat × Nat × (Nat → Int32)} : cl_pop (XM l D cy A xi) := by
  intro M pc L rest S k0 n0 P v h hv kk
  intro p e R s mm args below meth c ls H locs cells slots Q C hH hS hl hc hs hF
  exact lv_pop C.1 C.2.1 h hv (kk p e R s mm args below meth c ls H locs cells slots Q C hH hS hl hc hs hF)
theorem sd_dup2_2 {l : Launch} {D : va_G} {cy : Nat → ClassId} {A : Nat → Prop} {xi : Nat × Nat × (Nat → Int32)} : cl_dup2_2 (XM l D cy A xi) := by
  intro M pc L rest S k0 n0 P v h hv kk
  intro p e R s mm args below meth c ls H locs cells slots Q C hH hS hl hc hs hF
  exact lv_dup2_2 C.1 C.2.1 h hv (kk p e R s mm args below meth c ls H locs cells slots Q C hH hS hl hc hs hF)
theorem sd_dup2_11 {l : Launch} {D : va_G} {cy : Nat → ClassId} {A : Nat → Prop} {xi : Nat × Nat × (Nat → Int32)} : cl_dup2_11 (XM l D cy A xi) := by
  intro M pc L rest S k0 n0 P v w h hv hw kk
  intro p e R s mm args below meth c ls H locs cells slots Q C hH hS hl hc hs hF
  exact lv_dup2_11 C.1 C.2.1 h hv hw (kk p e R s mm args below meth c ls H locs cells slots Q C hH hS hl hc hs hF)
theorem sd_pop2_2 {l : Launch} {D : va_G} {cy : Nat → ClassId} {A : Nat → Prop} {xi : Nat × Nat × (Nat → Int32)} : cl_pop2_2 (XM l D cy A xi) := by
  intro M pc L rest S k0 n0 P v h hv kk
  intro p e R s mm args below meth c ls H locs cells slots Q C hH hS hl hc hs hF
  exact lv_pop2_2 C.1 C.2.1 h hv (kk p e R s mm args below meth c ls H locs cells slots Q C hH hS hl hc hs hF)
theorem sd_if_eq {l : Launch} {D : va_G} {cy : Nat → ClassId} {A : Nat → Prop} {xi : Nat × Nat × (Nat → Int32)} : cl_if_eq (XM l D cy A xi) := by
  intro M pc L rest S k0 n0 P x z tgt h ht kt kf
  intro p e R s mm args below meth c ls H locs cells slots Q C hH hS hl hc hs hF
  exact lv_if_eq C.1 C.2.1 h ht (fun q => kt q p e R s mm args below meth c ls H locs cells slots Q C hH hS hl hc hs hF) (fun q => kf q p e R s mm args below meth c ls H locs cells slots Q C hH hS hl hc hs hF)
theorem sd_icmp_eq {l : Launch} {D : va_G} {cy : Nat → ClassId} {A : Nat → Prop} {xi : Nat × Nat × (Nat → Int32)} : cl_icmp_eq (XM l D cy A xi) := by
  intro M pc L rest S k0 n0 P x y z tgt h ht kt kf
  intro p e R s mm args below meth c ls H locs cells slots Q C hH hS hl hc hs hF
  exact lv_icmp_eq C.1 C.2.1 h ht (fun q => kt q p e R s mm args below meth c ls H locs cells slots Q C hH hS hl hc hs hF) (fun q => kf q p e R s mm args below meth c ls H locs cells slots Q C hH hS hl hc hs hF)
theorem sd_if_ne {l : Launch} {D : va_G} {cy : Nat → ClassId} {A : Nat → Prop} {xi : Nat × Nat × (Nat → Int32)} : cl_if_ne (XM l D cy A xi) := by
  intro M pc L rest S k0 n0 P x z tgt h ht kt kf
  intro p e R s mm args below meth c ls H locs cells slots Q C hH hS hl hc hs hF
  exact lv_if_ne C.1 C.2.1 h ht (fun q => kt q p e R s mm args below meth c ls H locs cells slots Q C hH hS hl hc hs hF) (fun q => kf q p e R s mm args below meth c ls H locs cells slots Q C hH hS hl hc hs hF)
theorem sd_icmp_ne {l : Launch} {D : va_G} {cy : Nat → ClassId} {A : Nat → Prop} {xi : Nat × Nat × (Nat → Int32)} : cl_icmp_ne (XM l D cy A xi) := by
  intro M pc L rest S k0 n0 P x y z tgt h ht kt kf
  intro p e R s mm args below meth c ls H locs cells slots Q C hH hS hl hc hs hF
  exact lv_icmp_ne C.1 C.2.1 h ht (fun q => kt q p e R s mm args below meth c ls H locs cells slots Q C hH hS hl hc hs hF) (fun q => kf q p e R s mm args below meth c ls H locs cells slots Q C hH hS hl hc hs hF)
theorem sd_if_lt {l : Launch} {D : va_G} {cy : Nat → ClassId} {A : Nat → Prop} {xi : Nat × Nat × (Nat → Int32)} : cl_if_lt (XM l D cy A xi) := by
  intro M pc L rest S k0 n0 P x z tgt h ht kt kf
  intro p e R s mm args below meth c ls H locs cells slots Q C hH hS hl hc hs hF
  exact lv_if_lt C.1 C.2.1 h ht (fun q => kt q p e R s mm args below meth c ls H locs cells slots Q C hH hS hl hc hs hF) (fun q => kf q p e R s mm args below meth c ls H locs cells slots Q C hH hS hl hc hs hF)
theorem sd_icmp_lt {l : Launch} {D : va_G} {cy : Nat → ClassId} {A : Nat → Prop} {xi : Nat × Nat × (Nat → Int32)} : cl_icmp_lt (XM l D cy A xi) := by
  intro M pc L rest S k0 n0 P x y z tgt h ht kt kf
  intro p e R s mm args below meth c ls H locs cells slots Q C hH hS hl hc hs hF
  exact lv_icmp_lt C.1 C.2.1 h ht (fun q => kt q p e R s mm args below meth c ls H locs cells slots Q C hH hS hl hc hs hF) (fun q => kf q p e R s mm args below meth c ls H locs cells slots Q C hH hS hl hc hs hF)
theorem sd_if_ge {l : Launch} {D : va_G} {cy : Nat → ClassId} {A : Nat → Prop} {xi : Nat × Nat × (Nat → Int32)} : cl_if_ge (XM l D cy A xi) := by
  intro M pc L rest S k0 n0 P x z tgt h ht kt kf
  intro p e R s mm args below meth c ls H locs cells slots Q C hH hS hl hc hs hF
  exact lv_if_ge C.1 C.2.1 h ht (fun q => kt q p e R s mm args below meth c ls H locs cells slots Q C hH hS hl hc hs hF) (fun q => kf q p e R s mm args below meth c ls H locs cells slots Q C hH hS hl hc hs hF)
theorem sd_icmp_ge {l : Launch} {D : va_G} {cy : Nat → ClassId} {A : Nat → Prop} {xi : Nat × Nat × (Nat → Int32)} : cl_icmp_ge (XM l D cy A xi) := by
  intro M pc L rest S k0 n0 P x y z tgt h ht kt kf
  intro p e R s mm args below meth c ls H locs cells slots Q C hH hS hl hc hs hF
  exact lv_icmp_ge C.1 C.2.1 h ht (fun q => kt q p e R s mm args below meth c ls H locs cells slots Q C hH hS hl hc hs hF) (fun q => kf q p e R s mm args below meth c ls H locs cells slots Q C hH hS hl hc hs hF)
theorem sd_if_gt {l : Launch} {D : va_G} {cy : Nat → ClassId} {A : Nat → Prop} {xi : Nat × Nat × (Nat → Int32)} : cl_if_gt (XM l D cy A xi) := by
  intro M pc L rest S k0 n0 P x z tgt h ht kt kf
  intro p e R s mm args below meth c ls H locs cells slots Q C hH hS hl hc hs hF
  exact lv_if_gt C.1 C.2.1 h ht (fun q => kt q p e R s mm args below meth c ls H locs cells slots Q C hH hS hl hc hs hF) (fun q => kf q p e R s mm args below meth c ls H locs cells slots Q C hH hS hl hc hs hF)
theorem sd_icmp_gt {l : Launch} {D : va_G} {cy : Nat → ClassId} {A : Nat → Prop} {xi : Nat × Nat × (Nat → Int32)} : cl_icmp_gt (XM l D cy A xi) := by
  intro M pc L rest S k0 n0 P x y z tgt h ht kt kf
  intro p e R s mm args below meth c ls H locs cells slots Q C hH hS hl hc hs hF
  exact lv_icmp_gt C.1 C.2.1 h ht (fun q => kt q p e R s mm args below meth c ls H locs cells slots Q C hH hS hl hc hs hF) (fun q => kf q p e R s mm args below meth c ls H locs cells slots Q C hH hS hl hc hs hF)
theorem sd_if_le {l : Launch} {D : va_G} {cy : Nat → ClassId} {A : Nat → Prop} {xi : Nat × Nat × (Nat → Int32)} : cl_if_le (XM l D cy A xi) := by
  intro M pc L rest S k0 n0 P x z tgt h ht kt kf
  intro p e R s mm args below meth c ls H locs cells slots Q C hH hS hl hc hs hF
  exact lv_if_le C.1 C.2.1 h ht (fun q => kt q p e R s mm args below meth c ls H locs cells slots Q C hH hS hl hc hs hF) (fun q => kf q p e R s mm args below meth c ls H locs cells slots Q C hH hS hl hc hs hF)
theorem sd_icmp_le {l : Launch} {D : va_G} {cy : Nat → ClassId} {A : Nat → Prop} {xi : Nat × Nat × (Nat → Int32)} : cl_icmp_le (XM l D cy A xi) := by
  intro M pc L rest S k0 n0 P x y z tgt h ht kt kf
  intro p e R s mm args below meth c ls H locs cells slots Q C hH hS hl hc hs hF
  exact lv_icmp_le C.1 C.2.1 h ht (fun q => kt q p e R s mm args below meth c ls H locs cells slots Q C hH hS hl hc hs hF) (fun q => kf q p e R s mm args below meth c ls H locs cells slots Q C hH hS hl hc hs hF)
theorem sd_goto {l : Launch} {D : va_G} {cy : Nat → ClassId} {A : Nat → Prop} {xi : Nat × Nat × (Nat → Int32)} : cl_goto (XM l D cy A xi) := by
  intro M pc L rest S k0 n0 P z tgt h ht kk
  intro p e R s mm args below meth c ls H locs cells slots Q C hH hS hl hc hs hF
  exact lv_goto C.1 C.2.1 h ht (kk p e R s mm args below meth c ls H locs cells slots Q C hH hS hl hc hs hF)
theorem sd_ifnonnull {l : Launch} {D : va_G} {cy : Nat → ClassId} {A : Nat → Prop} {xi : Nat × Nat × (Nat → Int32)} : cl_ifnonnull (XM l D cy A xi) := by
  intro M pc L rest S k0 n0 P x z tgt h ht kk
  intro p e R s mm args below meth c ls H locs cells slots Q C hH hS hl hc hs hF
  exact lv_ifnonnull C.1 C.2.1 h ht (kk p e R s mm args below meth c ls H locs cells slots Q C hH hS hl hc hs hF)
theorem sd_ifnull {l : Launch} {D : va_G} {cy : Nat → ClassId} {A : Nat → Prop} {xi : Nat × Nat × (Nat → Int32)} : cl_ifnull (XM l D cy A xi) := by
  intro M pc L rest S k0 n0 P x z h kk
  intro p e R s mm args below meth c ls H locs cells slots Q C hH hS hl hc hs hF
  exact lv_ifnull C.1 C.2.1 h (kk p e R s mm args below meth c ls H locs cells slots Q C hH hS hl hc hs hF)
theorem sd_ifnullN {l : Launch} {D : va_G} {cy : Nat → ClassId} {A : Nat → Prop} {xi : Nat × Nat × (Nat → Int32)} : cl_ifnullN (XM l D cy A xi) := by
  intro M pc L rest S k0 n0 P z tgt h ht kk
  intro p e R s mm args below meth c ls H locs cells slots Q C hH hS hl hc hs hF
  exact lv_ifnullN C.1 C.2.1 h ht (kk p e R s mm args below meth c ls H locs cells slots Q C hH hS hl hc hs hF)
theorem sd_ifnonnullN {l : Launch} {D : va_G} {cy : Nat → ClassId} {A : Nat → Prop} {xi : Nat × Nat × (Nat → Int32)} : cl_ifnonnullN (XM l D cy A xi) := by
  intro M pc L rest S k0 n0 P z h kk
  intro p e R s mm args below meth c ls H locs cells slots Q C hH hS hl hc hs hF
  exact lv_ifnonnullN C.1 C.2.1 h (kk p e R s mm args below meth c ls H locs cells slots Q C hH hS hl hc hs hF)
theorem sd_lookup {l : Launch} {D : va_G} {cy : Nat → ClassId} {A : Nat → Prop} {xi : Nat × Nat × (Nat → Int32)} : cl_lookup (XM l D cy A xi) := by
  intro M pc L rest S k0 n0 P x dflt off ps len tgt h hp ho ht kk
  intro p e R s mm args below meth c ls H locs cells slots Q C hH hS hl hc hs hF
  exact lv_lookup C.1 C.2.1 h hp ho ht (kk p e R s mm args below meth c ls H locs cells slots Q C hH hS hl hc hs hF)
theorem sd_tableOut {l : Launch} {D : va_G} {cy : Nat → ClassId} {A : Nat → Prop} {xi : Nat × Nat × (Nat → Int32)} : cl_tableOut (XM l D cy A xi) := by
  intro M pc L rest S k0 n0 P x dflt lo hi offs len tgt h hr ht kk
  intro p e R s mm args below meth c ls H locs cells slots Q C hH hS hl hc hs hF
  exact lv_tableOut C.1 C.2.1 h hr ht (kk p e R s mm args below meth c ls H locs cells slots Q C hH hS hl hc hs hF)
theorem sd_tableIn {l : Launch} {D : va_G} {cy : Nat → ClassId} {A : Nat → Prop} {xi : Nat × Nat × (Nat → Int32)} : cl_tableIn (XM l D cy A xi) := by
  intro M pc L rest S k0 n0 P x dflt lo hi off offs len tgt h h1 h2 ho ht kk
  intro p e R s mm args below meth c ls H locs cells slots Q C hH hS hl hc hs hF
  exact lv_tableIn C.1 C.2.1 h h1 h2 ho ht (kk p e R s mm args below meth c ls H locs cells slots Q C hH hS hl hc hs hF)
theorem sd_loc {l : Launch} {D : va_G} {cy : Nat → ClassId} {A : Nat → Prop} {xi : Nat × Nat × (Nat → Int32)} : cl_loc (XM l D cy A xi) := by
  intro M pc L rest S k0 n0 P ks L' hL kk
  intro p e R s mm args below meth c ls H locs cells slots Q C hH hS hl hc hs hF
  exact kk p e R s mm args below meth c ls H locs cells slots Q C hH hS (lv_sub hl ks hL) hc hs hF
theorem sd_getI {l : Launch} {D : va_G} {cy : Nat → ClassId} {A : Nat → Prop} {xi : Nat × Nat × (Nat → Int32)} : cl_getI (XM l D cy A xi) := by
  intro M pc L rest S k0 n0 P i cn j id a ty fin ns h hf hk hid ho kk
  intro p e R s mm args below meth c ls H locs cells slots Q C hH hS hl hc hs hF
  subst hid
  exact hs_get C hH hf ho h (by rw [hs_fv0 hk]; exact (kk p e R s mm args below meth c ls H locs cells slots Q C hH hS hl hc hs hF))
theorem sd_getJ {l : Launch} {D : va_G} {cy : Nat → ClassId} {A : Nat → Prop} {xi : Nat × Nat × (Nat → Int32)} : cl_getJ (XM l D cy A xi) := by
  intro M pc L rest S k0 n0 P i cn j id a ty fin ns h hf hk hid ho kk
  intro p e R s mm args below meth c ls H locs cells slots Q C hH hS hl hc hs hF
  subst hid
  exact hs_get C hH hf ho h (by rw [hs_fv1 hk]; exact (kk p e R s mm args below meth c ls H locs cells slots Q C hH hS hl hc hs hF))
theorem sd_getR {l : Launch} {D : va_G} {cy : Nat → ClassId} {A : Nat → Prop} {xi : Nat × Nat × (Nat → Int32)} : cl_getR (XM l D cy A xi) := by
  intro M pc L rest S k0 n0 P i cn j id a ty fin ns h hf hk hid ho kk
  intro p e R s mm args below meth c ls H locs cells slots Q C hH hS hl hc hs hF
  subst hid
  exact hs_get C hH hf ho h (by rw [hs_fv2 hk]; exact (kk p e R s mm args below meth c ls H locs cells slots Q C hH hS hl hc hs hF))
theorem sd_putI {l : Launch} {D : va_G} {cy : Nat → ClassId} {A : Nat → Prop} {xi : Nat × Nat × (Nat → Int32)} : cl_putI (XM l D cy A xi) := by
  intro M pc L rest S k0 n0 P i cn j id a ty fin ns x h hf hk hid ho hn hfit hi kk
  intro p e R s mm args below meth c ls H locs cells slots Q C hH hS hl hc hs hF
  subst hid
  exact hs_put (S' := sp_I S (cn * 64 + j) a x) C hH hS hf ho hn hfit hi h (hs_vsp_I hk) (hs_osp_I hk) (hq_L_I ..) (hq_K_I ..) (hq_N_I ..) (hq_i_I ..) (hq_j_I ..) (hq_r_I ..) (fun H' locs' hH' hS' => kk p e R s mm args below meth c ls H' locs' cells slots Q C hH' hS' hl hc hs hF)
theorem sd_putJ {l : Launch} {D : va_G} {cy : Nat → ClassId} {A : Nat → Prop} {xi : Nat × Nat × (Nat → Int32)} : cl_putJ (XM l D cy A xi) := by
  intro M pc L rest S k0 n0 P i cn j id a ty fin ns x h hf hk hid ho hn hfit hi kk
  intro p e R s mm args below meth c ls H locs cells slots Q C hH hS hl hc hs hF
  subst hid
  exact hs_put (S' := sp_J S (cn * 64 + j) a x) C hH hS hf ho hn hfit hi h (hs_vsp_J hk) (hs_osp_J hk) (hq_L_J ..) (hq_K_J ..) (hq_N_J ..) (hq_i_J ..) (hq_j_J ..) (hq_r_J ..) (fun H' locs' hH' hS' => kk p e R s mm args below meth c ls H' locs' cells slots Q C hH' hS' hl hc hs hF)
theorem sd_putR {l : Launch} {D : va_G} {cy : Nat → ClassId} {A : Nat → Prop} {xi : Nat × Nat × (Nat → Int32)} : cl_putR (XM l D cy A xi) := by
  intro M pc L rest S k0 n0 P i cn j id a ty fin ns x h hf hk hid ho hn hfit hi kk
  intro p e R s mm args below meth c ls H locs cells slots Q C hH hS hl hc hs hF
  subst hid
  exact hs_put (S' := sp_R S (cn * 64 + j) a x) C hH hS hf ho hn hfit hi h (hs_vsp_R hk) (hs_osp_R hk) (hq_L_R ..) (hq_K_R ..) (hq_N_R ..) (hq_i_R ..) (hq_j_R ..) (hq_r_R ..) (fun H' locs' hH' hS' => kk p e R s mm args below meth c ls H' locs' cells slots Q C hH' hS' hl hc hs hF)
theorem sd_iaload {l : Launch} {D : va_G} {cy : Nat → ClassId} {A : Nat → Prop} {xi : Nat × Nat × (Nat → Int32)} : cl_iaload (XM l D cy A xi) := by
  intro M pc L rest S k0 n0 P a i h ho hin kk
  intro p e R s mm args below meth c ls H locs cells slots Q C hH hS hl hc hs hF
  obtain ⟨q, hq⟩ := hs_at (cy := cy) ho.1
  rw [hs_ce32 ho.2] at hq
  exact va_iald C.1 C.2.1 (cx_K C) hH.1 q 0 hq rfl hin h (kk p e R s mm args below meth c ls H locs cells slots Q C hH hS hl hc hs hF)
theorem sd_laload {l : Launch} {D : va_G} {cy : Nat → ClassId} {A : Nat → Prop} {xi : Nat × Nat × (Nat → Int32)} : cl_laload (XM l D cy A xi) := by
  intro M pc L rest S k0 n0 P a i h ho hin kk
  intro p e R s mm args below meth c ls H locs cells slots Q C hH hS hl hc hs hF
  obtain ⟨q, hq⟩ := hs_at (cy := cy) ho.1
  rw [hs_ce33 ho.2] at hq
  exact va_lald C.1 C.2.1 (cx_K C) hH.1 q 1 hq rfl hin h (kk p e R s mm args below meth c ls H locs cells slots Q C hH hS hl hc hs hF)
theorem sd_zaload {l : Launch} {D : va_G} {cy : Nat → ClassId} {A : Nat → Prop} {xi : Nat × Nat × (Nat → Int32)} : cl_zaload (XM l D cy A xi) := by
  intro M pc L rest S k0 n0 P a i h ho hin kk
  intro p e R s mm args below meth c ls H locs cells slots Q C hH hS hl hc hs hF
  obtain ⟨q, hq⟩ := hs_at (cy := cy) ho.1
  rw [hs_ce34 ho.2] at hq
  exact va_zald C.1 C.2.1 (cx_K C) hH.1 q 2 hq rfl hin h (kk p e R s mm args below meth c ls H locs cells slots Q C hH hS hl hc hs hF)
theorem sd_aaload {l : Launch} {D : va_G} {cy : Nat → ClassId} {A : Nat → Prop} {xi : Nat × Nat × (Nat → Int32)} : cl_aaload (XM l D cy A xi) := by
  intro M pc L rest S k0 n0 P a i h ho hin kk
  intro p e R s mm args below meth c ls H locs cells slots Q C hH hS hl hc hs hF
  obtain ⟨q, hq⟩ := hs_at (cy := cy) ho.1
  rw [hs_ce35 ho.2] at hq
  exact va_aldq C.1 C.2.1 (cx_K C) hH.1 q 3 hq rfl hin h (kk p e R s mm args below meth c ls H locs cells slots Q C hH hS hl hc hs hF)
theorem sd_iastore {l : Launch} {D : va_G} {cy : Nat → ClassId} {A : Nat → Prop} {xi : Nat × Nat × (Nat → Int32)} : cl_iastore (XM l D cy A xi) := by
  intro M pc L rest S k0 n0 P a i x h ho hin kk
  intro p e R s mm args below meth c ls H locs cells slots Q C hH hS hl hc hs hF
  obtain ⟨q, hq⟩ := hs_at (cy := cy) ho.1
  have hq0 := hq
  rw [hs_ce32 ho.2] at hq
  refine va_iast C.1 C.2.1 (cx_K C) hH.1 hH.2 hS q 0 hq rfl hin h (fun H' locs' hP hD hS' => kk p e R s mm args below meth c ls H' locs' cells slots Q C ?_ hS' hl hc hs hF)
  exact hs_set hH ho.1 hq0 (hs_sp_i ho.2 _) rfl hP hD
theorem sd_lastore {l : Launch} {D : va_G} {cy : Nat → ClassId} {A : Nat → Prop} {xi : Nat × Nat × (Nat → Int32)} : cl_lastore (XM l D cy A xi) := by
  intro M pc L rest S k0 n0 P a i x h ho hin kk
  intro p e R s mm args below meth c ls H locs cells slots Q C hH hS hl hc hs hF
  obtain ⟨q, hq⟩ := hs_at (cy := cy) ho.1
  have hq0 := hq
  rw [hs_ce33 ho.2] at hq
  refine va_last C.1 C.2.1 (cx_K C) hH.1 hH.2 hS q 1 hq rfl hin h (fun H' locs' hP hD hS' => kk p e R s mm args below meth c ls H' locs' cells slots Q C ?_ hS' hl hc hs hF)
  exact hs_set hH ho.1 hq0 (hs_sp_j ho.2 _) rfl hP hD
theorem sd_zastore {l : Launch} {D : va_G} {cy : Nat → ClassId} {A : Nat → Prop} {xi : Nat × Nat × (Nat → Int32)} : cl_zastore (XM l D cy A xi) := by
  intro M pc L rest S k0 n0 P a i x h ho hin kk
  intro p e R s mm args below meth c ls H locs cells slots Q C hH hS hl hc hs hF
  obtain ⟨q, hq⟩ := hs_at (cy := cy) ho.1
  have hq0 := hq
  rw [hs_ce34 ho.2] at hq
  refine va_zast C.1 C.2.1 (cx_K C) hH.1 hH.2 hS q 2 hq rfl hin h (fun H' locs' hP hD hS' => kk p e R s mm args below meth c ls H' locs' cells slots Q C ?_ hS' hl hc hs hF)
  exact hs_set hH ho.1 hq0 (hs_sp_z ho.2 _) rfl hP hD
theorem sd_aastore {l : Launch} {D : va_G} {cy : Nat → ClassId} {A : Nat → Prop} {xi : Nat × Nat × (Nat → Int32)} : cl_aastore (XM l D cy A xi) := by
  intro M pc L rest S k0 n0 P a v i h ho hv hin kk
  intro p e R s mm args below meth c ls H locs cells slots Q C hH hS hl hc hs hF
  obtain ⟨q, hq⟩ := hs_at (cy := cy) ho.1
  have hq0 := hq
  rw [hs_ce35 ho.2] at hq
  obtain ⟨q2, hq2⟩ := hs_at (cy := cy) hv.1
  rw [hs_ceo hv.2 (by decide)] at hq2
  refine va_astq (r := (RX5, TX5, 3)) C.1 C.2.1 (cx_K C) hH.1 hH.2 hS q 3 q2 5 hq rfl hq2 rfl hin h (fun H' locs' hP hD hS' => kk p e R s mm args below meth c ls H' locs' cells slots Q C ?_ hS' hl hc hs hF)
  exact hs_set hH ho.1 hq0 (hs_sp_r ho.2 _) rfl hP hD
theorem sd_newo {l : Launch} {D : va_G} {cy : Nat → ClassId} {A : Nat → Prop} {xi : Nat × Nat × (Nat → Int32)} : cl_newo (XM l D cy A xi) := by
  intro M pc L rest S k0 n0 P i cn k1 n1 h hN hk hn kk
  intro p e R s mm args below meth c ls H locs cells slots Q C hH hS hl hc hs hF
  exact hs_new C hH hS hN h (by omega) (by omega) (fun a H' ha hH' hS' => W.widen (k := cells + (k0 - k1)) (n := slots + (n0 - n1)) (by omega) (by omega) (kk a ha p e R s mm args below meth c ls H' locs (cells + (k0 - k1)) (slots + (n0 - n1)) Q C hH' hS' hl (by omega) (by omega) (by rw [show cells + (k0 - k1) + k1 = cells + k0 by omega, show slots + (n0 - n1) + n1 = slots + n0 by omega]; exact hF)))
theorem sd_ldc2 {l : Launch} {D : va_G} {cy : Nat → ClassId} {A : Nat → Prop} {xi : Nat × Nat × (Nat → Int32)} : cl_ldc2 (XM l D cy A xi) := by
  intro M pc L rest S k0 n0 P i v h hw kk
  intro p e R s mm args below meth c ls H locs cells slots Q C hH hS hl hc hs hF
  exact lv_ldc2 C.1 C.2.1 (cx_own C) (cx_ts C _ hw) h (kk p e R s mm args below meth c ls H locs cells slots Q C hH hS hl hc hs hF)
theorem sd_ldcw {l : Launch} {D : va_G} {cy : Nat → ClassId} {A : Nat → Prop} {xi : Nat × Nat × (Nat → Int32)} : cl_ldcw (XM l D cy A xi) := by
  intro M pc L rest S k0 n0 P i v h hw kk
  intro p e R s mm args below meth c ls H locs cells slots Q C hH hS hl hc hs hF
  exact lv_ldcw C.1 C.2.1 (cx_own C) (cx_ts C _ hw) h (kk p e R s mm args below meth c ls H locs cells slots Q C hH hS hl hc hs hF)
theorem sd_ldc {l : Launch} {D : va_G} {cy : Nat → ClassId} {A : Nat → Prop} {xi : Nat × Nat × (Nat → Int32)} : cl_ldc (XM l D cy A xi) := by
  intro M pc L rest S k0 n0 P i v h hw kk
  intro p e R s mm args below meth c ls H locs cells slots Q C hH hS hl hc hs hF
  exact lv_ldc C.1 C.2.1 (cx_own C) (cx_ts C _ hw) h (kk p e R s mm args below meth c ls H locs cells slots Q C hH hS hl hc hs hF)
theorem sd_objInit {l : Launch} {D : va_G} {cy : Nat → ClassId} {A : Nat → Prop} {xi : Nat × Nat × (Nat → Int32)} : cl_objInit (XM l D cy A xi) := by
  intro M pc L rest S k0 n0 P i a h hw hr kk
  intro p e R s mm args below meth c ls H locs cells slots Q C hH hS hl hc hs hF
  exact W.objInit C.1 C.2.1 (cx_own C) (cx_ts C _ hw.1) (cx_ts C _ hw.2.1) (cx_ts C _ hw.2.2) rfl (by rw [C.2.2.2.1]; exact hl.1) rfl h (Nat.le_trans hr.1 (cx_rm C).1) (by have h9 := (cx_rm C).2; have h8 : (F0 mm pc ls (.ref a :: rest)).monitorRoom = 0 := rfl; rw [h8]; omega) (kk p e R s mm args below meth c ls H locs cells slots Q C hH hS hl hc hs hF)
theorem sd_sld {l : Launch} {D : va_G} {cy : Nat → ClassId} {A : Nat → Prop} {xi : Nat × Nat × (Nat → Int32)} : cl_sld xi (XM l D cy A xi) := by
  intro M pc L rest S k0 n0 P i h hin kk
  intro p e R s mm args below meth c ls H locs cells slots Q C hH hS hl hc hs hF
  obtain ⟨hX, hX1, hX2⟩ := (cx_S C).2.2.2.2.2.2.2.2.1
  exact va_sld C.1 C.2.1 hX hX1 hX2 hS hin h (kk p e R s mm args below meth c ls H locs cells slots Q C hH hS hl hc hs hF)
theorem sd_slen {l : Launch} {D : va_G} {cy : Nat → ClassId} {A : Nat → Prop} {xi : Nat × Nat × (Nat → Int32)} : cl_slen xi (XM l D cy A xi) := by
  intro M pc L rest S k0 n0 P h kk
  intro p e R s mm args below meth c ls H locs cells slots Q C hH hS hl hc hs hF
  obtain ⟨hX, hX1, hX2⟩ := (cx_S C).2.2.2.2.2.2.2.2.1
  exact va_slen C.1 C.2.1 hX hX1 hX2 hS h (kk p e R s mm args below meth c ls H locs cells slots Q C hH hS hl hc hs hF)
theorem sd_newI {l : Launch} {D : va_G} {cy : Nat → ClassId} {A : Nat → Prop} {xi : Nat × Nat × (Nat → Int32)} : cl_newI (XM l D cy A xi) := by
  intro M pc L rest S k0 n0 P x len k1 n1 h hw hx hlen hb hk hn kk
  intro p e R s mm args below meth c ls H locs cells slots Q C hH hS hl hc hs hF
  exact hs_newI C hH hS hw hx hlen hb h (by omega) (by omega) (fun a H' ha hH' hS' => W.widen (k := cells + (k0 - k1)) (n := slots + (n0 - n1)) (by omega) (by omega) (kk a ha p e R s mm args below meth c ls H' locs (cells + (k0 - k1)) (slots + (n0 - n1)) Q C hH' hS' hl (by omega) (by omega) (by rw [show cells + (k0 - k1) + k1 = cells + k0 by omega, show slots + (n0 - n1) + n1 = slots + n0 by omega]; exact hF)))
theorem sd_newJ {l : Launch} {D : va_G} {cy : Nat → ClassId} {A : Nat → Prop} {xi : Nat × Nat × (Nat → Int32)} : cl_newJ (XM l D cy A xi) := by
  intro M pc L rest S k0 n0 P x len k1 n1 h hw hx hlen hb hk hn kk
  intro p e R s mm args below meth c ls H locs cells slots Q C hH hS hl hc hs hF
  exact hs_newJ C hH hS hw hx hlen hb h (by omega) (by omega) (fun a H' ha hH' hS' => W.widen (k := cells + (k0 - k1)) (n := slots + (n0 - n1)) (by omega) (by omega) (kk a ha p e R s mm args below meth c ls H' locs (cells + (k0 - k1)) (slots + (n0 - n1)) Q C hH' hS' hl (by omega) (by omega) (by rw [show cells + (k0 - k1) + k1 = cells + k0 by omega, show slots + (n0 - n1) + n1 = slots + n0 by omega]; exact hF)))
theorem sd_newZ {l : Launch} {D : va_G} {cy : Nat → ClassId} {A : Nat → Prop} {xi : Nat × Nat × (Nat → Int32)} : cl_newZ (XM l D cy A xi) := by
  intro M pc L rest S k0 n0 P x len k1 n1 h hw hx hlen hb hk hn kk
  intro p e R s mm args below meth c ls H locs cells slots Q C hH hS hl hc hs hF
  exact hs_newZ C hH hS hw hx hlen hb h (by omega) (by omega) (fun a H' ha hH' hS' => W.widen (k := cells + (k0 - k1)) (n := slots + (n0 - n1)) (by omega) (by omega) (kk a ha p e R s mm args below meth c ls H' locs (cells + (k0 - k1)) (slots + (n0 - n1)) Q C hH' hS' hl (by omega) (by omega) (by rw [show cells + (k0 - k1) + k1 = cells + k0 by omega, show slots + (n0 - n1) + n1 = slots + n0 by omega]; exact hF)))
theorem sd_newP {l : Launch} {D : va_G} {cy : Nat → ClassId} {A : Nat → Prop} {xi : Nat × Nat × (Nat → Int32)} : cl_newP (XM l D cy A xi) := by
  intro M pc L rest S k0 n0 P x i len k1 n1 h hw hx hlen hb hk hn kk
  intro p e R s mm args below meth c ls H locs cells slots Q C hH hS hl hc hs hF
  exact hs_newP C hH hS hw hx hlen hb h (by omega) (by omega) (fun a H' ha hH' hS' => W.widen (k := cells + (k0 - k1)) (n := slots + (n0 - n1)) (by omega) (by omega) (kk a ha p e R s mm args below meth c ls H' locs (cells + (k0 - k1)) (slots + (n0 - n1)) Q C hH' hS' hl (by omega) (by omega) (by rw [show cells + (k0 - k1) + k1 = cells + k0 by omega, show slots + (n0 - n1) + n1 = slots + n0 by omega]; exact hF)))
theorem sd_copyl {l : Launch} {D : va_G} {cy : Nat → ClassId} {A : Nat → Prop} {xi : Nat × Nat × (Nat → Int32)} : cl_copyl (XM l D cy A xi) := by
  intro M pc L rest S k0 n0 P i a b sp dp z h hw ha hb h1 h2 h3 h4 h5 hr kk
  intro p e R s mm args below meth c ls H locs cells slots Q C hH hS hl hc hs hF
  obtain ⟨q, hq⟩ := hs_at (cy := cy) ha.1
  rw [hs_ce33 ha.2] at hq
  obtain ⟨q2, hq2⟩ := hs_at (cy := cy) hb.1
  have hq0 := hq2
  rw [hs_ce33 hb.2] at hq2
  refine va_copyl (ty := .long) C.1 C.2.1 (by rw [C.2.2.2.1]; exact hl.1.symm) (cx_own C) (cx_ts C _ hw.1) (cx_ts C _ hw.2.1) (cx_ts C _ hw.2.2.1) (cx_ts C _ hw.2.2.2) (cx_K C) hH.1 hH.2 hS q q2 1 1 hq hq2 rfl rfl rfl h1 h2 h3 h4 h5 (fun _ _ => rfl) (Nat.le_trans hr.1 (cx_rm C).1) (Nat.le_trans hr.2 (cx_rm C).2) h (fun H' locs' hP hD hS' => kk p e R s mm args below meth c ls H' locs' cells slots Q C ?_ hS' hl hc hs hF)
  exact hs_set hH hb.1 hq0 (hs_sp_j hb.2 _) rfl hP hD
theorem sd_ret {l : Launch} {D : va_G} {cy : Nat → ClassId} {A : Nat → Prop} {xi : Nat × Nat × (Nat → Int32)} : cl_ret (XM l D cy A xi) := by
  intro M pc L rest S k0 n0 P v hr hP 
  intro p e R s mm args below meth c ls H locs cells slots Q C hH hS hl hc hs hF
  exact hF.1 v S H locs pc ls cells slots k0 n0 hP rfl rfl hH hS hr
theorem sd_throw {l : Launch} {D : va_G} {cy : Nat → ClassId} {A : Nat → Prop} {xi : Nat × Nat × (Nat → Int32)} : cl_throw (XM l D cy A xi) := by
  intro M pc L rest S k0 n0 P E ht hP hk hn hr 
  intro p e R s mm args below meth c ls H locs cells slots Q C hH hS hl hc hs hF
  exact hF.2.2 E S H locs cells slots pc ls rest hP hH hS ht hl.1 hr (by omega) (by omega) hc hs
theorem sd_callV {l : Launch} {D : va_G} {cy : Nat → ClassId} {A : Nat → Prop} {xi : Nat × Nat × (Nat → Int32)} : cl_callV (XM l D cy A xi) := by
  intro M pc L rest S k0 n0 P i k1 n1 k2 n2 N As Mid b cn h hcv hrm ho hcn hlen hr8 hk hn kx kr kt
  intro p e R s mm args below meth c ls H locs cells slots Q C hH hS hl hc hs hF
  exact run_vx (hs_runV C hH hS hcv hrm ho hcn hlen hr8 (show F0 mm pc ls (As.reverse ++ .ref b :: rest) = _ from rfl) h hl (by omega) (by omega) kx) hS (fun v S' H' locs' c9 s9 kl nl hkl hnl hM hH' hS' => W.widen (k := cells + (k0 - (k2 + kl))) (n := slots + (n0 - (n2 + nl))) (by omega) (by omega) (kr v S' kl nl hM p e R s mm args below meth c ls H' locs' (cells + (k0 - (k2 + kl))) (slots + (n0 - (n2 + nl))) Q C hH' hS' hl (by omega) (by omega) (by rw [show cells + (k0 - (k2 + kl)) + (k2 + kl) = cells + k0 by omega, show slots + (n0 - (n2 + nl)) + (n2 + nl) = slots + n0 by omega]; exact hF))) (fun E S' H' locs' q cx hM hH' hS' h1 h2 h3 => vx_widen (k := cells + k0) (n := slots + n0) (by omega) (by omega) (hF.2.1 E S' H' locs' q cx pc ls rest (kt E S' hM).2 hH' hS' h1 h2 h3 (kt E S' hM).1))
theorem sd_callS {l : Launch} {D : va_G} {cy : Nat → ClassId} {A : Nat → Prop} {xi : Nat × Nat × (Nat → Int32)} : cl_callS (XM l D cy A xi) := by
  intro M pc L rest S k0 n0 P i k1 n1 k2 n2 N As Mid h hcv hrm hlen hr8 hk hn kx kr kt
  intro p e R s mm args below meth c ls H locs cells slots Q C hH hS hl hc hs hF
  exact run_vx (hs_runS C hH hS hcv hrm hlen hr8 h hl (by omega) (by omega) kx) hS (fun v S' H' locs' c9 s9 kl nl hkl hnl hM hH' hS' => W.widen (k := cells + (k0 - (k2 + kl))) (n := slots + (n0 - (n2 + nl))) (by omega) (by omega) (kr v S' kl nl hM p e R s mm args below meth c ls H' locs' (cells + (k0 - (k2 + kl))) (slots + (n0 - (n2 + nl))) Q C hH' hS' hl (by omega) (by omega) (by rw [show cells + (k0 - (k2 + kl)) + (k2 + kl) = cells + k0 by omega, show slots + (n0 - (n2 + nl)) + (n2 + nl) = slots + n0 by omega]; exact hF))) (fun E S' H' locs' q cx hM hH' hS' h1 h2 h3 => vx_widen (k := cells + k0) (n := slots + n0) (by omega) (by omega) (hF.2.1 E S' H' locs' q cx pc ls rest (kt E S' hM).2 hH' hS' h1 h2 h3 (kt E S' hM).1))
theorem sd_callSN {l : Launch} {D : va_G} {cy : Nat → ClassId} {A : Nat → Prop} {xi : Nat × Nat × (Nat → Int32)} : cl_callSN (XM l D cy A xi) := by
  intro M pc L rest S k0 n0 P i k1 n1 k2 n2 N As Mid h hcv hrm hlen hr8 hk hn kx kr kt
  intro p e R s mm args below meth c ls H locs cells slots Q C hH hS hl hc hs hF
  exact run_mt (hs_runSN C hH hS hcv hrm hlen hr8 h hl (by omega) (by omega) kt kx) hS (fun v S' H' locs' kl nl hM hH' hS' => W.widen (k := cells + (k0 - k2)) (n := slots + (n0 - n2)) (by omega) (by omega) (kr v S' kl nl hM p e R s mm args below meth c ls H' locs' (cells + (k0 - k2)) (slots + (n0 - n2)) Q C hH' hS' hl (by omega) (by omega) (by rw [show cells + (k0 - k2) + k2 = cells + k0 by omega, show slots + (n0 - n2) + n2 = slots + n0 by omega]; exact hF)))
theorem sd_callI {l : Launch} {D : va_G} {cy : Nat → ClassId} {A : Nat → Prop} {xi : Nat × Nat × (Nat → Int32)} : cl_callI (XM l D cy A xi) := by
  intro M pc L rest S k0 n0 P i k1 n1 k2 n2 N As Mid b h hcv hrm hlen hr8 hk hn kx kr kt
  intro p e R s mm args below meth c ls H locs cells slots Q C hH hS hl hc hs hF
  exact run_mt (hs_runI C hH hS hcv hrm hlen hr8 h hl (by omega) (by omega) kt kx) hS (fun v S' H' locs' kl nl hM hH' hS' => W.widen (k := cells + (k0 - k2)) (n := slots + (n0 - n2)) (by omega) (by omega) (kr v S' kl nl hM p e R s mm args below meth c ls H' locs' (cells + (k0 - k2)) (slots + (n0 - n2)) Q C hH' hS' hl (by omega) (by omega) (by rw [show cells + (k0 - k2) + k2 = cells + k0 by omega, show slots + (n0 - n2) + n2 = slots + n0 by omega]; exact hF)))
theorem sd_callIN {l : Launch} {D : va_G} {cy : Nat → ClassId} {A : Nat → Prop} {xi : Nat × Nat × (Nat → Int32)} : cl_callIN (XM l D cy A xi) := by
  intro M pc L rest S k0 n0 P i k1 n1 k2 n2 N As Mid b h hcv hrm hlen hr8 hk hn kx kr kt
  intro p e R s mm args below meth c ls H locs cells slots Q C hH hS hl hc hs hF
  exact run_mt (hs_runIN C hH hS hcv hrm hlen hr8 h hl (by omega) (by omega) kt kx) hS (fun v S' H' locs' kl nl hM hH' hS' => W.widen (k := cells + (k0 - k2)) (n := slots + (n0 - n2)) (by omega) (by omega) (kr v S' kl nl hM p e R s mm args below meth c ls H' locs' (cells + (k0 - k2)) (slots + (n0 - n2)) Q C hH' hS' hl (by omega) (by omega) (by rw [show cells + (k0 - k2) + k2 = cells + k0 by omega, show slots + (n0 - n2) + n2 = slots + n0 by omega]; exact hF)))
theorem sd_callVC {l : Launch} {D : va_G} {cy : Nat → ClassId} {A : Nat → Prop} {xi : Nat × Nat × (Nat → Int32)} : cl_callVC (XM l D cy A xi) := by
  intro M pc L rest S k0 n0 P i k1 n1 k2 n2 N As Mid b cn hp h hcv hrm ho hcn hlen hr8 hk hn hch kx kr kt
  intro p e R s mm args below meth c ls H locs cells slots Q C hH hS hl hc hs hF
  exact run_vx (hs_runV C hH hS hcv hrm ho hcn hlen hr8 (show F0 mm pc ls (As.reverse ++ .ref b :: rest) = _ from rfl) h hl (by omega) (by omega) kx) hS (fun v S' H' locs' c9 s9 kl nl hkl hnl hM hH' hS' => W.widen (k := cells + (k0 - (k2 + kl))) (n := slots + (n0 - (n2 + nl))) (by omega) (by omega) (kr v S' kl nl hM p e R s mm args below meth c ls H' locs' (cells + (k0 - (k2 + kl))) (slots + (n0 - (n2 + nl))) Q C hH' hS' hl (by omega) (by omega) (by rw [show cells + (k0 - (k2 + kl)) + (k2 + kl) = cells + k0 by omega, show slots + (n0 - (n2 + nl)) + (n2 + nl) = slots + n0 by omega]; exact hF))) (fun E S' H' locs' q cx hM hH' hS' h1 h2 h3 => hs_catch C (hch E S' hM) h1 h2 h3 (W.widen (k := cells + (k0 - k2)) (n := slots + (n0 - n2)) (by omega) (by omega) (kt E S' q hM p e R s mm args below meth c ls H' locs' (cells + (k0 - k2)) (slots + (n0 - n2)) Q C hH' hS' hl (by omega) (by omega) (by rw [show cells + (k0 - k2) + k2 = cells + k0 by omega, show slots + (n0 - n2) + n2 = slots + n0 by omega]; exact hF))))
theorem sd_callSW {l : Launch} {D : va_G} {cy : Nat → ClassId} {A : Nat → Prop} {xi : Nat × Nat × (Nat → Int32)} : cl_callSW (XM l D cy A xi) := by
  intro M pc L rest S k0 n0 P i k1 n1 k2 n2 N As Mid h hcv hrm hlen hr8 hk hn kx kr kt
  intro p e R s mm args below meth c ls H locs cells slots Q C hH hS hl hc hs hF
  exact run_vo (hs_runSW C hH hS hcv hrm hlen hr8 h hl (by omega) (by omega) kx) hS kt (fun v S' H' locs' kl nl hM hH' hS' => W.widen (k := cells + (k0 - k2)) (n := slots + (n0 - n2)) (by omega) (by omega) (kr v S' kl nl hM p e R s mm args below meth c ls H' locs' (cells + (k0 - k2)) (slots + (n0 - n2)) Q C hH' hS' hl (by omega) (by omega) (by rw [show cells + (k0 - k2) + k2 = cells + k0 by omega, show slots + (n0 - n2) + n2 = slots + n0 by omega]; exact hF)))
theorem sg_0 {l : Launch} {D : va_G} {cy : Nat → ClassId} {A : Nat → Prop} {xi : Nat × Nat × (Nat → Int32)} : cg_0 xi (XM l D cy A xi) := ⟨sd_iconst, sd_bipush, sd_sipush, sd_lconst, sd_null, sd_iload_n, sd_iload, sd_lload_n⟩
theorem sg_1 {l : Launch} {D : va_G} {cy : Nat → ClassId} {A : Nat → Prop} {xi : Nat × Nat × (Nat → Int32)} : cg_1 xi (XM l D cy A xi) := ⟨sd_lload, sd_aload_n, sd_aload, sd_aload_nN, sd_aloadN, sd_istore_n, sd_istore, sd_lstore_n⟩
theorem sg_2 {l : Launch} {D : va_G} {cy : Nat → ClassId} {A : Nat → Prop} {xi : Nat × Nat × (Nat → Int32)} : cg_2 xi (XM l D cy A xi) := ⟨sd_lstore, sd_astore_n, sd_astore, sd_astore_nN, sd_astoreN, sd_iinc, sd_iadd, sd_isub⟩
theorem sg_3 {l : Launch} {D : va_G} {cy : Nat → ClassId} {A : Nat → Prop} {xi : Nat × Nat × (Nat → Int32)} : cg_3 xi (XM l D cy A xi) := ⟨sd_imul, sd_iand, sd_ior, sd_ixor, sd_ishl, sd_ishr, sd_iushr, sd_idiv⟩
theorem sg_4 {l : Launch} {D : va_G} {cy : Nat → ClassId} {A : Nat → Prop} {xi : Nat × Nat × (Nat → Int32)} : cg_4 xi (XM l D cy A xi) := ⟨sd_irem, sd_ineg, sd_ladd, sd_lsub, sd_lmul, sd_land, sd_lor, sd_lxor⟩
theorem sg_5 {l : Launch} {D : va_G} {cy : Nat → ClassId} {A : Nat → Prop} {xi : Nat × Nat × (Nat → Int32)} : cg_5 xi (XM l D cy A xi) := ⟨sd_ldiv, sd_lrem, sd_lneg, sd_lshl, sd_lshr, sd_lushr, sd_i2l, sd_l2i⟩
theorem sg_6 {l : Launch} {D : va_G} {cy : Nat → ClassId} {A : Nat → Prop} {xi : Nat × Nat × (Nat → Int32)} : cg_6 xi (XM l D cy A xi) := ⟨sd_i2b, sd_lcmp, sd_dup, sd_pop, sd_dup2_2, sd_dup2_11, sd_pop2_2, sd_if_eq⟩
theorem sg_7 {l : Launch} {D : va_G} {cy : Nat → ClassId} {A : Nat → Prop} {xi : Nat × Nat × (Nat → Int32)} : cg_7 xi (XM l D cy A xi) := ⟨sd_icmp_eq, sd_if_ne, sd_icmp_ne, sd_if_lt, sd_icmp_lt, sd_if_ge, sd_icmp_ge, sd_if_gt⟩
theorem sg_8 {l : Launch} {D : va_G} {cy : Nat → ClassId} {A : Nat → Prop} {xi : Nat × Nat × (Nat → Int32)} : cg_8 xi (XM l D cy A xi) := ⟨sd_icmp_gt, sd_if_le, sd_icmp_le, sd_goto, sd_ifnonnull, sd_ifnull, sd_ifnullN, sd_ifnonnullN⟩
theorem sg_9 {l : Launch} {D : va_G} {cy : Nat → ClassId} {A : Nat → Prop} {xi : Nat × Nat × (Nat → Int32)} : cg_9 xi (XM l D cy A xi) := ⟨sd_lookup, sd_tableOut, sd_tableIn, sd_loc, sd_getI, sd_getJ, sd_getR, sd_putI⟩
theorem sg_10 {l : Launch} {D : va_G} {cy : Nat → ClassId} {A : Nat → Prop} {xi : Nat × Nat × (Nat → Int32)} : cg_10 xi (XM l D cy A xi) := ⟨sd_putJ, sd_putR, sd_iaload, sd_laload, sd_zaload, sd_aaload, sd_iastore, sd_lastore⟩
theorem sg_11 {l : Launch} {D : va_G} {cy : Nat → ClassId} {A : Nat → Prop} {xi : Nat × Nat × (Nat → Int32)} : cg_11 xi (XM l D cy A xi) := ⟨sd_zastore, sd_aastore, sd_newo, sd_ldc2, sd_ldcw, sd_ldc, sd_objInit, sd_sld⟩
theorem sg_12 {l : Launch} {D : va_G} {cy : Nat → ClassId} {A : Nat → Prop} {xi : Nat × Nat × (Nat → Int32)} : cg_12 xi (XM l D cy A xi) := ⟨sd_slen, sd_newI, sd_newJ, sd_newZ, sd_newP, sd_copyl, sd_ret, sd_throw⟩
theorem sg_13 {l : Launch} {D : va_G} {cy : Nat → ClassId} {A : Nat → Prop} {xi : Nat × Nat × (Nat → Int32)} : cg_13 xi (XM l D cy A xi) := ⟨sd_callV, sd_callS, sd_callSN, sd_callI, sd_callIN, sd_callVC, sd_callSW⟩
theorem sound {l : Launch} {D : va_G} {cy : Nat → ClassId} {A : Nat → Prop} {xi : Nat × Nat × (Nat → Int32)} : cl_all xi (XM l D cy A xi) := ⟨sg_0, sg_1, sg_2, sg_3, sg_4, sg_5, sg_6, sg_7, sg_8, sg_9, sg_10, sg_11, sg_12, sg_13⟩

