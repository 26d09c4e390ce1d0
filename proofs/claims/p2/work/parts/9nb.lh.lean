theorem tri3 (y : Int32) : rg (-2147483648) (-1) y ∨ rg (4) (2147483647) y ∨ rg (0) (3) y := by
  have h := rg_any y
  unfold rg at *
  omega
theorem tri2 (y : Int32) : rg (-2147483648) (-1) y ∨ rg (3) (2147483647) y ∨ rg (0) (2) y := by
  have h := rg_any y
  unfold rg at *
  omega
theorem tri_3 {y : Int32} (h : rg (0) (3) y) : y.toNatClampNeg < 4 := by
  have h1 := Int32.toNat_toInt y
  have h2 := h.1
  have h3 := h.2
  omega
theorem tri_2 {y : Int32} (h : rg (0) (2) y) : y.toNatClampNeg < 3 := by
  have h1 := Int32.toNat_toInt y
  have h2 := h.1
  have h3 := h.2
  omega
theorem sg_two {Xs : List va_W} {R : va_W} : (Xs ++ [R]).flatten.Perm (List.flatten [Xs.flatten, R]) := List.Perm.of_eq (by rw [List.flatten_append]; rfl)
theorem db_T {x t : Int32} (h : db x t 20) : x.toInt ≤ t.toInt + 20 := by unfold db at h; omega
theorem tl20 {a b : Int32} {k : Int} (h : a = b) (hk : 0 ≤ k := by decide) : a.toInt ≤ b.toInt + k := by rw [h]; omega
theorem IC_ob {cy : Nat → ClassId} {nx_ : Nat} {W : va_W} {C : CSt → Prop} (k : ∀ (ntp_ : Nat) (tapeLength_ : Int32) (faultKind_ : Int32) (faultPlace_ : Int32) (nrd_ : Nat) (no_ : Nat) (nhi_ : Nat) (nf_ : Nat) (ny_ : Nat) (nff_ : Nat) (nty_ : Nat) (nim_ : Nat) (drawn_ : Int32) (ftp_ : Nat → Int32) (fff_ : Nat → Int32) (nd_ : Nat) (hour_ : Int32) (ns_ : Nat) (nc_ : Nat) (nl_ : Nat) (nt_ : Nat) (nh_ : Nat) (fallen_ : Int32) (fs_ : Nat → Int32) (fc_ : Nat → Int32) (fl_ : Nat → Int32) (ft_ : Nat → Int32) (fh_ : Nat → Int32) (hv_ : HiT) (iv_ : Nat → Option (ScT × HiT)) (tv_ : Nat → TrT) (dd_ : Nat → DiT) (TB MB PB FB YB HB RB : va_W) (pd : Nat → Prop), IC cy nx_ ((tapeLength_, ftp_, faultKind_, faultPlace_), (nd_, hour_, fs_, fc_, fl_, ft_, fh_), hv_, iv_, tv_, dd_) W → rg (0) (900) tapeLength_ → TY cy nty_ tv_ TB → MG cy pd nim_ iv_ MB → PL cy pd dd_ PB → FC cy nf_ FB → WY cy ny_ YB → HI cy pd nhi_ hv_ HB → RD cy nrd_ RB → pd nd_ → W.Perm (List.flatten [TB, MB, PB, FB, YB, HB, RB, [(nx_, .inr (10, [.ref ntp_, .int tapeLength_, .int faultKind_, .int faultPlace_, .ref nrd_, .ref no_, .ref nhi_, .ref nf_, .ref ny_, .ref nff_, .ref nty_, .ref nim_, .int drawn_]))], [(ntp_, .inl (cy 1, 900, .inl (ftp_)))], [(nff_, .inl (cy 0, 61, .inl (fff_)))], [(no_, .inr (6, [.ref nd_, .int hour_, .ref ns_, .ref nc_, .ref nl_, .ref nt_, .ref nh_, .int fallen_]))], [(ns_, .inl (cy 0, 8, .inl (fs_)))], [(nc_, .inl (cy 0, 8, .inl (fc_)))], [(nl_, .inl (cy 0, 8, .inl (fl_)))], [(nt_, .inl (cy 0, 8, .inl (ft_)))], [(nh_, .inl (cy 0, 4, .inl (fh_)))]]) → C ((tapeLength_, ftp_, faultKind_, faultPlace_), (nd_, hour_, fs_, fc_, fl_, ft_, fh_), hv_, iv_, tv_, dd_)) : ∀ S_ : CSt, IC cy nx_ S_ W → C S_ := by
  intro S_ hI
  obtain ⟨ntp_, tapeLength_, faultKind_, faultPlace_, nrd_, no_, nhi_, nf_, ny_, nff_, nty_, nim_, drawn_, ftp_, fff_, nd_, hour_, ns_, nc_, nl_, nt_, nh_, fallen_, fs_, fc_, fl_, ft_, fh_, hv_, iv_, tv_, dd_, TB, MB, PB, FB, YB, HB, RB, pd, rfl, rtapeLength_, hTY, hMG, hPL, hFC, hWY, hHI, hRD, pd_nd_, hp⟩ := id hI
  exact k ntp_ tapeLength_ faultKind_ faultPlace_ nrd_ no_ nhi_ nf_ ny_ nff_ nty_ nim_ drawn_ ftp_ fff_ nd_ hour_ ns_ nc_ nl_ nt_ nh_ fallen_ fs_ fc_ fl_ ft_ fh_ hv_ iv_ tv_ dd_ TB MB PB FB YB HB RB pd hI rtapeLength_ hTY hMG hPL hFC hWY hHI hRD pd_nd_ hp
