-- A KEY OF A SEED
def tvP (m s e : Nat → Int32) (i : Nat) : Int32 := redP (mmP m s i + e i).toInt64
def t0P (m s e : Nat → Int32) (i : Nat) : Int32 := rsP (tvP m s e i) (nI 256)
def upP (m s e : Nat → Int32) (i : Nat) : Int32 := (tvP m s e i - t0P m s e i) / nI 256
/-- the first n numbers written, of bt bits each, from byte fm on -/
def pkN (f v : Nat → Int32) (fm bt : Nat) : Nat → Nat → Int32
  | 0 => f
  | i + 1 => wrN (pkN f v fm bt i) fm (i * bt) (v i) bt
theorem cpy_segI (f g : Nat → Int32) (n : Nat) : va_cpy f g 0 0 n = segI f g n := by
  funext j
  unfold va_cpy segI
  by_cases h : j < n
  · rw [if_pos (by omega), if_pos h, show 0 + (j - 0) = j by omega]
  · rw [if_neg (by omega), if_neg h]
theorem cpy_sh (f g : Nat → Int32) {sp n j : Nat} (h : j < n) : shI f sp j = va_cpy f g sp 0 n j := by
  unfold va_cpy shI
  rw [if_pos (by omega), show j - 0 = j by omega]
theorem ctB_ext {f f' : Nat → Int32} {cnt : Nat} (b : Int32) (h : ∀ j, j < cnt → f j = f' j) : ctB f cnt b = ctB f' cnt b := by
  funext j
  unfold ctB
  by_cases hj : j < cnt
  · rw [if_pos hj, if_pos hj, h j hj]
  · rw [if_neg hj, if_neg hj]
theorem matP_ext {f f' : Nat → Int32} (h : ∀ j, j < 8 → f j = f' j) : matP f = matP f' := by
  funext j
  unfold matP
  rw [ctB_ext _ h]
theorem matP_at (rho : Nat → Int32) {k j : Nat} (hj : j < 16) : unP (HS (ctB rho 8 (nI k)) 9) j = matP rho (16 * k + j) := by
  unfold matP
  rw [show (16 * k + j) / 16 = k by omega, show (16 * k + j) % 16 = j by omega]
theorem smlP_lo (sig : Nat → Int32) (last : Nat) {j : Nat} (hj : j < 16) : smP (HS (ctB sig 8 (nI last)) 9) j = smlP sig last (0 + j) := by
  unfold smlP
  rw [show (0 + j) / 16 = 0 by omega, show (0 + j) % 16 = j by omega, Nat.add_zero]
theorem smlP_hi (sig : Nat → Int32) (last : Nat) {j : Nat} (hj : j < 16) : smP (HS (ctB sig 8 (nI (last + 1))) 9) j = smlP sig last (16 + j) := by
  unfold smlP
  rw [show (16 + j) / 16 = 1 by omega, show (16 + j) % 16 = j by omega]
theorem widP_lo (sig : Nat → Int32) (last : Nat) {j : Nat} (hj : j < 16) : wdP (HS (ctB sig 16 (nI last)) 17) j = widP sig last (0 + j) := by
  unfold widP
  rw [show (0 + j) / 16 = 0 by omega, show (0 + j) % 16 = j by omega, Nat.add_zero]
theorem widP_hi (sig : Nat → Int32) (last : Nat) {j : Nat} (hj : j < 16) : wdP (HS (ctB sig 16 (nI (last + 1))) 17) j = widP sig last (16 + j) := by
  unfold widP
  rw [show (16 + j) / 16 = 1 by omega, show (16 + j) % 16 = j by omega]
theorem uI_uI (X : Mm) (k : Nat) (f g : Nat → Int32) : uI (uI X k f) k g = uI X k g := by
  have e : va_up (va_up X.1 k f) k g = va_up X.1 k g := bx_uu _ _ _ _
  show (va_up (va_up X.1 k f) k g, X.2.1, X.2.2) = _
  rw [e]
  rfl
