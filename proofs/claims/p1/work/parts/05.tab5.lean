theorem okL_law : im_okC im_ms mL_law = true := by decide +kernel
