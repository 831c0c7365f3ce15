theorem hid_e {p : Prop} (h : hid p) : p := h
