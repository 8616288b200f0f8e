/-! ===== the class: its calls, 4: multiply, digest (written by wip/whole/gen/cls19.py) ===== -/
