/-! ===== the product (written by wip/whole/gen/model5.py) ===== -/
