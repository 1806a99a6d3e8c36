/** The face of PaperMill as rows of numbers, so that runs can be made, kept and told. */
final class Calls {
  static final String[] NAMES = {
    "day", "dayOf", "kind", "rags", "heap", "load", "pair", "wire", "mouldOf", "vat", "furnish", "loft", "hides",
    "size", "sizeAll", "duty", "order", "fill", "best", "bestWorth", "hours", "foretell", "when", "mark", "oldA",
    "oldB", "lies", "nearest", "span", "heapOf", "beaterOf", "vatOf", "postOf", "orderOf", "sheets", "count"};
  static final int[] ARGUMENTS = {
    3, 2, 4, 2, 2, 3, 1, 3, 2, 2, 2, 1, 1,
    1, 0, 2, 5, 1, 1, 1, 1, 2, 1, 3, 3,
    3, 1, 1, 3, 2, 2, 2, 2, 2, 2, 1};

  private Calls() {}

  static int numberOf(String name) {
    for (int i = 0; i < NAMES.length; i++) if (NAMES[i].equals(name)) return i;
    throw new IllegalArgumentException(name);
  }

  static String tell(int[] c) {
    StringBuilder text = new StringBuilder(NAMES[c[0]]).append('(');
    for (int i = 1; i <= ARGUMENTS[c[0]]; i++) {
      if (i > 1) text.append(", ");
      text.append(NAMES[c[0]].equals("span") && i == 3 ? String.valueOf(c[i] != 0) : String.valueOf(c[i]));
    }
    return text.append(')').toString();
  }

  static int on(PaperMill x, int[] c) {
    switch (NAMES[c[0]]) {
      case "day": return x.day(c[1], c[2], c[3]);
      case "dayOf": return x.dayOf(c[1], c[2]);
      case "kind": return x.kind(c[1], c[2], c[3], c[4]);
      case "rags": return x.rags(c[1], c[2]);
      case "heap": return x.heap(c[1], c[2]);
      case "load": return x.load(c[1], c[2], c[3]);
      case "pair": return x.pair(c[1]);
      case "wire": return x.wire(c[1], c[2], c[3]);
      case "mouldOf": return x.mouldOf(c[1], c[2]);
      case "vat": return x.vat(c[1], c[2]);
      case "furnish": return x.furnish(c[1], c[2]);
      case "loft": return x.loft(c[1]);
      case "hides": return x.hides(c[1]);
      case "size": return x.size(c[1]);
      case "sizeAll": return x.sizeAll();
      case "duty": return x.duty(c[1], c[2]);
      case "order": return x.order(c[1], c[2], c[3], c[4], c[5]);
      case "fill": return x.fill(c[1]);
      case "best": return x.best(c[1]);
      case "bestWorth": return x.bestWorth(c[1]);
      case "hours": return x.hours(c[1]);
      case "foretell": return x.foretell(c[1], c[2]);
      case "when": return x.when(c[1]);
      case "mark": return x.mark(c[1], c[2], c[3]);
      case "oldA": return x.oldA(c[1], c[2], c[3]);
      case "oldB": return x.oldB(c[1], c[2], c[3]);
      case "lies": return x.lies(c[1]);
      case "nearest": return x.nearest(c[1]);
      case "span": return x.span(c[1], c[2], c[3] != 0);
      case "heapOf": return x.heapOf(c[1], c[2]);
      case "beaterOf": return x.beaterOf(c[1], c[2]);
      case "vatOf": return x.vatOf(c[1], c[2]);
      case "postOf": return x.postOf(c[1], c[2]);
      case "orderOf": return x.orderOf(c[1], c[2]);
      case "sheets": return x.sheets(c[1], c[2]);
      case "count": return x.count(c[1]);
      default: throw new IllegalArgumentException(NAMES[c[0]]);
    }
  }
}
